section
-- ===== PART A: goes FIRST, ahead of the names: the tables' words, and 'selects' of the private methods out of them =====
/-- a private method of a class that the tables say can be made, by its rows of tables_1 -/
def lw_okq (q : MethodName × Nat) : Prop := (q.1.cls ≠ "java/lang/invoke/MethodHandle" ∧ q.1.cls ≠ "java/lang/invoke/VarHandle") ∧ Cond.instantiable q.1.cls q.2 ∈ tables_1 ∧ Cond.privateMethod q.1 ∈ tables_1 ∧ Cond.instanceMethod q.1 ∈ tables_1
theorem lw_p0 : lw_okq (⟨"SurprisedMayor$Text", "advance", "()V"⟩, 10) := ⟨⟨by decide +kernel, by decide +kernel⟩, List.mem_of_getElem? (i := 21) (by decide +kernel), List.mem_of_getElem? (i := 251) (by decide +kernel), List.mem_of_getElem? (i := 252) (by decide +kernel)⟩
theorem lw_p1 : lw_okq (⟨"SurprisedMayor$Text", "advanceOverNumber", "()V"⟩, 10) := ⟨⟨by decide +kernel, by decide +kernel⟩, List.mem_of_getElem? (i := 21) (by decide +kernel), List.mem_of_getElem? (i := 258) (by decide +kernel), List.mem_of_getElem? (i := 259) (by decide +kernel)⟩
theorem lw_p2 : lw_okq (⟨"SurprisedMayor$Text", "readItem", "()Z"⟩, 10) := ⟨⟨by decide +kernel, by decide +kernel⟩, List.mem_of_getElem? (i := 21) (by decide +kernel), List.mem_of_getElem? (i := 265) (by decide +kernel), List.mem_of_getElem? (i := 266) (by decide +kernel)⟩
theorem lw_p3 : lw_okq (⟨"SurprisedMayor$Text", "readKinds", "()Z"⟩, 10) := ⟨⟨by decide +kernel, by decide +kernel⟩, List.mem_of_getElem? (i := 21) (by decide +kernel), List.mem_of_getElem? (i := 269) (by decide +kernel), List.mem_of_getElem? (i := 270) (by decide +kernel)⟩
theorem lw_p4 : lw_okq (⟨"SurprisedMayor$Text", "readNumber", "(II)Z"⟩, 10) := ⟨⟨by decide +kernel, by decide +kernel⟩, List.mem_of_getElem? (i := 21) (by decide +kernel), List.mem_of_getElem? (i := 273) (by decide +kernel), List.mem_of_getElem? (i := 274) (by decide +kernel)⟩
theorem lw_p5 : lw_okq (⟨"SurprisedMayor$Text", "readPlaces", "()Z"⟩, 10) := ⟨⟨by decide +kernel, by decide +kernel⟩, List.mem_of_getElem? (i := 21) (by decide +kernel), List.mem_of_getElem? (i := 277) (by decide +kernel), List.mem_of_getElem? (i := 278) (by decide +kernel)⟩
theorem lw_p6 : lw_okq (⟨"SurprisedMayor$Text", "readPerson", "()Z"⟩, 10) := ⟨⟨by decide +kernel, by decide +kernel⟩, List.mem_of_getElem? (i := 21) (by decide +kernel), List.mem_of_getElem? (i := 281) (by decide +kernel), List.mem_of_getElem? (i := 282) (by decide +kernel)⟩
theorem lw_p7 : lw_okq (⟨"SurprisedMayor$Text", "readEnd", "()Z"⟩, 10) := ⟨⟨by decide +kernel, by decide +kernel⟩, List.mem_of_getElem? (i := 21) (by decide +kernel), List.mem_of_getElem? (i := 289) (by decide +kernel), List.mem_of_getElem? (i := 290) (by decide +kernel)⟩
theorem lw_p8 : lw_okq (⟨"SurprisedMayor$Foresight", "leads", "(LSurprisedMayor$Town;LSurprisedMayor$Now;III)Z"⟩, 2) := ⟨⟨by decide +kernel, by decide +kernel⟩, List.mem_of_getElem? (i := 150) (by decide +kernel), List.mem_of_getElem? (i := 420) (by decide +kernel), List.mem_of_getElem? (i := 421) (by decide +kernel)⟩
theorem lw_p9 : lw_okq (⟨"SurprisedMayor$Foresight", "behind", "(LSurprisedMayor$Town;LSurprisedMayor$Now;III)LSurprisedMayor$Now;"⟩, 2) := ⟨⟨by decide +kernel, by decide +kernel⟩, List.mem_of_getElem? (i := 150) (by decide +kernel), List.mem_of_getElem? (i := 424) (by decide +kernel), List.mem_of_getElem? (i := 425) (by decide +kernel)⟩
theorem lw_p10 : lw_okq (⟨"SurprisedMayor$Foresight", "winsBehind", "(LSurprisedMayor$Town;LSurprisedMayor$Now;IIZI)Z"⟩, 2) := ⟨⟨by decide +kernel, by decide +kernel⟩, List.mem_of_getElem? (i := 150) (by decide +kernel), List.mem_of_getElem? (i := 441) (by decide +kernel), List.mem_of_getElem? (i := 442) (by decide +kernel)⟩
theorem lw_p11 : lw_okq (⟨"SurprisedMayor$Foresight", "firstWins", "(LSurprisedMayor$Town;LSurprisedMayor$Now;IIZ)Z"⟩, 2) := ⟨⟨by decide +kernel, by decide +kernel⟩, List.mem_of_getElem? (i := 150) (by decide +kernel), List.mem_of_getElem? (i := 446) (by decide +kernel), List.mem_of_getElem? (i := 447) (by decide +kernel)⟩
theorem lw_p12 : lw_okq (⟨"SurprisedMayor$Foresight", "waysBehind", "(LSurprisedMayor$Town;LSurprisedMayor$Now;III)I"⟩, 2) := ⟨⟨by decide +kernel, by decide +kernel⟩, List.mem_of_getElem? (i := 150) (by decide +kernel), List.mem_of_getElem? (i := 466) (by decide +kernel), List.mem_of_getElem? (i := 467) (by decide +kernel)⟩
theorem lw_p13 : lw_okq (⟨"SurprisedMayor", "asOne", "(I)I"⟩, 9) := ⟨⟨by decide +kernel, by decide +kernel⟩, List.mem_of_getElem? (i := 13) (by decide +kernel), List.mem_of_getElem? (i := 514) (by decide +kernel), List.mem_of_getElem? (i := 515) (by decide +kernel)⟩
theorem lw_p14 : lw_okq (⟨"SurprisedMayor", "asGirl", "(I)I"⟩, 9) := ⟨⟨by decide +kernel, by decide +kernel⟩, List.mem_of_getElem? (i := 13) (by decide +kernel), List.mem_of_getElem? (i := 518) (by decide +kernel), List.mem_of_getElem? (i := 519) (by decide +kernel)⟩
theorem lw_p15 : lw_okq (⟨"SurprisedMayor", "asCool", "(I)I"⟩, 9) := ⟨⟨by decide +kernel, by decide +kernel⟩, List.mem_of_getElem? (i := 13) (by decide +kernel), List.mem_of_getElem? (i := 523) (by decide +kernel), List.mem_of_getElem? (i := 524) (by decide +kernel)⟩
def lw_privs_1 : List (MethodName × Nat) := [(⟨"SurprisedMayor$Text", "advance", "()V"⟩, 10), (⟨"SurprisedMayor$Text", "advanceOverNumber", "()V"⟩, 10), (⟨"SurprisedMayor$Text", "readItem", "()Z"⟩, 10), (⟨"SurprisedMayor$Text", "readKinds", "()Z"⟩, 10), (⟨"SurprisedMayor$Text", "readNumber", "(II)Z"⟩, 10), (⟨"SurprisedMayor$Text", "readPlaces", "()Z"⟩, 10), (⟨"SurprisedMayor$Text", "readPerson", "()Z"⟩, 10), (⟨"SurprisedMayor$Text", "readEnd", "()Z"⟩, 10), (⟨"SurprisedMayor$Foresight", "leads", "(LSurprisedMayor$Town;LSurprisedMayor$Now;III)Z"⟩, 2), (⟨"SurprisedMayor$Foresight", "behind", "(LSurprisedMayor$Town;LSurprisedMayor$Now;III)LSurprisedMayor$Now;"⟩, 2), (⟨"SurprisedMayor$Foresight", "winsBehind", "(LSurprisedMayor$Town;LSurprisedMayor$Now;IIZI)Z"⟩, 2), (⟨"SurprisedMayor$Foresight", "firstWins", "(LSurprisedMayor$Town;LSurprisedMayor$Now;IIZ)Z"⟩, 2), (⟨"SurprisedMayor$Foresight", "waysBehind", "(LSurprisedMayor$Town;LSurprisedMayor$Now;III)I"⟩, 2), (⟨"SurprisedMayor", "asOne", "(I)I"⟩, 9), (⟨"SurprisedMayor", "asGirl", "(I)I"⟩, 9), (⟨"SurprisedMayor", "asCool", "(I)I"⟩, 9)]
theorem lw_r1 : ∀ q ∈ lw_privs_1, lw_okq q := List.forall_mem_cons.mpr ⟨lw_p0, List.forall_mem_cons.mpr ⟨lw_p1, List.forall_mem_cons.mpr ⟨lw_p2, List.forall_mem_cons.mpr ⟨lw_p3, List.forall_mem_cons.mpr ⟨lw_p4, List.forall_mem_cons.mpr ⟨lw_p5, List.forall_mem_cons.mpr ⟨lw_p6, List.forall_mem_cons.mpr ⟨lw_p7, List.forall_mem_cons.mpr ⟨lw_p8, List.forall_mem_cons.mpr ⟨lw_p9, List.forall_mem_cons.mpr ⟨lw_p10, List.forall_mem_cons.mpr ⟨lw_p11, List.forall_mem_cons.mpr ⟨lw_p12, List.forall_mem_cons.mpr ⟨lw_p13, List.forall_mem_cons.mpr ⟨lw_p14, List.forall_mem_cons.mpr ⟨lw_p15, fun _ h => absurd h List.not_mem_nil⟩⟩⟩⟩⟩⟩⟩⟩⟩⟩⟩⟩⟩⟩⟩⟩
theorem lw_p16 : lw_okq (⟨"SurprisedMayor", "asChild", "(I)I"⟩, 9) := ⟨⟨by decide +kernel, by decide +kernel⟩, List.mem_of_getElem? (i := 13) (by decide +kernel), List.mem_of_getElem? (i := 528) (by decide +kernel), List.mem_of_getElem? (i := 529) (by decide +kernel)⟩
theorem lw_p17 : lw_okq (⟨"SurprisedMayor", "asSage", "(I)I"⟩, 9) := ⟨⟨by decide +kernel, by decide +kernel⟩, List.mem_of_getElem? (i := 13) (by decide +kernel), List.mem_of_getElem? (i := 533) (by decide +kernel), List.mem_of_getElem? (i := 534) (by decide +kernel)⟩
theorem lw_p18 : lw_okq (⟨"SurprisedMayor", "asTwin", "(I)I"⟩, 9) := ⟨⟨by decide +kernel, by decide +kernel⟩, List.mem_of_getElem? (i := 13) (by decide +kernel), List.mem_of_getElem? (i := 538) (by decide +kernel), List.mem_of_getElem? (i := 539) (by decide +kernel)⟩
theorem lw_p19 : lw_okq (⟨"SurprisedMayorModel", "begins", "()V"⟩, 24) := ⟨⟨by decide +kernel, by decide +kernel⟩, List.mem_of_getElem? (i := 563) (by decide +kernel), List.mem_of_getElem? (i := 569) (by decide +kernel), List.mem_of_getElem? (i := 570) (by decide +kernel)⟩
theorem lw_p20 : lw_okq (⟨"SurprisedMayorModel", "settles", "()V"⟩, 24) := ⟨⟨by decide +kernel, by decide +kernel⟩, List.mem_of_getElem? (i := 563) (by decide +kernel), List.mem_of_getElem? (i := 573) (by decide +kernel), List.mem_of_getElem? (i := 574) (by decide +kernel)⟩
theorem lw_p21 : lw_okq (⟨"SurprisedMayorModel", "advances", "()V"⟩, 24) := ⟨⟨by decide +kernel, by decide +kernel⟩, List.mem_of_getElem? (i := 563) (by decide +kernel), List.mem_of_getElem? (i := 668) (by decide +kernel), List.mem_of_getElem? (i := 669) (by decide +kernel)⟩
theorem lw_p22 : lw_okq (⟨"SurprisedMayorModel", "letterAt", "(I)I"⟩, 24) := ⟨⟨by decide +kernel, by decide +kernel⟩, List.mem_of_getElem? (i := 563) (by decide +kernel), List.mem_of_getElem? (i := 672) (by decide +kernel), List.mem_of_getElem? (i := 673) (by decide +kernel)⟩
theorem lw_p23 : lw_okq (⟨"SurprisedMayorModel", "isWell", "()Z"⟩, 24) := ⟨⟨by decide +kernel, by decide +kernel⟩, List.mem_of_getElem? (i := 563) (by decide +kernel), List.mem_of_getElem? (i := 679) (by decide +kernel), List.mem_of_getElem? (i := 680) (by decide +kernel)⟩
theorem lw_p24 : lw_okq (⟨"SurprisedMayorModel", "mayBegin", "()Z"⟩, 24) := ⟨⟨by decide +kernel, by decide +kernel⟩, List.mem_of_getElem? (i := 563) (by decide +kernel), List.mem_of_getElem? (i := 683) (by decide +kernel), List.mem_of_getElem? (i := 684) (by decide +kernel)⟩
theorem lw_p25 : lw_okq (⟨"SurprisedMayorModel", "takes", "(Z)I"⟩, 24) := ⟨⟨by decide +kernel, by decide +kernel⟩, List.mem_of_getElem? (i := 563) (by decide +kernel), List.mem_of_getElem? (i := 687) (by decide +kernel), List.mem_of_getElem? (i := 688) (by decide +kernel)⟩
theorem lw_p26 : lw_okq (⟨"SurprisedMayorModel", "readsItem", "(I)V"⟩, 24) := ⟨⟨by decide +kernel, by decide +kernel⟩, List.mem_of_getElem? (i := 563) (by decide +kernel), List.mem_of_getElem? (i := 691) (by decide +kernel), List.mem_of_getElem? (i := 692) (by decide +kernel)⟩
theorem lw_p27 : lw_okq (⟨"SurprisedMayorModel", "number", "(II)I"⟩, 24) := ⟨⟨by decide +kernel, by decide +kernel⟩, List.mem_of_getElem? (i := 563) (by decide +kernel), List.mem_of_getElem? (i := 695) (by decide +kernel), List.mem_of_getElem? (i := 696) (by decide +kernel)⟩
theorem lw_p28 : lw_okq (⟨"SurprisedMayorModel", "isOne", "(I)Z"⟩, 24) := ⟨⟨by decide +kernel, by decide +kernel⟩, List.mem_of_getElem? (i := 563) (by decide +kernel), List.mem_of_getElem? (i := 703) (by decide +kernel), List.mem_of_getElem? (i := 704) (by decide +kernel)⟩
theorem lw_p29 : lw_okq (⟨"SurprisedMayorModel", "allSeen", "([II)I"⟩, 24) := ⟨⟨by decide +kernel, by decide +kernel⟩, List.mem_of_getElem? (i := 563) (by decide +kernel), List.mem_of_getElem? (i := 707) (by decide +kernel), List.mem_of_getElem? (i := 708) (by decide +kernel)⟩
theorem lw_p30 : lw_okq (⟨"SurprisedMayorModel", "isKind", "(I)Z"⟩, 24) := ⟨⟨by decide +kernel, by decide +kernel⟩, List.mem_of_getElem? (i := 563) (by decide +kernel), List.mem_of_getElem? (i := 715) (by decide +kernel), List.mem_of_getElem? (i := 716) (by decide +kernel)⟩
theorem lw_p31 : lw_okq (⟨"SurprisedMayorModel", "surpriseOf", "([III)I"⟩, 24) := ⟨⟨by decide +kernel, by decide +kernel⟩, List.mem_of_getElem? (i := 563) (by decide +kernel), List.mem_of_getElem? (i := 723) (by decide +kernel), List.mem_of_getElem? (i := 724) (by decide +kernel)⟩
def lw_privs_2 : List (MethodName × Nat) := [(⟨"SurprisedMayor", "asChild", "(I)I"⟩, 9), (⟨"SurprisedMayor", "asSage", "(I)I"⟩, 9), (⟨"SurprisedMayor", "asTwin", "(I)I"⟩, 9), (⟨"SurprisedMayorModel", "begins", "()V"⟩, 24), (⟨"SurprisedMayorModel", "settles", "()V"⟩, 24), (⟨"SurprisedMayorModel", "advances", "()V"⟩, 24), (⟨"SurprisedMayorModel", "letterAt", "(I)I"⟩, 24), (⟨"SurprisedMayorModel", "isWell", "()Z"⟩, 24), (⟨"SurprisedMayorModel", "mayBegin", "()Z"⟩, 24), (⟨"SurprisedMayorModel", "takes", "(Z)I"⟩, 24), (⟨"SurprisedMayorModel", "readsItem", "(I)V"⟩, 24), (⟨"SurprisedMayorModel", "number", "(II)I"⟩, 24), (⟨"SurprisedMayorModel", "isOne", "(I)Z"⟩, 24), (⟨"SurprisedMayorModel", "allSeen", "([II)I"⟩, 24), (⟨"SurprisedMayorModel", "isKind", "(I)Z"⟩, 24), (⟨"SurprisedMayorModel", "surpriseOf", "([III)I"⟩, 24)]
theorem lw_r2 : ∀ q ∈ lw_privs_2, lw_okq q := List.forall_mem_cons.mpr ⟨lw_p16, List.forall_mem_cons.mpr ⟨lw_p17, List.forall_mem_cons.mpr ⟨lw_p18, List.forall_mem_cons.mpr ⟨lw_p19, List.forall_mem_cons.mpr ⟨lw_p20, List.forall_mem_cons.mpr ⟨lw_p21, List.forall_mem_cons.mpr ⟨lw_p22, List.forall_mem_cons.mpr ⟨lw_p23, List.forall_mem_cons.mpr ⟨lw_p24, List.forall_mem_cons.mpr ⟨lw_p25, List.forall_mem_cons.mpr ⟨lw_p26, List.forall_mem_cons.mpr ⟨lw_p27, List.forall_mem_cons.mpr ⟨lw_p28, List.forall_mem_cons.mpr ⟨lw_p29, List.forall_mem_cons.mpr ⟨lw_p30, List.forall_mem_cons.mpr ⟨lw_p31, fun _ h => absurd h List.not_mem_nil⟩⟩⟩⟩⟩⟩⟩⟩⟩⟩⟩⟩⟩⟩⟩⟩
theorem lw_p32 : lw_okq (⟨"SurprisedMayorModel", "allTerms", "()I"⟩, 24) := ⟨⟨by decide +kernel, by decide +kernel⟩, List.mem_of_getElem? (i := 563) (by decide +kernel), List.mem_of_getElem? (i := 735) (by decide +kernel), List.mem_of_getElem? (i := 736) (by decide +kernel)⟩
theorem lw_p33 : lw_okq (⟨"SurprisedMayorModel", "mostSurprise", "()I"⟩, 24) := ⟨⟨by decide +kernel, by decide +kernel⟩, List.mem_of_getElem? (i := 563) (by decide +kernel), List.mem_of_getElem? (i := 739) (by decide +kernel), List.mem_of_getElem? (i := 740) (by decide +kernel)⟩
theorem lw_p34 : lw_okq (⟨"SurprisedMayorModel", "isPlace", "(I)Z"⟩, 24) := ⟨⟨by decide +kernel, by decide +kernel⟩, List.mem_of_getElem? (i := 563) (by decide +kernel), List.mem_of_getElem? (i := 747) (by decide +kernel), List.mem_of_getElem? (i := 748) (by decide +kernel)⟩
theorem lw_p35 : lw_okq (⟨"SurprisedMayorModel", "keepsBefore", "()V"⟩, 24) := ⟨⟨by decide +kernel, by decide +kernel⟩, List.mem_of_getElem? (i := 563) (by decide +kernel), List.mem_of_getElem? (i := 751) (by decide +kernel), List.mem_of_getElem? (i := 752) (by decide +kernel)⟩
theorem lw_p36 : lw_okq (⟨"SurprisedMayorModel", "event", "([III)I"⟩, 24) := ⟨⟨by decide +kernel, by decide +kernel⟩, List.mem_of_getElem? (i := 563) (by decide +kernel), List.mem_of_getElem? (i := 755) (by decide +kernel), List.mem_of_getElem? (i := 756) (by decide +kernel)⟩
theorem lw_p37 : lw_okq (⟨"SurprisedMayorModel", "events", "()I"⟩, 24) := ⟨⟨by decide +kernel, by decide +kernel⟩, List.mem_of_getElem? (i := 563) (by decide +kernel), List.mem_of_getElem? (i := 783) (by decide +kernel), List.mem_of_getElem? (i := 784) (by decide +kernel)⟩
theorem lw_p38 : lw_okq (⟨"SurprisedMayorModel", "mayorBy", "(II)I"⟩, 24) := ⟨⟨by decide +kernel, by decide +kernel⟩, List.mem_of_getElem? (i := 563) (by decide +kernel), List.mem_of_getElem? (i := 790) (by decide +kernel), List.mem_of_getElem? (i := 791) (by decide +kernel)⟩
theorem lw_p39 : lw_okq (⟨"SurprisedMayorModel", "eventAt", "(III)I"⟩, 24) := ⟨⟨by decide +kernel, by decide +kernel⟩, List.mem_of_getElem? (i := 563) (by decide +kernel), List.mem_of_getElem? (i := 794) (by decide +kernel), List.mem_of_getElem? (i := 795) (by decide +kernel)⟩
theorem lw_p40 : lw_okq (⟨"SurprisedMayorModel", "saysOf", "(I)I"⟩, 24) := ⟨⟨by decide +kernel, by decide +kernel⟩, List.mem_of_getElem? (i := 563) (by decide +kernel), List.mem_of_getElem? (i := 798) (by decide +kernel), List.mem_of_getElem? (i := 799) (by decide +kernel)⟩
theorem lw_p41 : lw_okq (⟨"SurprisedMayorModel", "canBe", "(II)Z"⟩, 24) := ⟨⟨by decide +kernel, by decide +kernel⟩, List.mem_of_getElem? (i := 563) (by decide +kernel), List.mem_of_getElem? (i := 829) (by decide +kernel), List.mem_of_getElem? (i := 830) (by decide +kernel)⟩
theorem lw_p42 : lw_okq (⟨"SurprisedMayorModel", "withTerms", "()I"⟩, 24) := ⟨⟨by decide +kernel, by decide +kernel⟩, List.mem_of_getElem? (i := 563) (by decide +kernel), List.mem_of_getElem? (i := 850) (by decide +kernel), List.mem_of_getElem? (i := 851) (by decide +kernel)⟩
def lw_privs_3 : List (MethodName × Nat) := [(⟨"SurprisedMayorModel", "allTerms", "()I"⟩, 24), (⟨"SurprisedMayorModel", "mostSurprise", "()I"⟩, 24), (⟨"SurprisedMayorModel", "isPlace", "(I)Z"⟩, 24), (⟨"SurprisedMayorModel", "keepsBefore", "()V"⟩, 24), (⟨"SurprisedMayorModel", "event", "([III)I"⟩, 24), (⟨"SurprisedMayorModel", "events", "()I"⟩, 24), (⟨"SurprisedMayorModel", "mayorBy", "(II)I"⟩, 24), (⟨"SurprisedMayorModel", "eventAt", "(III)I"⟩, 24), (⟨"SurprisedMayorModel", "saysOf", "(I)I"⟩, 24), (⟨"SurprisedMayorModel", "canBe", "(II)Z"⟩, 24), (⟨"SurprisedMayorModel", "withTerms", "()I"⟩, 24)]
theorem lw_r3 : ∀ q ∈ lw_privs_3, lw_okq q := List.forall_mem_cons.mpr ⟨lw_p32, List.forall_mem_cons.mpr ⟨lw_p33, List.forall_mem_cons.mpr ⟨lw_p34, List.forall_mem_cons.mpr ⟨lw_p35, List.forall_mem_cons.mpr ⟨lw_p36, List.forall_mem_cons.mpr ⟨lw_p37, List.forall_mem_cons.mpr ⟨lw_p38, List.forall_mem_cons.mpr ⟨lw_p39, List.forall_mem_cons.mpr ⟨lw_p40, List.forall_mem_cons.mpr ⟨lw_p41, List.forall_mem_cons.mpr ⟨lw_p42, fun _ h => absurd h List.not_mem_nil⟩⟩⟩⟩⟩⟩⟩⟩⟩⟩⟩
def lw_privs : List (MethodName × Nat) := lw_privs_1 ++ (lw_privs_2 ++ (lw_privs_3))
def lw_tbl : List Cond := k2_sels lw_privs ++ tables_1
theorem lw_privs_ok : ∀ q ∈ lw_privs, lw_okq q := by
  show ∀ q ∈ lw_privs_1 ++ (lw_privs_2 ++ (lw_privs_3)), lw_okq q
  exact List.forall_mem_append.mpr ⟨lw_r1, List.forall_mem_append.mpr ⟨lw_r2, lw_r3⟩⟩
end
section
def RX0 : String := "SurprisedMayor$Foresight"
def TX0 : u_T := fun k => match k with
  | 0 => ("SurprisedMayor$Foresight", "rows", "[LSurprisedMayor$Now;", true)
  | _ => ("SurprisedMayor$Foresight", "planned", "[I", true)
def tyX0 : Nat → FieldType := fun k => match k with
  | 0 => .array (.object "SurprisedMayor$Now")
  | _ => .array .int
abbrev wsX00 : List Cond := u_ws RX0 TX0 2
theorem nmX0 : ∀ a, a < 2 → ∀ b, b < 2 → a ≠ b → (TX0 a).2.1 ≠ (TX0 b).2.1 := by decide +kernel
theorem tyX0_ok : ∀ k, k < 2 → parseFieldDescriptor (TX0 k).2.2.1 = some (tyX0 k) := by decide +kernel
abbrev cX0_init : ByteArray := prog_2_method_1_code
def yX0_init : MethodName := ⟨RX0, "<init>", "()V"⟩
abbrev cX0_behind : ByteArray := prog_2_method_2_code
def yX0_behind : MethodName := ⟨RX0, "behind", "(LSurprisedMayor$Town;LSurprisedMayor$Now;III)LSurprisedMayor$Now;"⟩
abbrev cX0_fewest : ByteArray := prog_2_method_3_code
def yX0_fewest : MethodName := ⟨RX0, "fewest", "(LSurprisedMayor$Town;LSurprisedMayor$Now;I)I"⟩
abbrev cX0_leads : ByteArray := prog_2_method_4_code
def yX0_leads : MethodName := ⟨RX0, "leads", "(LSurprisedMayor$Town;LSurprisedMayor$Now;III)Z"⟩
abbrev cX0_opening : ByteArray := prog_2_method_5_code
def yX0_opening : MethodName := ⟨RX0, "opening", "(LSurprisedMayor$Town;LSurprisedMayor$Now;II)I"⟩
abbrev cX0_winsBehind : ByteArray := prog_2_method_6_code
def yX0_winsBehind : MethodName := ⟨RX0, "winsBehind", "(LSurprisedMayor$Town;LSurprisedMayor$Now;IIZI)Z"⟩
abbrev cX0_firstWins : ByteArray := prog_2_method_7_code
def yX0_firstWins : MethodName := ⟨RX0, "firstWins", "(LSurprisedMayor$Town;LSurprisedMayor$Now;IIZ)Z"⟩
abbrev cX0_timesTillStale : ByteArray := prog_2_method_8_code
def yX0_timesTillStale : MethodName := ⟨RX0, "timesTillStale", "(LSurprisedMayor$Town;LSurprisedMayor$Now;II)I"⟩
abbrev cX0_ways : ByteArray := prog_2_method_9_code
def yX0_ways : MethodName := ⟨RX0, "ways", "(LSurprisedMayor$Town;LSurprisedMayor$Now;III)I"⟩
abbrev cX0_waysBehind : ByteArray := prog_2_method_10_code
def yX0_waysBehind : MethodName := ⟨RX0, "waysBehind", "(LSurprisedMayor$Town;LSurprisedMayor$Now;III)I"⟩
def RX1 : String := "SurprisedMayor$Notebook"
def TX1 : u_T := fun k => match k with
  | 0 => ("SurprisedMayor$Notebook", "persons", "[I", true)
  | 1 => ("SurprisedMayor$Notebook", "kinds", "[I", true)
  | 2 => ("SurprisedMayor$Notebook", "jumps", "[Z", true)
  | 3 => ("SurprisedMayor$Notebook", "noted", "I", false)
  | 4 => ("SurprisedMayor$Notebook", "least", "I", false)
  | _ => ("SurprisedMayor$Notebook", "greatest", "I", false)
def tyX1 : Nat → FieldType := fun k => match k with
  | 0 => .array .int
  | 1 => .array .int
  | 2 => .array .boolean
  | 3 => .int
  | 4 => .int
  | _ => .int
abbrev wsX10 : List Cond := u_ws RX1 TX1 6
theorem nmX1 : ∀ a, a < 6 → ∀ b, b < 6 → a ≠ b → (TX1 a).2.1 ≠ (TX1 b).2.1 := by decide +kernel
theorem tyX1_ok : ∀ k, k < 6 → parseFieldDescriptor (TX1 k).2.2.1 = some (tyX1 k) := by decide +kernel
abbrev cX1_init : ByteArray := prog_3_method_1_code
def yX1_init : MethodName := ⟨RX1, "<init>", "()V"⟩
abbrev cX1_add : ByteArray := prog_3_method_2_code
def yX1_add : MethodName := ⟨RX1, "add", "(IIZ)V"⟩
abbrev cX1_weigh : ByteArray := prog_3_method_3_code
def yX1_weigh : MethodName := ⟨RX1, "weigh", "(LSurprisedMayor$Town;LSurprisedMayor$Now;I)V"⟩
abbrev cX1_possible : ByteArray := prog_3_method_4_code
def yX1_possible : MethodName := ⟨RX1, "possible", "()I"⟩
abbrev cX1_bestTry : ByteArray := prog_3_method_5_code
def yX1_bestTry : MethodName := ⟨RX1, "bestTry", "(LSurprisedMayor$Town;LSurprisedMayor$Now;I)I"⟩
def RX2 : String := "SurprisedMayor$Now"
def TX2 : u_T := fun k => match k with
  | 0 => ("SurprisedMayor$Now", "mayor", "I", false)
  | 1 => ("SurprisedMayor$Now", "place", "[I", true)
  | 2 => ("SurprisedMayor$Now", "terms", "[I", true)
  | 3 => ("SurprisedMayor$Now", "seenCells", "[I", true)
  | _ => ("SurprisedMayor$Now", "seenInAll", "[I", true)
def tyX2 : Nat → FieldType := fun k => match k with
  | 0 => .int
  | 1 => .array .int
  | 2 => .array .int
  | 3 => .array .int
  | _ => .array .int
abbrev wsX20 : List Cond := u_ws RX2 TX2 5
theorem nmX2 : ∀ a, a < 5 → ∀ b, b < 5 → a ≠ b → (TX2 a).2.1 ≠ (TX2 b).2.1 := by decide +kernel
theorem tyX2_ok : ∀ k, k < 5 → parseFieldDescriptor (TX2 k).2.2.1 = some (tyX2 k) := by decide +kernel
abbrev cX2_init : ByteArray := prog_4_method_1_code
def yX2_init : MethodName := ⟨RX2, "<init>", "()V"⟩
abbrev cX2_reset : ByteArray := prog_4_method_2_code
def yX2_reset : MethodName := ⟨RX2, "reset", "()V"⟩
abbrev cX2_copyFrom : ByteArray := prog_4_method_3_code
def yX2_copyFrom : MethodName := ⟨RX2, "copyFrom", "(LSurprisedMayor$Now;)V"⟩
abbrev cX2_seenOf : ByteArray := prog_4_method_4_code
def yX2_seenOf : MethodName := ⟨RX2, "seenOf", "(II)I"⟩
abbrev cX2_addSeen : ByteArray := prog_4_method_5_code
def yX2_addSeen : MethodName := ⟨RX2, "addSeen", "(III)V"⟩
abbrev cX2_see : ByteArray := prog_4_method_6_code
def yX2_see : MethodName := ⟨RX2, "see", "(II)V"⟩
abbrev cX2_crown : ByteArray := prog_4_method_7_code
def yX2_crown : MethodName := ⟨RX2, "crown", "(I)V"⟩
abbrev cX2_allTerms : ByteArray := prog_4_method_8_code
def yX2_allTerms : MethodName := ⟨RX2, "allTerms", "()I"⟩
abbrev cX2_termHolders : ByteArray := prog_4_method_9_code
def yX2_termHolders : MethodName := ⟨RX2, "termHolders", "()I"⟩
def RX3 : String := "SurprisedMayor$Past"
def TX3 : u_T := fun k => match k with
  | 0 => ("SurprisedMayor$Past", "rows", "[LSurprisedMayor$Now;", true)
  | 1 => ("SurprisedMayor$Past", "next", "I", false)
  | _ => ("SurprisedMayor$Past", "known", "I", false)
def tyX3 : Nat → FieldType := fun k => match k with
  | 0 => .array (.object "SurprisedMayor$Now")
  | 1 => .int
  | _ => .int
abbrev wsX30 : List Cond := u_ws RX3 TX3 3
theorem nmX3 : ∀ a, a < 3 → ∀ b, b < 3 → a ≠ b → (TX3 a).2.1 ≠ (TX3 b).2.1 := by decide +kernel
theorem tyX3_ok : ∀ k, k < 3 → parseFieldDescriptor (TX3 k).2.2.1 = some (tyX3 k) := by decide +kernel
abbrev cX3_init : ByteArray := prog_5_method_1_code
def yX3_init : MethodName := ⟨RX3, "<init>", "()V"⟩
abbrev cX3_remember : ByteArray := prog_5_method_2_code
def yX3_remember : MethodName := ⟨RX3, "remember", "(LSurprisedMayor$Now;)V"⟩
abbrev cX3_restore : ByteArray := prog_5_method_3_code
def yX3_restore : MethodName := ⟨RX3, "restore", "(LSurprisedMayor$Now;)V"⟩
def RX4 : String := "SurprisedMayor$Text"
def TX4 : u_T := fun k => match k with
  | 0 => ("SurprisedMayor$Text", "letters", "[I", true)
  | 1 => ("SurprisedMayor$Text", "length", "I", false)
  | 2 => ("SurprisedMayor$Text", "draftTown", "LSurprisedMayor$Town;", true)
  | 3 => ("SurprisedMayor$Text", "draftNow", "LSurprisedMayor$Now;", true)
  | 4 => ("SurprisedMayor$Text", "kindsTold", "Z", false)
  | 5 => ("SurprisedMayor$Text", "placesTold", "Z", false)
  | 6 => ("SurprisedMayor$Text", "at", "I", false)
  | 7 => ("SurprisedMayor$Text", "start", "I", false)
  | 8 => ("SurprisedMayor$Text", "token", "I", false)
  | _ => ("SurprisedMayor$Text", "number", "I", false)
def tyX4 : Nat → FieldType := fun k => match k with
  | 0 => .array .int
  | 1 => .int
  | 2 => .object "SurprisedMayor$Town"
  | 3 => .object "SurprisedMayor$Now"
  | 4 => .boolean
  | 5 => .boolean
  | 6 => .int
  | 7 => .int
  | 8 => .int
  | _ => .int
abbrev wsX40 : List Cond := u_ws RX4 TX4 10
theorem nmX4 : ∀ a, a < 10 → ∀ b, b < 10 → a ≠ b → (TX4 a).2.1 ≠ (TX4 b).2.1 := by decide +kernel
theorem tyX4_ok : ∀ k, k < 10 → parseFieldDescriptor (TX4 k).2.2.1 = some (tyX4 k) := by decide +kernel
abbrev cX4_init : ByteArray := prog_6_method_1_code
def yX4_init : MethodName := ⟨RX4, "<init>", "()V"⟩
abbrev cX4_read : ByteArray := prog_6_method_2_code
def yX4_read : MethodName := ⟨RX4, "read", "()I"⟩
abbrev cX4_readItem : ByteArray := prog_6_method_3_code
def yX4_readItem : MethodName := ⟨RX4, "readItem", "()Z"⟩
abbrev cX4_readKinds : ByteArray := prog_6_method_4_code
def yX4_readKinds : MethodName := ⟨RX4, "readKinds", "()Z"⟩
abbrev cX4_readPlaces : ByteArray := prog_6_method_5_code
def yX4_readPlaces : MethodName := ⟨RX4, "readPlaces", "()Z"⟩
abbrev cX4_readPerson : ByteArray := prog_6_method_6_code
def yX4_readPerson : MethodName := ⟨RX4, "readPerson", "()Z"⟩
abbrev cX4_readNumber : ByteArray := prog_6_method_7_code
def yX4_readNumber : MethodName := ⟨RX4, "readNumber", "(II)Z"⟩
abbrev cX4_readEnd : ByteArray := prog_6_method_8_code
def yX4_readEnd : MethodName := ⟨RX4, "readEnd", "()Z"⟩
abbrev cX4_advance : ByteArray := prog_6_method_9_code
def yX4_advance : MethodName := ⟨RX4, "advance", "()V"⟩
abbrev cX4_advanceOverNumber : ByteArray := prog_6_method_10_code
def yX4_advanceOverNumber : MethodName := ⟨RX4, "advanceOverNumber", "()V"⟩
abbrev cX4_isDigit : ByteArray := prog_6_method_11_code
def yX4_isDigit : MethodName := ⟨RX4, "isDigit", "(I)Z"⟩
def RX5 : String := "SurprisedMayor$Town"
def TX5 : u_T := fun k => match k with
  | 0 => ("SurprisedMayor$Town", "kinds", "I", false)
  | 1 => ("SurprisedMayor$Town", "places", "I", false)
  | 2 => ("SurprisedMayor$Town", "people", "I", false)
  | _ => ("SurprisedMayor$Town", "nerve", "[I", true)
def tyX5 : Nat → FieldType := fun k => match k with
  | 0 => .int
  | 1 => .int
  | 2 => .int
  | _ => .array .int
abbrev wsX50 : List Cond := u_ws RX5 TX5 4
theorem nmX5 : ∀ a, a < 4 → ∀ b, b < 4 → a ≠ b → (TX5 a).2.1 ≠ (TX5 b).2.1 := by decide +kernel
theorem tyX5_ok : ∀ k, k < 4 → parseFieldDescriptor (TX5 k).2.2.1 = some (tyX5 k) := by decide +kernel
abbrev cX5_init : ByteArray := prog_7_method_1_code
def yX5_init : MethodName := ⟨RX5, "<init>", "()V"⟩
abbrev cX5_reset : ByteArray := prog_7_method_2_code
def yX5_reset : MethodName := ⟨RX5, "reset", "()V"⟩
abbrev cX5_copyFrom : ByteArray := prog_7_method_3_code
def yX5_copyFrom : MethodName := ⟨RX5, "copyFrom", "(LSurprisedMayor$Town;)V"⟩
abbrev cX5_hasKind : ByteArray := prog_7_method_4_code
def yX5_hasKind : MethodName := ⟨RX5, "hasKind", "(I)Z"⟩
abbrev cX5_hasPlace : ByteArray := prog_7_method_5_code
def yX5_hasPlace : MethodName := ⟨RX5, "hasPlace", "(I)Z"⟩
abbrev cX5_hasPerson : ByteArray := prog_7_method_6_code
def yX5_hasPerson : MethodName := ⟨RX5, "hasPerson", "(I)Z"⟩
abbrev cX5_shock : ByteArray := prog_7_method_7_code
def yX5_shock : MethodName := ⟨RX5, "shock", "(LSurprisedMayor$Now;II)I"⟩
abbrev cX5_greatestShock : ByteArray := prog_7_method_8_code
def yX5_greatestShock : MethodName := ⟨RX5, "greatestShock", "(LSurprisedMayor$Now;)I"⟩
abbrev cX5_jumpers : ByteArray := prog_7_method_9_code
def yX5_jumpers : MethodName := ⟨RX5, "jumpers", "(LSurprisedMayor$Now;II)I"⟩
abbrev cX5_mayorBy : ByteArray := prog_7_method_10_code
def yX5_mayorBy : MethodName := ⟨RX5, "mayorBy", "(LSurprisedMayor$Now;II)I"⟩
abbrev cX5_happen : ByteArray := prog_7_method_11_code
def yX5_happen : MethodName := ⟨RX5, "happen", "(LSurprisedMayor$Now;II)I"⟩
def RX6 : String := "SurprisedMayor"
def TX6 : u_T := fun k => match k with
  | 0 => ("SurprisedMayor", "text", "LSurprisedMayor$Text;", true)
  | 1 => ("SurprisedMayor", "folk", "LSurprisedMayor$Town;", true)
  | 2 => ("SurprisedMayor", "present", "LSurprisedMayor$Now;", true)
  | 3 => ("SurprisedMayor", "past", "LSurprisedMayor$Past;", true)
  | 4 => ("SurprisedMayor", "foresight", "LSurprisedMayor$Foresight;", true)
  | 5 => ("SurprisedMayor", "notebook", "LSurprisedMayor$Notebook;", true)
  | 6 => ("SurprisedMayor", "images", "[LSurprisedMayor$Now;", true)
  | 7 => ("SurprisedMayor", "kept", "[Z", true)
  | _ => ("SurprisedMayor", "traced", "J", false)
def tyX6 : Nat → FieldType := fun k => match k with
  | 0 => .object "SurprisedMayor$Text"
  | 1 => .object "SurprisedMayor$Town"
  | 2 => .object "SurprisedMayor$Now"
  | 3 => .object "SurprisedMayor$Past"
  | 4 => .object "SurprisedMayor$Foresight"
  | 5 => .object "SurprisedMayor$Notebook"
  | 6 => .array (.object "SurprisedMayor$Now")
  | 7 => .array .boolean
  | _ => .long
abbrev wsX60 : List Cond := u_ws RX6 TX6 9
theorem nmX6 : ∀ a, a < 9 → ∀ b, b < 9 → a ≠ b → (TX6 a).2.1 ≠ (TX6 b).2.1 := by decide +kernel
theorem tyX6_ok : ∀ k, k < 9 → parseFieldDescriptor (TX6 k).2.2.1 = some (tyX6 k) := by decide +kernel
abbrev cX6_init : ByteArray := prog_1_method_1_code
def yX6_init : MethodName := ⟨RX6, "<init>", "()V"⟩
abbrev cX6_type : ByteArray := prog_1_method_2_code
def yX6_type : MethodName := ⟨RX6, "type", "(I)I"⟩
abbrev cX6_clear : ByteArray := prog_1_method_3_code
def yX6_clear : MethodName := ⟨RX6, "clear", "()I"⟩
abbrev cX6_town : ByteArray := prog_1_method_4_code
def yX6_town : MethodName := ⟨RX6, "town", "()I"⟩
abbrev cX6_person : ByteArray := prog_1_method_5_code
def yX6_person : MethodName := ⟨RX6, "person", "(II)I"⟩
abbrev cX6_seen : ByteArray := prog_1_method_6_code
def yX6_seen : MethodName := ⟨RX6, "seen", "(II)I"⟩
abbrev cX6_surprise : ByteArray := prog_1_method_7_code
def yX6_surprise : MethodName := ⟨RX6, "surprise", "(II)I"⟩
abbrev cX6_now : ByteArray := prog_1_method_8_code
def yX6_now : MethodName := ⟨RX6, "now", "(I)I"⟩
abbrev cX6_happens : ByteArray := prog_1_method_9_code
def yX6_happens : MethodName := ⟨RX6, "happens", "(II)I"⟩
abbrev cX6_walks : ByteArray := prog_1_method_10_code
def yX6_walks : MethodName := ⟨RX6, "walks", "(II)I"⟩
abbrev cX6_tells : ByteArray := prog_1_method_11_code
def yX6_tells : MethodName := ⟨RX6, "tells", "(II)I"⟩
abbrev cX6_abdicates : ByteArray := prog_1_method_12_code
def yX6_abdicates : MethodName := ⟨RX6, "abdicates", "()I"⟩
abbrev cX6_undo : ByteArray := prog_1_method_13_code
def yX6_undo : MethodName := ⟨RX6, "undo", "()I"⟩
abbrev cX6_who : ByteArray := prog_1_method_14_code
def yX6_who : MethodName := ⟨RX6, "who", "(II)I"⟩
abbrev cX6_plan : ByteArray := prog_1_method_15_code
def yX6_plan : MethodName := ⟨RX6, "plan", "(II)I"⟩
abbrev cX6_duel : ByteArray := prog_1_method_16_code
def yX6_duel : MethodName := ⟨RX6, "duel", "(III)I"⟩
abbrev cX6_stale : ByteArray := prog_1_method_17_code
def yX6_stale : MethodName := ⟨RX6, "stale", "(II)I"⟩
abbrev cX6_odds : ByteArray := prog_1_method_18_code
def yX6_odds : MethodName := ⟨RX6, "odds", "(IIII)I"⟩
abbrev cX6_notes : ByteArray := prog_1_method_19_code
def yX6_notes : MethodName := ⟨RX6, "notes", "(III)I"⟩
abbrev cX6_forget : ByteArray := prog_1_method_20_code
def yX6_forget : MethodName := ⟨RX6, "forget", "()I"⟩
abbrev cX6_nerves : ByteArray := prog_1_method_21_code
def yX6_nerves : MethodName := ⟨RX6, "nerves", "(II)I"⟩
abbrev cX6_test : ByteArray := prog_1_method_22_code
def yX6_test : MethodName := ⟨RX6, "test", "(I)I"⟩
abbrev cX6_rate : ByteArray := prog_1_method_23_code
def yX6_rate : MethodName := ⟨RX6, "rate", "(II)I"⟩
abbrev cX6_keep : ByteArray := prog_1_method_24_code
def yX6_keep : MethodName := ⟨RX6, "keep", "(I)I"⟩
abbrev cX6_back : ByteArray := prog_1_method_25_code
def yX6_back : MethodName := ⟨RX6, "back", "(I)I"⟩
abbrev cX6_count : ByteArray := prog_1_method_26_code
def yX6_count : MethodName := ⟨RX6, "count", "(I)I"⟩
abbrev cX6_trace : ByteArray := prog_1_method_27_code
def yX6_trace : MethodName := ⟨RX6, "trace", "()J"⟩
abbrev cX6_isBit : ByteArray := prog_1_method_28_code
def yX6_isBit : MethodName := ⟨RX6, "isBit", "(I)Z"⟩
abbrev cX6_commonDivisor : ByteArray := prog_1_method_29_code
def yX6_commonDivisor : MethodName := ⟨RX6, "commonDivisor", "(II)I"⟩
abbrev cX6_asOne : ByteArray := prog_1_method_30_code
def yX6_asOne : MethodName := ⟨RX6, "asOne", "(I)I"⟩
abbrev cX6_asGirl : ByteArray := prog_1_method_31_code
def yX6_asGirl : MethodName := ⟨RX6, "asGirl", "(I)I"⟩
abbrev cX6_asCool : ByteArray := prog_1_method_32_code
def yX6_asCool : MethodName := ⟨RX6, "asCool", "(I)I"⟩
abbrev cX6_asChild : ByteArray := prog_1_method_33_code
def yX6_asChild : MethodName := ⟨RX6, "asChild", "(I)I"⟩
abbrev cX6_asSage : ByteArray := prog_1_method_34_code
def yX6_asSage : MethodName := ⟨RX6, "asSage", "(I)I"⟩
abbrev cX6_asTwin : ByteArray := prog_1_method_35_code
def yX6_asTwin : MethodName := ⟨RX6, "asTwin", "(I)I"⟩
def RX7 : String := "SurprisedMayorModel"
def TX7 : u_T := fun k => match k with
  | 0 => ("SurprisedMayorModel", "thrown", "I", false)
  | 1 => ("SurprisedMayorModel", "trace", "J", false)
  | 2 => ("SurprisedMayorModel", "text", "[I", true)
  | 3 => ("SurprisedMayorModel", "typed", "I", false)
  | 4 => ("SurprisedMayorModel", "next", "I", false)
  | 5 => ("SurprisedMayorModel", "token", "I", false)
  | 6 => ("SurprisedMayorModel", "place", "I", false)
  | 7 => ("SurprisedMayorModel", "value", "I", false)
  | 8 => ("SurprisedMayorModel", "fault", "I", false)
  | 9 => ("SurprisedMayorModel", "told", "I", false)
  | 10 => ("SurprisedMayorModel", "many", "[I", true)
  | 11 => ("SurprisedMayorModel", "nerve", "[I", true)
  | 12 => ("SurprisedMayorModel", "draft", "[I", true)
  | 13 => ("SurprisedMayorModel", "s", "[I", true)
  | 14 => ("SurprisedMayorModel", "trial", "[I", true)
  | 15 => ("SurprisedMayorModel", "kept", "[I", true)
  | 16 => ("SurprisedMayorModel", "isKept", "[Z", true)
  | 17 => ("SurprisedMayorModel", "undos", "[I", true)
  | 18 => ("SurprisedMayorModel", "undoMany", "I", false)
  | 19 => ("SurprisedMayorModel", "notedOf", "[I", true)
  | 20 => ("SurprisedMayorModel", "notedBy", "[I", true)
  | 21 => ("SurprisedMayorModel", "noted", "[I", true)
  | 22 => ("SurprisedMayorModel", "notedMany", "I", false)
  | _ => ("SurprisedMayorModel", "wins", "[I", true)
def tyX7 : Nat → FieldType := fun k => match k with
  | 0 => .int
  | 1 => .long
  | 2 => .array .int
  | 3 => .int
  | 4 => .int
  | 5 => .int
  | 6 => .int
  | 7 => .int
  | 8 => .int
  | 9 => .int
  | 10 => .array .int
  | 11 => .array .int
  | 12 => .array .int
  | 13 => .array .int
  | 14 => .array .int
  | 15 => .array .int
  | 16 => .array .boolean
  | 17 => .array .int
  | 18 => .int
  | 19 => .array .int
  | 20 => .array .int
  | 21 => .array .int
  | 22 => .int
  | _ => .array .int
abbrev wsX70 : List Cond := u_ws RX7 TX7 24
theorem nmX7 : ∀ a, a < 24 → ∀ b, b < 24 → a ≠ b → (TX7 a).2.1 ≠ (TX7 b).2.1 := by decide +kernel
theorem tyX7_ok : ∀ k, k < 24 → parseFieldDescriptor (TX7 k).2.2.1 = some (tyX7 k) := by decide +kernel
abbrev cX7_init : ByteArray := prog_9_method_1_code
def yX7_init : MethodName := ⟨RX7, "<init>", "()V"⟩
abbrev cX7_in : ByteArray := prog_9_method_3_code
def yX7_in : MethodName := ⟨RX7, "in", "(III)Z"⟩
abbrev cX7_type : ByteArray := prog_9_method_4_code
def yX7_type : MethodName := ⟨RX7, "type", "(I)I"⟩
abbrev cX7_clear : ByteArray := prog_9_method_5_code
def yX7_clear : MethodName := ⟨RX7, "clear", "()I"⟩
abbrev cX7_letterAt : ByteArray := prog_9_method_6_code
def yX7_letterAt : MethodName := ⟨RX7, "letterAt", "(I)I"⟩
abbrev cX7_isLetter : ByteArray := prog_9_method_7_code
def yX7_isLetter : MethodName := ⟨RX7, "isLetter", "(I)Z"⟩
abbrev cX7_advances : ByteArray := prog_9_method_8_code
def yX7_advances : MethodName := ⟨RX7, "advances", "()V"⟩
abbrev cX7_isWell : ByteArray := prog_9_method_9_code
def yX7_isWell : MethodName := ⟨RX7, "isWell", "()Z"⟩
abbrev cX7_takes : ByteArray := prog_9_method_10_code
def yX7_takes : MethodName := ⟨RX7, "takes", "(Z)I"⟩
abbrev cX7_number : ByteArray := prog_9_method_11_code
def yX7_number : MethodName := ⟨RX7, "number", "(II)I"⟩
abbrev cX7_begins : ByteArray := prog_9_method_12_code
def yX7_begins : MethodName := ⟨RX7, "begins", "()V"⟩
abbrev cX7_mayBegin : ByteArray := prog_9_method_13_code
def yX7_mayBegin : MethodName := ⟨RX7, "mayBegin", "()Z"⟩
abbrev cX7_readsItem : ByteArray := prog_9_method_14_code
def yX7_readsItem : MethodName := ⟨RX7, "readsItem", "(I)V"⟩
abbrev cX7_town : ByteArray := prog_9_method_15_code
def yX7_town : MethodName := ⟨RX7, "town", "()I"⟩
abbrev cX7_settles : ByteArray := prog_9_method_16_code
def yX7_settles : MethodName := ⟨RX7, "settles", "()V"⟩
abbrev cX7_copies : ByteArray := prog_9_method_17_code
def yX7_copies : MethodName := ⟨RX7, "copies", "([I[I)V"⟩
abbrev cX7_isOne : ByteArray := prog_9_method_18_code
def yX7_isOne : MethodName := ⟨RX7, "isOne", "(I)Z"⟩
abbrev cX7_isKind : ByteArray := prog_9_method_19_code
def yX7_isKind : MethodName := ⟨RX7, "isKind", "(I)Z"⟩
abbrev cX7_isPlace : ByteArray := prog_9_method_20_code
def yX7_isPlace : MethodName := ⟨RX7, "isPlace", "(I)Z"⟩
abbrev cX7_allSeen : ByteArray := prog_9_method_21_code
def yX7_allSeen : MethodName := ⟨RX7, "allSeen", "([II)I"⟩
abbrev cX7_surpriseOf : ByteArray := prog_9_method_22_code
def yX7_surpriseOf : MethodName := ⟨RX7, "surpriseOf", "([III)I"⟩
abbrev cX7_person : ByteArray := prog_9_method_23_code
def yX7_person : MethodName := ⟨RX7, "person", "(II)I"⟩
abbrev cX7_seen : ByteArray := prog_9_method_24_code
def yX7_seen : MethodName := ⟨RX7, "seen", "(II)I"⟩
abbrev cX7_surprise : ByteArray := prog_9_method_25_code
def yX7_surprise : MethodName := ⟨RX7, "surprise", "(II)I"⟩
abbrev cX7_allTerms : ByteArray := prog_9_method_26_code
def yX7_allTerms : MethodName := ⟨RX7, "allTerms", "()I"⟩
abbrev cX7_mostSurprise : ByteArray := prog_9_method_27_code
def yX7_mostSurprise : MethodName := ⟨RX7, "mostSurprise", "()I"⟩
abbrev cX7_mayorOf : ByteArray := prog_9_method_28_code
def yX7_mayorOf : MethodName := ⟨RX7, "mayorOf", "([I)I"⟩
abbrev cX7_now : ByteArray := prog_9_method_29_code
def yX7_now : MethodName := ⟨RX7, "now", "(I)I"⟩
abbrev cX7_keepsBefore : ByteArray := prog_9_method_30_code
def yX7_keepsBefore : MethodName := ⟨RX7, "keepsBefore", "()V"⟩
abbrev cX7_event : ByteArray := prog_9_method_31_code
def yX7_event : MethodName := ⟨RX7, "event", "([III)I"⟩
abbrev cX7_happens : ByteArray := prog_9_method_32_code
def yX7_happens : MethodName := ⟨RX7, "happens", "(II)I"⟩
abbrev cX7_walks : ByteArray := prog_9_method_33_code
def yX7_walks : MethodName := ⟨RX7, "walks", "(II)I"⟩
abbrev cX7_tells : ByteArray := prog_9_method_34_code
def yX7_tells : MethodName := ⟨RX7, "tells", "(II)I"⟩
abbrev cX7_abdicates : ByteArray := prog_9_method_35_code
def yX7_abdicates : MethodName := ⟨RX7, "abdicates", "()I"⟩
abbrev cX7_undo : ByteArray := prog_9_method_36_code
def yX7_undo : MethodName := ⟨RX7, "undo", "()I"⟩
abbrev cX7_who : ByteArray := prog_9_method_37_code
def yX7_who : MethodName := ⟨RX7, "who", "(II)I"⟩
abbrev cX7_events : ByteArray := prog_9_method_38_code
def yX7_events : MethodName := ⟨RX7, "events", "()I"⟩
abbrev cX7_power : ByteArray := prog_9_method_39_code
def yX7_power : MethodName := ⟨RX7, "power", "(II)I"⟩
abbrev cX7_eventAt : ByteArray := prog_9_method_40_code
def yX7_eventAt : MethodName := ⟨RX7, "eventAt", "(III)I"⟩
abbrev cX7_mayorBy : ByteArray := prog_9_method_41_code
def yX7_mayorBy : MethodName := ⟨RX7, "mayorBy", "(II)I"⟩
abbrev cX7_saysOf : ByteArray := prog_9_method_42_code
def yX7_saysOf : MethodName := ⟨RX7, "saysOf", "(I)I"⟩
abbrev cX7_plan : ByteArray := prog_9_method_43_code
def yX7_plan : MethodName := ⟨RX7, "plan", "(II)I"⟩
abbrev cX7_duel : ByteArray := prog_9_method_44_code
def yX7_duel : MethodName := ⟨RX7, "duel", "(III)I"⟩
abbrev cX7_stale : ByteArray := prog_9_method_45_code
def yX7_stale : MethodName := ⟨RX7, "stale", "(II)I"⟩
abbrev cX7_gcd : ByteArray := prog_9_method_46_code
def yX7_gcd : MethodName := ⟨RX7, "gcd", "(II)I"⟩
abbrev cX7_odds : ByteArray := prog_9_method_47_code
def yX7_odds : MethodName := ⟨RX7, "odds", "(IIII)I"⟩
abbrev cX7_notes : ByteArray := prog_9_method_48_code
def yX7_notes : MethodName := ⟨RX7, "notes", "(III)I"⟩
abbrev cX7_forget : ByteArray := prog_9_method_49_code
def yX7_forget : MethodName := ⟨RX7, "forget", "()I"⟩
abbrev cX7_canBe : ByteArray := prog_9_method_50_code
def yX7_canBe : MethodName := ⟨RX7, "canBe", "(II)Z"⟩
abbrev cX7_nerves : ByteArray := prog_9_method_51_code
def yX7_nerves : MethodName := ⟨RX7, "nerves", "(II)I"⟩
abbrev cX7_test : ByteArray := prog_9_method_52_code
def yX7_test : MethodName := ⟨RX7, "test", "(I)I"⟩
abbrev cX7_rate : ByteArray := prog_9_method_53_code
def yX7_rate : MethodName := ⟨RX7, "rate", "(II)I"⟩
abbrev cX7_withTerms : ByteArray := prog_9_method_54_code
def yX7_withTerms : MethodName := ⟨RX7, "withTerms", "()I"⟩
abbrev cX7_keep : ByteArray := prog_9_method_55_code
def yX7_keep : MethodName := ⟨RX7, "keep", "(I)I"⟩
abbrev cX7_back : ByteArray := prog_9_method_56_code
def yX7_back : MethodName := ⟨RX7, "back", "(I)I"⟩
abbrev cX7_count : ByteArray := prog_9_method_57_code
def yX7_count : MethodName := ⟨RX7, "count", "(I)I"⟩
abbrev cX7_trace : ByteArray := prog_9_method_58_code
def yX7_trace : MethodName := ⟨RX7, "trace", "()J"⟩
def RJ9 : String := "java/lang/Math"
def TJ9 : u_T := fun k => match k with
  | _ => ("", "", "", false)
def tyJ9 : Nat → FieldType := fun k => match k with
  | _ => .int
abbrev wsJ90 : List Cond := u_ws RJ9 TJ9 0
theorem nmJ9 : ∀ a, a < 0 → ∀ b, b < 0 → a ≠ b → (TJ9 a).2.1 ≠ (TJ9 b).2.1 := by decide +kernel
theorem tyJ9_ok : ∀ k, k < 0 → parseFieldDescriptor (TJ9 k).2.2.1 = some (tyJ9 k) := by decide +kernel
abbrev cJ9_max_7cf53 : ByteArray := prog_10_method_65_code
def yJ9_max_7cf53 : MethodName := ⟨RJ9, "max", "(II)I"⟩
abbrev cJ9_min_7cf53 : ByteArray := prog_10_method_69_code
def yJ9_min_7cf53 : MethodName := ⟨RJ9, "min", "(II)I"⟩
def RJ10 : String := "java/lang/System"
def TJ10 : u_T := fun k => match k with
  | _ => ("", "", "", false)
def tyJ10 : Nat → FieldType := fun k => match k with
  | _ => .int
abbrev wsJ100 : List Cond := u_ws RJ10 TJ10 0
theorem nmJ10 : ∀ a, a < 0 → ∀ b, b < 0 → a ≠ b → (TJ10 a).2.1 ≠ (TJ10 b).2.1 := by decide +kernel
theorem tyJ10_ok : ∀ k, k < 0 → parseFieldDescriptor (TJ10 k).2.2.1 = some (tyJ10 k) := by decide +kernel
def RJ7 : String := "java/util/Arrays"
def TJ7 : u_T := fun k => match k with
  | _ => ("", "", "", false)
def tyJ7 : Nat → FieldType := fun k => match k with
  | _ => .int
abbrev wsJ70 : List Cond := u_ws RJ7 TJ7 0
theorem nmJ7 : ∀ a, a < 0 → ∀ b, b < 0 → a ≠ b → (TJ7 a).2.1 ≠ (TJ7 b).2.1 := by decide +kernel
theorem tyJ7_ok : ∀ k, k < 0 → parseFieldDescriptor (TJ7 k).2.2.1 = some (tyJ7 k) := by decide +kernel
abbrev cJ7_fill_53178 : ByteArray := prog_12_method_103_code
def yJ7_fill_53178 : MethodName := ⟨RJ7, "fill", "([II)V"⟩
def RL : String := "SurprisedMayorLaw"
abbrev cL_law : ByteArray := code
def yL_law : MethodName := ⟨RL, "law", "([I)Z"⟩
abbrev vwCl : List vw_C := [(RX0, TX0, 2), (RX1, TX1, 6), (RX2, TX2, 5), (RX3, TX3, 3), (RX4, TX4, 10), (RX5, TX5, 4), (RX6, TX6, 9), (RX7, TX7, 24)]
def gtb : List Cond := lw_tbl.filter goodWord
theorem gtbGood {w : Cond} (h : w ∈ gtb) : goodWord w = true := (List.mem_filter.mp h).2
theorem gtbIn {w : Cond} (h : w ∈ gtb) : w ∈ lw_tbl := (List.mem_filter.mp h).1
theorem tw0 {w : Cond} (i : Nat) (h : (k2_sels lw_privs)[i]? = some w) (g : goodWord w = true := by rfl) : w ∈ gtb := List.mem_filter.mpr ⟨List.mem_append_left _ (List.mem_of_getElem? h), g⟩
theorem tw1 {w : Cond} (i : Nat) (h : tables_1_1[i]? = some w) (g : goodWord w = true := by rfl) : w ∈ gtb := List.mem_filter.mpr ⟨List.mem_append_right _ (List.mem_append_left _ (List.mem_of_getElem? h)), g⟩
theorem tw2 {w : Cond} (i : Nat) (h : tables_1_2[i]? = some w) (g : goodWord w = true := by rfl) : w ∈ gtb := List.mem_filter.mpr ⟨List.mem_append_right _ (List.mem_append_right _ (List.mem_append_left _ (List.mem_of_getElem? h))), g⟩
theorem tw3 {w : Cond} (i : Nat) (h : tables_1_3[i]? = some w) (g : goodWord w = true := by rfl) : w ∈ gtb := List.mem_filter.mpr ⟨List.mem_append_right _ (List.mem_append_right _ (List.mem_append_right _ (List.mem_append_left _ (List.mem_of_getElem? h)))), g⟩
theorem tw4 {w : Cond} (i : Nat) (h : tables_1_4[i]? = some w) (g : goodWord w = true := by rfl) : w ∈ gtb := List.mem_filter.mpr ⟨List.mem_append_right _ (List.mem_append_right _ (List.mem_append_right _ (List.mem_append_right _ (List.mem_of_getElem? h)))), g⟩
theorem nw1 {w : Cond} (i : Nat) (h : tables_1_1[i]? = some w) : w ∈ lw_tbl := List.mem_append_right _ (List.mem_append_left _ (List.mem_of_getElem? h))
theorem nw2 {w : Cond} (i : Nat) (h : tables_1_2[i]? = some w) : w ∈ lw_tbl := List.mem_append_right _ (List.mem_append_right _ (List.mem_append_left _ (List.mem_of_getElem? h)))
def FA (own : String) (idx ci k : Nat) (ty : FieldType) (fin : Bool) : Prop := ∃ (C : String) (T : u_T) (N : Nat) (ty0 : Nat → FieldType), vwCl[ci]? = some (C, T, N) ∧ (∀ w ∈ u_ws C T N, w ∈ gtb) ∧ (∀ k, k < N → parseFieldDescriptor (T k).2.2.1 = some (ty0 k)) ∧ (∀ a, a < N → ∀ b, b < N → a ≠ b → (T a).2.1 ≠ (T b).2.1) ∧ k < N ∧ Cond.fieldLink own idx (T k).1 (T k).2.1 (T k).2.2.1 ∈ gtb ∧ (T k).2.2.2 = fin ∧ (T k).1 = C ∧ parseFieldDescriptor (T k).2.2.1 = some ty
def CY (y : MethodName) (cc : ByteArray) (mL : Nat) (rt : Option FieldType) (n : Nat) : Prop := Cond.initialized y.cls ∈ gtb ∧ Cond.code y cc mL rt ∈ gtb ∧ (y.cls ≠ "java/lang/invoke/MethodHandle" ∧ y.cls ≠ "java/lang/invoke/VarHandle" ∧ (parseMethodDescriptor y.desc).map (fun d => d.parameters.length) = some n)
def CV (own : String) (idx ci : Nat) (y : MethodName) (cc : ByteArray) (mL : Nat) (rt : Option FieldType) (n : Nat) : Prop := (∃ q, vwCl[ci]? = some q ∧ q.1 = y.cls) ∧ Cond.methodLink own idx y ∈ gtb ∧ Cond.instanceMethod y ∈ gtb ∧ Cond.selects y.cls y y ∈ gtb ∧ CY y cc mL rt n
def CS (own : String) (idx : Nat) (y : MethodName) (cc : ByteArray) (mL : Nat) (rt : Option FieldType) (n : Nat) : Prop := Cond.methodLink own idx y ∈ gtb ∧ Cond.static y ∈ gtb ∧ CY y cc mL rt n
def CI (own : String) (idx ci : Nat) (y : MethodName) (cc : ByteArray) (mL n : Nat) : Prop := (∃ q, vwCl[ci]? = some q ∧ q.1 = y.cls) ∧ Cond.instanceMethod y ∈ gtb ∧ y.name = "<init>" ∧ CY y cc mL none n
def dummy_names : Nat := 0
theorem inC0 : ∀ w ∈ u_ws RX0 TX0 2, w ∈ gtb := by
  show ∀ w ∈ [u_lay RX0 TX0 0, u_lay RX0 TX0 1], w ∈ gtb
  exact (List.forall_mem_cons.mpr ⟨tw1 160 rfl, (List.forall_mem_cons.mpr ⟨tw1 162 rfl, (fun _ h => absurd h List.not_mem_nil)⟩)⟩)
theorem inC1 : ∀ w ∈ u_ws RX1 TX1 6, w ∈ gtb := by
  show ∀ w ∈ [u_lay RX1 TX1 0, u_lay RX1 TX1 1, u_lay RX1 TX1 2, u_lay RX1 TX1 3, u_lay RX1 TX1 4, u_lay RX1 TX1 5], w ∈ gtb
  exact (List.forall_mem_cons.mpr ⟨tw1 180 rfl, (List.forall_mem_cons.mpr ⟨tw1 182 rfl, (List.forall_mem_cons.mpr ⟨tw1 184 rfl, (List.forall_mem_cons.mpr ⟨tw1 186 rfl, (List.forall_mem_cons.mpr ⟨tw1 188 rfl, (List.forall_mem_cons.mpr ⟨tw1 190 rfl, (fun _ h => absurd h List.not_mem_nil)⟩)⟩)⟩)⟩)⟩)⟩)
theorem inC2 : ∀ w ∈ u_ws RX2 TX2 5, w ∈ gtb := by
  show ∀ w ∈ [u_lay RX2 TX2 0, u_lay RX2 TX2 1, u_lay RX2 TX2 2, u_lay RX2 TX2 3, u_lay RX2 TX2 4], w ∈ gtb
  exact (List.forall_mem_cons.mpr ⟨tw1 79 rfl, (List.forall_mem_cons.mpr ⟨tw1 81 rfl, (List.forall_mem_cons.mpr ⟨tw1 83 rfl, (List.forall_mem_cons.mpr ⟨tw1 85 rfl, (List.forall_mem_cons.mpr ⟨tw1 87 rfl, (fun _ h => absurd h List.not_mem_nil)⟩)⟩)⟩)⟩)⟩)
theorem inC3 : ∀ w ∈ u_ws RX3 TX3 3, w ∈ gtb := by
  show ∀ w ∈ [u_lay RX3 TX3 0, u_lay RX3 TX3 1, u_lay RX3 TX3 2], w ∈ gtb
  exact (List.forall_mem_cons.mpr ⟨tw1 142 rfl, (List.forall_mem_cons.mpr ⟨tw1 144 rfl, (List.forall_mem_cons.mpr ⟨tw1 146 rfl, (fun _ h => absurd h List.not_mem_nil)⟩)⟩)⟩)
theorem inC4 : ∀ w ∈ u_ws RX4 TX4 10, w ∈ gtb := by
  show ∀ w ∈ [u_lay RX4 TX4 0, u_lay RX4 TX4 1, u_lay RX4 TX4 2, u_lay RX4 TX4 3, u_lay RX4 TX4 4, u_lay RX4 TX4 5, u_lay RX4 TX4 6, u_lay RX4 TX4 7, u_lay RX4 TX4 8, u_lay RX4 TX4 9], w ∈ gtb
  exact (List.forall_mem_cons.mpr ⟨tw1 104 rfl, (List.forall_mem_cons.mpr ⟨tw1 106 rfl, (List.forall_mem_cons.mpr ⟨tw1 108 rfl, (List.forall_mem_cons.mpr ⟨tw1 110 rfl, (List.forall_mem_cons.mpr ⟨tw1 112 rfl, (List.forall_mem_cons.mpr ⟨tw1 114 rfl, (List.forall_mem_cons.mpr ⟨tw1 116 rfl, (List.forall_mem_cons.mpr ⟨tw1 118 rfl, (List.forall_mem_cons.mpr ⟨tw1 120 rfl, (List.forall_mem_cons.mpr ⟨tw1 122 rfl, (fun _ h => absurd h List.not_mem_nil)⟩)⟩)⟩)⟩)⟩)⟩)⟩)⟩)⟩)⟩)
theorem inC5 : ∀ w ∈ u_ws RX5 TX5 4, w ∈ gtb := by
  show ∀ w ∈ [u_lay RX5 TX5 0, u_lay RX5 TX5 1, u_lay RX5 TX5 2, u_lay RX5 TX5 3], w ∈ gtb
  exact (List.forall_mem_cons.mpr ⟨tw1 47 rfl, (List.forall_mem_cons.mpr ⟨tw1 49 rfl, (List.forall_mem_cons.mpr ⟨tw1 51 rfl, (List.forall_mem_cons.mpr ⟨tw1 53 rfl, (fun _ h => absurd h List.not_mem_nil)⟩)⟩)⟩)⟩)
theorem inC6 : ∀ w ∈ u_ws RX6 TX6 9, w ∈ gtb := by
  show ∀ w ∈ [u_lay RX6 TX6 0, u_lay RX6 TX6 1, u_lay RX6 TX6 2, u_lay RX6 TX6 3, u_lay RX6 TX6 4, u_lay RX6 TX6 5, u_lay RX6 TX6 6, u_lay RX6 TX6 7, u_lay RX6 TX6 8], w ∈ gtb
  exact (List.forall_mem_cons.mpr ⟨tw1 203 rfl, (List.forall_mem_cons.mpr ⟨tw1 205 rfl, (List.forall_mem_cons.mpr ⟨tw1 207 rfl, (List.forall_mem_cons.mpr ⟨tw1 209 rfl, (List.forall_mem_cons.mpr ⟨tw1 211 rfl, (List.forall_mem_cons.mpr ⟨tw1 213 rfl, (List.forall_mem_cons.mpr ⟨tw1 215 rfl, (List.forall_mem_cons.mpr ⟨tw1 217 rfl, (List.forall_mem_cons.mpr ⟨tw1 219 rfl, (fun _ h => absurd h List.not_mem_nil)⟩)⟩)⟩)⟩)⟩)⟩)⟩)⟩)⟩)
theorem inC7 : ∀ w ∈ u_ws RX7 TX7 24, w ∈ gtb := by
  show ∀ w ∈ [u_lay RX7 TX7 0, u_lay RX7 TX7 1, u_lay RX7 TX7 2, u_lay RX7 TX7 3, u_lay RX7 TX7 4, u_lay RX7 TX7 5, u_lay RX7 TX7 6, u_lay RX7 TX7 7, u_lay RX7 TX7 8, u_lay RX7 TX7 9, u_lay RX7 TX7 10, u_lay RX7 TX7 11, u_lay RX7 TX7 12, u_lay RX7 TX7 13, u_lay RX7 TX7 14, u_lay RX7 TX7 15, u_lay RX7 TX7 16, u_lay RX7 TX7 17, u_lay RX7 TX7 18, u_lay RX7 TX7 19, u_lay RX7 TX7 20, u_lay RX7 TX7 21, u_lay RX7 TX7 22, u_lay RX7 TX7 23], w ∈ gtb
  exact (List.forall_mem_cons.mpr ⟨tw3 123 rfl, (List.forall_mem_cons.mpr ⟨tw3 125 rfl, (List.forall_mem_cons.mpr ⟨tw3 127 rfl, (List.forall_mem_cons.mpr ⟨tw3 129 rfl, (List.forall_mem_cons.mpr ⟨tw3 131 rfl, (List.forall_mem_cons.mpr ⟨tw3 133 rfl, (List.forall_mem_cons.mpr ⟨tw3 135 rfl, (List.forall_mem_cons.mpr ⟨tw3 137 rfl, (List.forall_mem_cons.mpr ⟨tw3 139 rfl, (List.forall_mem_cons.mpr ⟨tw3 141 rfl, (List.forall_mem_cons.mpr ⟨tw3 143 rfl, (List.forall_mem_cons.mpr ⟨tw3 145 rfl, (List.forall_mem_cons.mpr ⟨tw3 147 rfl, (List.forall_mem_cons.mpr ⟨tw3 149 rfl, (List.forall_mem_cons.mpr ⟨tw3 151 rfl, (List.forall_mem_cons.mpr ⟨tw3 153 rfl, (List.forall_mem_cons.mpr ⟨tw3 155 rfl, (List.forall_mem_cons.mpr ⟨tw3 157 rfl, (List.forall_mem_cons.mpr ⟨tw3 159 rfl, (List.forall_mem_cons.mpr ⟨tw3 161 rfl, (List.forall_mem_cons.mpr ⟨tw3 163 rfl, (List.forall_mem_cons.mpr ⟨tw3 165 rfl, (List.forall_mem_cons.mpr ⟨tw3 167 rfl, (List.forall_mem_cons.mpr ⟨tw3 169 rfl, (fun _ h => absurd h List.not_mem_nil)⟩)⟩)⟩)⟩)⟩)⟩)⟩)⟩)⟩)⟩)⟩)⟩)⟩)⟩)⟩)⟩)⟩)⟩)⟩)⟩)⟩)⟩)⟩)⟩)
theorem cy_X6_init : CY yX6_init cX6_init 1 none 0 := ⟨(tw1 1 rfl), (tw1 16 rfl), by decide +kernel⟩
theorem cy_X4_init : CY yX4_init cX4_init 1 none 0 := ⟨(tw1 2 rfl), (tw1 24 rfl), by decide +kernel⟩
theorem cy_X5_init : CY yX5_init cX5_init 1 none 0 := ⟨(tw1 3 rfl), (tw1 30 rfl), by decide +kernel⟩
theorem cy_X2_init : CY yX2_init cX2_init 1 none 0 := ⟨(tw1 4 rfl), (tw1 61 rfl), by decide +kernel⟩
theorem cy_X3_init : CY yX3_init cX3_init 2 none 0 := ⟨(tw1 5 rfl), (tw1 133 rfl), by decide +kernel⟩
theorem cy_X0_init : CY yX0_init cX0_init 2 none 0 := ⟨(tw1 6 rfl), (tw1 153 rfl), by decide +kernel⟩
theorem cy_X1_init : CY yX1_init cX1_init 1 none 0 := ⟨(tw1 7 rfl), (tw1 169 rfl), by decide +kernel⟩
theorem cy_X6_type : CY yX6_type cX6_type 2 (some .int) 1 := ⟨(tw1 1 rfl), (tw1 225 rfl), by decide +kernel⟩
theorem cy_X6_clear : CY yX6_clear cX6_clear 2 (some .int) 0 := ⟨(tw1 1 rfl), (tw1 229 rfl), by decide +kernel⟩
theorem cy_X6_town : CY yX6_town cX6_town 2 (some .int) 0 := ⟨(tw1 1 rfl), (tw1 233 rfl), by decide +kernel⟩
theorem cy_X4_read : CY yX4_read cX4_read 2 (some .int) 0 := ⟨(tw1 2 rfl), (tw1 237 rfl), by decide +kernel⟩
theorem cy_X5_reset : CY yX5_reset cX5_reset 1 none 0 := ⟨(tw1 3 rfl), (tw2 1 rfl), by decide +kernel⟩
theorem cy_J7_fill_53178 : CY yJ7_fill_53178 cJ7_fill_53178 4 none 2 := ⟨(tw1 9 rfl), (tw2 4 rfl), by decide +kernel⟩
theorem cy_X2_reset : CY yX2_reset cX2_reset 1 none 0 := ⟨(tw1 4 rfl), (tw2 8 rfl), by decide +kernel⟩
theorem cy_X4_advance : CY yX4_advance cX4_advance 2 none 0 := ⟨(tw1 2 rfl), (tw2 13 rfl), by decide +kernel⟩
theorem cy_X4_isDigit : CY yX4_isDigit cX4_isDigit 1 (some .boolean) 1 := ⟨(tw1 2 rfl), (tw2 16 rfl), by decide +kernel⟩
theorem cy_X4_advanceOverNumber : CY yX4_advanceOverNumber cX4_advanceOverNumber 3 none 0 := ⟨(tw1 2 rfl), (tw2 20 rfl), by decide +kernel⟩
theorem cy_J9_min_7cf53 : CY yJ9_min_7cf53 cJ9_min_7cf53 2 (some .int) 2 := ⟨(tw1 10 rfl), (tw2 23 rfl), by decide +kernel⟩
theorem cy_X4_readItem : CY yX4_readItem cX4_readItem 1 (some .boolean) 0 := ⟨(tw1 2 rfl), (tw2 27 rfl), by decide +kernel⟩
theorem cy_X4_readKinds : CY yX4_readKinds cX4_readKinds 1 (some .boolean) 0 := ⟨(tw1 2 rfl), (tw2 31 rfl), by decide +kernel⟩
theorem cy_X4_readNumber : CY yX4_readNumber cX4_readNumber 3 (some .boolean) 2 := ⟨(tw1 2 rfl), (tw2 35 rfl), by decide +kernel⟩
theorem cy_X4_readPlaces : CY yX4_readPlaces cX4_readPlaces 1 (some .boolean) 0 := ⟨(tw1 2 rfl), (tw2 39 rfl), by decide +kernel⟩
theorem cy_X4_readPerson : CY yX4_readPerson cX4_readPerson 3 (some .boolean) 0 := ⟨(tw1 2 rfl), (tw2 43 rfl), by decide +kernel⟩
theorem cy_X2_addSeen : CY yX2_addSeen cX2_addSeen 4 none 3 := ⟨(tw1 4 rfl), (tw2 47 rfl), by decide +kernel⟩
theorem cy_X4_readEnd : CY yX4_readEnd cX4_readEnd 1 (some .boolean) 0 := ⟨(tw1 2 rfl), (tw2 51 rfl), by decide +kernel⟩
theorem cy_X5_copyFrom : CY yX5_copyFrom cX5_copyFrom 2 none 1 := ⟨(tw1 3 rfl), (tw2 55 rfl), by decide +kernel⟩
theorem cy_X2_copyFrom : CY yX2_copyFrom cX2_copyFrom 2 none 1 := ⟨(tw1 4 rfl), (tw2 62 rfl), by decide +kernel⟩
theorem cy_X6_person : CY yX6_person cX6_person 3 (some .int) 2 := ⟨(tw1 1 rfl), (tw2 67 rfl), by decide +kernel⟩
theorem cy_X5_hasPerson : CY yX5_hasPerson cX5_hasPerson 2 (some .boolean) 1 := ⟨(tw1 3 rfl), (tw2 71 rfl), by decide +kernel⟩
theorem cy_X6_seen : CY yX6_seen cX6_seen 3 (some .int) 2 := ⟨(tw1 1 rfl), (tw2 75 rfl), by decide +kernel⟩
theorem cy_X5_hasKind : CY yX5_hasKind cX5_hasKind 2 (some .boolean) 1 := ⟨(tw1 3 rfl), (tw2 79 rfl), by decide +kernel⟩
theorem cy_X2_seenOf : CY yX2_seenOf cX2_seenOf 3 (some .int) 2 := ⟨(tw1 4 rfl), (tw2 83 rfl), by decide +kernel⟩
theorem cy_X6_surprise : CY yX6_surprise cX6_surprise 3 (some .int) 2 := ⟨(tw1 1 rfl), (tw2 87 rfl), by decide +kernel⟩
theorem cy_X5_shock : CY yX5_shock cX5_shock 5 (some .int) 3 := ⟨(tw1 3 rfl), (tw2 91 rfl), by decide +kernel⟩
theorem cy_X6_now : CY yX6_now cX6_now 2 (some .int) 1 := ⟨(tw1 1 rfl), (tw2 95 rfl), by decide +kernel⟩
theorem cy_X2_allTerms : CY yX2_allTerms cX2_allTerms 3 (some .int) 0 := ⟨(tw1 4 rfl), (tw2 99 rfl), by decide +kernel⟩
theorem cy_X5_greatestShock : CY yX5_greatestShock cX5_greatestShock 5 (some .int) 1 := ⟨(tw1 3 rfl), (tw2 103 rfl), by decide +kernel⟩
theorem cy_J9_max_7cf53 : CY yJ9_max_7cf53 cJ9_max_7cf53 2 (some .int) 2 := ⟨(tw1 10 rfl), (tw2 107 rfl), by decide +kernel⟩
theorem cy_X6_happens : CY yX6_happens cX6_happens 3 (some .int) 2 := ⟨(tw1 1 rfl), (tw2 112 rfl), by decide +kernel⟩
theorem cy_X5_hasPlace : CY yX5_hasPlace cX5_hasPlace 2 (some .boolean) 1 := ⟨(tw1 3 rfl), (tw2 116 rfl), by decide +kernel⟩
theorem cy_X3_remember : CY yX3_remember cX3_remember 2 none 1 := ⟨(tw1 5 rfl), (tw2 120 rfl), by decide +kernel⟩
theorem cy_X5_happen : CY yX5_happen cX5_happen 6 (some .int) 3 := ⟨(tw1 3 rfl), (tw2 126 rfl), by decide +kernel⟩
theorem cy_X5_jumpers : CY yX5_jumpers cX5_jumpers 6 (some .int) 3 := ⟨(tw1 3 rfl), (tw2 130 rfl), by decide +kernel⟩
theorem cy_X5_mayorBy : CY yX5_mayorBy cX5_mayorBy 8 (some .int) 3 := ⟨(tw1 3 rfl), (tw2 134 rfl), by decide +kernel⟩
theorem cy_X2_crown : CY yX2_crown cX2_crown 2 none 1 := ⟨(tw1 4 rfl), (tw2 138 rfl), by decide +kernel⟩
theorem cy_X2_see : CY yX2_see cX2_see 3 none 2 := ⟨(tw1 4 rfl), (tw2 142 rfl), by decide +kernel⟩
theorem cy_X6_walks : CY yX6_walks cX6_walks 4 (some .int) 2 := ⟨(tw1 1 rfl), (tw2 148 rfl), by decide +kernel⟩
theorem cy_X6_tells : CY yX6_tells cX6_tells 3 (some .int) 2 := ⟨(tw1 1 rfl), (tw2 152 rfl), by decide +kernel⟩
theorem cy_X6_abdicates : CY yX6_abdicates cX6_abdicates 2 (some .int) 0 := ⟨(tw1 1 rfl), (tw2 157 rfl), by decide +kernel⟩
theorem cy_X6_undo : CY yX6_undo cX6_undo 1 (some .int) 0 := ⟨(tw1 1 rfl), (tw2 161 rfl), by decide +kernel⟩
theorem cy_X3_restore : CY yX3_restore cX3_restore 2 none 1 := ⟨(tw1 5 rfl), (tw2 165 rfl), by decide +kernel⟩
theorem cy_X6_who : CY yX6_who cX6_who 3 (some .int) 2 := ⟨(tw1 1 rfl), (tw2 169 rfl), by decide +kernel⟩
theorem cy_X6_plan : CY yX6_plan cX6_plan 4 (some .int) 2 := ⟨(tw1 1 rfl), (tw2 174 rfl), by decide +kernel⟩
theorem cy_X0_fewest : CY yX0_fewest cX0_fewest 5 (some .int) 3 := ⟨(tw1 6 rfl), (tw2 178 rfl), by decide +kernel⟩
theorem cy_X0_leads : CY yX0_leads cX0_leads 9 (some .boolean) 5 := ⟨(tw1 6 rfl), (tw2 182 rfl), by decide +kernel⟩
theorem cy_X0_behind : CY yX0_behind cX0_behind 7 (some (.object "SurprisedMayor$Now")) 5 := ⟨(tw1 6 rfl), (tw2 186 rfl), by decide +kernel⟩
theorem cy_X6_duel : CY yX6_duel cX6_duel 6 (some .int) 3 := ⟨(tw1 1 rfl), (tw2 192 rfl), by decide +kernel⟩
theorem cy_X6_isBit : CY yX6_isBit cX6_isBit 1 (some .boolean) 1 := ⟨(tw1 1 rfl), (tw2 195 rfl), by decide +kernel⟩
theorem cy_X0_opening : CY yX0_opening cX0_opening 7 (some .int) 4 := ⟨(tw1 6 rfl), (tw2 199 rfl), by decide +kernel⟩
theorem cy_X0_winsBehind : CY yX0_winsBehind cX0_winsBehind 9 (some .boolean) 6 := ⟨(tw1 6 rfl), (tw2 203 rfl), by decide +kernel⟩
theorem cy_X0_firstWins : CY yX0_firstWins cX0_firstWins 8 (some .boolean) 5 := ⟨(tw1 6 rfl), (tw2 208 rfl), by decide +kernel⟩
theorem cy_X6_stale : CY yX6_stale cX6_stale 3 (some .int) 2 := ⟨(tw1 1 rfl), (tw2 212 rfl), by decide +kernel⟩
theorem cy_X0_timesTillStale : CY yX0_timesTillStale cX0_timesTillStale 7 (some .int) 4 := ⟨(tw1 6 rfl), (tw2 216 rfl), by decide +kernel⟩
theorem cy_X6_odds : CY yX6_odds cX6_odds 8 (some .int) 4 := ⟨(tw1 1 rfl), (tw2 220 rfl), by decide +kernel⟩
theorem cy_X0_ways : CY yX0_ways cX0_ways 6 (some .int) 5 := ⟨(tw1 6 rfl), (tw2 224 rfl), by decide +kernel⟩
theorem cy_X0_waysBehind : CY yX0_waysBehind cX0_waysBehind 8 (some .int) 5 := ⟨(tw1 6 rfl), (tw2 228 rfl), by decide +kernel⟩
theorem cy_X6_commonDivisor : CY yX6_commonDivisor cX6_commonDivisor 6 (some .int) 2 := ⟨(tw1 1 rfl), (tw2 231 rfl), by decide +kernel⟩
theorem cy_X6_notes : CY yX6_notes cX6_notes 4 (some .int) 3 := ⟨(tw1 1 rfl), (tw2 236 rfl), by decide +kernel⟩
theorem cy_X1_add : CY yX1_add cX1_add 4 none 3 := ⟨(tw1 7 rfl), (tw3 0 rfl), by decide +kernel⟩
theorem cy_X6_forget : CY yX6_forget cX6_forget 2 (some .int) 0 := ⟨(tw1 1 rfl), (tw3 4 rfl), by decide +kernel⟩
theorem cy_X6_nerves : CY yX6_nerves cX6_nerves 3 (some .int) 2 := ⟨(tw1 1 rfl), (tw3 8 rfl), by decide +kernel⟩
theorem cy_X1_weigh : CY yX1_weigh cX1_weigh 6 none 3 := ⟨(tw1 7 rfl), (tw3 12 rfl), by decide +kernel⟩
theorem cy_X1_possible : CY yX1_possible cX1_possible 1 (some .int) 0 := ⟨(tw1 7 rfl), (tw3 19 rfl), by decide +kernel⟩
theorem cy_X6_test : CY yX6_test cX6_test 2 (some .int) 1 := ⟨(tw1 1 rfl), (tw3 23 rfl), by decide +kernel⟩
theorem cy_X1_bestTry : CY yX1_bestTry cX1_bestTry 11 (some .int) 3 := ⟨(tw1 7 rfl), (tw3 27 rfl), by decide +kernel⟩
theorem cy_X6_rate : CY yX6_rate cX6_rate 3 (some .int) 2 := ⟨(tw1 1 rfl), (tw3 32 rfl), by decide +kernel⟩
theorem cy_X6_asOne : CY yX6_asOne cX6_asOne 2 (some .int) 1 := ⟨(tw1 1 rfl), (tw3 36 rfl), by decide +kernel⟩
theorem cy_X6_asGirl : CY yX6_asGirl cX6_asGirl 2 (some .int) 1 := ⟨(tw1 1 rfl), (tw3 40 rfl), by decide +kernel⟩
theorem cy_X6_asCool : CY yX6_asCool cX6_asCool 2 (some .int) 1 := ⟨(tw1 1 rfl), (tw3 45 rfl), by decide +kernel⟩
theorem cy_X6_asChild : CY yX6_asChild cX6_asChild 2 (some .int) 1 := ⟨(tw1 1 rfl), (tw3 50 rfl), by decide +kernel⟩
theorem cy_X6_asSage : CY yX6_asSage cX6_asSage 2 (some .int) 1 := ⟨(tw1 1 rfl), (tw3 55 rfl), by decide +kernel⟩
theorem cy_X6_asTwin : CY yX6_asTwin cX6_asTwin 2 (some .int) 1 := ⟨(tw1 1 rfl), (tw3 60 rfl), by decide +kernel⟩
theorem cy_X6_keep : CY yX6_keep cX6_keep 2 (some .int) 1 := ⟨(tw1 1 rfl), (tw3 65 rfl), by decide +kernel⟩
theorem cy_X2_termHolders : CY yX2_termHolders cX2_termHolders 3 (some .int) 0 := ⟨(tw1 4 rfl), (tw3 69 rfl), by decide +kernel⟩
theorem cy_X6_back : CY yX6_back cX6_back 2 (some .int) 1 := ⟨(tw1 1 rfl), (tw3 73 rfl), by decide +kernel⟩
theorem cy_X6_count : CY yX6_count cX6_count 2 (some .int) 1 := ⟨(tw1 1 rfl), (tw3 77 rfl), by decide +kernel⟩
theorem cy_X6_trace : CY yX6_trace cX6_trace 1 (some .long) 0 := ⟨(tw1 1 rfl), (tw3 81 rfl), by decide +kernel⟩
theorem cy_X7_init : CY yX7_init cX7_init 1 none 0 := ⟨(tw1 8 rfl), (tw3 86 rfl), by decide +kernel⟩
theorem cy_X7_begins : CY yX7_begins cX7_begins 2 none 0 := ⟨(tw1 8 rfl), (tw3 91 rfl), by decide +kernel⟩
theorem cy_X7_settles : CY yX7_settles cX7_settles 2 none 0 := ⟨(tw1 8 rfl), (tw3 95 rfl), by decide +kernel⟩
theorem cy_X7_copies : CY yX7_copies cX7_copies 3 none 2 := ⟨(tw1 8 rfl), (tw3 98 rfl), by decide +kernel⟩
theorem cy_X7_type : CY yX7_type cX7_type 2 (some .int) 1 := ⟨(tw1 8 rfl), (tw3 175 rfl), by decide +kernel⟩
theorem cy_X7_in : CY yX7_in cX7_in 3 (some .boolean) 3 := ⟨(tw1 8 rfl), (tw3 178 rfl), by decide +kernel⟩
theorem cy_X7_clear : CY yX7_clear cX7_clear 2 (some .int) 0 := ⟨(tw1 8 rfl), (tw3 182 rfl), by decide +kernel⟩
theorem cy_X7_town : CY yX7_town cX7_town 3 (some .int) 0 := ⟨(tw1 8 rfl), (tw3 186 rfl), by decide +kernel⟩
theorem cy_X7_advances : CY yX7_advances cX7_advances 2 none 0 := ⟨(tw1 8 rfl), (tw3 190 rfl), by decide +kernel⟩
theorem cy_X7_letterAt : CY yX7_letterAt cX7_letterAt 2 (some .int) 1 := ⟨(tw1 8 rfl), (tw3 194 rfl), by decide +kernel⟩
theorem cy_X7_isLetter : CY yX7_isLetter cX7_isLetter 1 (some .boolean) 1 := ⟨(tw1 8 rfl), (tw3 197 rfl), by decide +kernel⟩
theorem cy_X7_isWell : CY yX7_isWell cX7_isWell 1 (some .boolean) 0 := ⟨(tw1 8 rfl), (tw3 201 rfl), by decide +kernel⟩
theorem cy_X7_mayBegin : CY yX7_mayBegin cX7_mayBegin 2 (some .boolean) 0 := ⟨(tw1 8 rfl), (tw3 205 rfl), by decide +kernel⟩
theorem cy_X7_takes : CY yX7_takes cX7_takes 3 (some .int) 1 := ⟨(tw1 8 rfl), (tw3 209 rfl), by decide +kernel⟩
theorem cy_X7_readsItem : CY yX7_readsItem cX7_readsItem 4 none 1 := ⟨(tw1 8 rfl), (tw3 213 rfl), by decide +kernel⟩
theorem cy_X7_number : CY yX7_number cX7_number 3 (some .int) 2 := ⟨(tw1 8 rfl), (tw3 217 rfl), by decide +kernel⟩
theorem cy_X7_person : CY yX7_person cX7_person 3 (some .int) 2 := ⟨(tw1 8 rfl), (tw3 221 rfl), by decide +kernel⟩
theorem cy_X7_isOne : CY yX7_isOne cX7_isOne 2 (some .boolean) 1 := ⟨(tw1 8 rfl), (tw3 225 rfl), by decide +kernel⟩
theorem cy_X7_allSeen : CY yX7_allSeen cX7_allSeen 5 (some .int) 2 := ⟨(tw1 8 rfl), (tw3 229 rfl), by decide +kernel⟩
theorem cy_X7_seen : CY yX7_seen cX7_seen 3 (some .int) 2 := ⟨(tw1 8 rfl), (tw3 233 rfl), by decide +kernel⟩
theorem cy_X7_isKind : CY yX7_isKind cX7_isKind 2 (some .boolean) 1 := ⟨(tw1 8 rfl), (tw3 237 rfl), by decide +kernel⟩
theorem cy_X7_surprise : CY yX7_surprise cX7_surprise 3 (some .int) 2 := ⟨(tw1 8 rfl), (tw4 1 rfl), by decide +kernel⟩
theorem cy_X7_surpriseOf : CY yX7_surpriseOf cX7_surpriseOf 4 (some .int) 3 := ⟨(tw1 8 rfl), (tw4 5 rfl), by decide +kernel⟩
theorem cy_X7_now : CY yX7_now cX7_now 2 (some .int) 1 := ⟨(tw1 8 rfl), (tw4 9 rfl), by decide +kernel⟩
theorem cy_X7_mayorOf : CY yX7_mayorOf cX7_mayorOf 1 (some .int) 1 := ⟨(tw1 8 rfl), (tw4 13 rfl), by decide +kernel⟩
theorem cy_X7_allTerms : CY yX7_allTerms cX7_allTerms 3 (some .int) 0 := ⟨(tw1 8 rfl), (tw4 17 rfl), by decide +kernel⟩
theorem cy_X7_mostSurprise : CY yX7_mostSurprise cX7_mostSurprise 5 (some .int) 0 := ⟨(tw1 8 rfl), (tw4 21 rfl), by decide +kernel⟩
theorem cy_X7_happens : CY yX7_happens cX7_happens 3 (some .int) 2 := ⟨(tw1 8 rfl), (tw4 25 rfl), by decide +kernel⟩
theorem cy_X7_isPlace : CY yX7_isPlace cX7_isPlace 2 (some .boolean) 1 := ⟨(tw1 8 rfl), (tw4 29 rfl), by decide +kernel⟩
theorem cy_X7_keepsBefore : CY yX7_keepsBefore cX7_keepsBefore 2 none 0 := ⟨(tw1 8 rfl), (tw4 33 rfl), by decide +kernel⟩
theorem cy_X7_event : CY yX7_event cX7_event 9 (some .int) 3 := ⟨(tw1 8 rfl), (tw4 37 rfl), by decide +kernel⟩
theorem cy_X7_walks : CY yX7_walks cX7_walks 4 (some .int) 2 := ⟨(tw1 8 rfl), (tw4 41 rfl), by decide +kernel⟩
theorem cy_X7_tells : CY yX7_tells cX7_tells 4 (some .int) 2 := ⟨(tw1 8 rfl), (tw4 45 rfl), by decide +kernel⟩
theorem cy_X7_abdicates : CY yX7_abdicates cX7_abdicates 2 (some .int) 0 := ⟨(tw1 8 rfl), (tw4 49 rfl), by decide +kernel⟩
theorem cy_X7_undo : CY yX7_undo cX7_undo 2 (some .int) 0 := ⟨(tw1 8 rfl), (tw4 53 rfl), by decide +kernel⟩
theorem cy_X7_who : CY yX7_who cX7_who 3 (some .int) 2 := ⟨(tw1 8 rfl), (tw4 57 rfl), by decide +kernel⟩
theorem cy_X7_plan : CY yX7_plan cX7_plan 5 (some .int) 2 := ⟨(tw1 8 rfl), (tw4 61 rfl), by decide +kernel⟩
theorem cy_X7_events : CY yX7_events cX7_events 1 (some .int) 0 := ⟨(tw1 8 rfl), (tw4 65 rfl), by decide +kernel⟩
theorem cy_X7_power : CY yX7_power cX7_power 4 (some .int) 2 := ⟨(tw1 8 rfl), (tw4 68 rfl), by decide +kernel⟩
theorem cy_X7_mayorBy : CY yX7_mayorBy cX7_mayorBy 5 (some .int) 2 := ⟨(tw1 8 rfl), (tw4 72 rfl), by decide +kernel⟩
theorem cy_X7_eventAt : CY yX7_eventAt cX7_eventAt 4 (some .int) 3 := ⟨(tw1 8 rfl), (tw4 76 rfl), by decide +kernel⟩
theorem cy_X7_saysOf : CY yX7_saysOf cX7_saysOf 2 (some .int) 1 := ⟨(tw1 8 rfl), (tw4 80 rfl), by decide +kernel⟩
theorem cy_X7_duel : CY yX7_duel cX7_duel 12 (some .int) 3 := ⟨(tw1 8 rfl), (tw4 84 rfl), by decide +kernel⟩
theorem cy_X7_stale : CY yX7_stale cX7_stale 4 (some .int) 2 := ⟨(tw1 8 rfl), (tw4 88 rfl), by decide +kernel⟩
theorem cy_X7_odds : CY yX7_odds cX7_odds 10 (some .int) 4 := ⟨(tw1 8 rfl), (tw4 92 rfl), by decide +kernel⟩
theorem cy_X7_gcd : CY yX7_gcd cX7_gcd 5 (some .int) 2 := ⟨(tw1 8 rfl), (tw4 95 rfl), by decide +kernel⟩
theorem cy_X7_notes : CY yX7_notes cX7_notes 4 (some .int) 3 := ⟨(tw1 8 rfl), (tw4 99 rfl), by decide +kernel⟩
theorem cy_X7_forget : CY yX7_forget cX7_forget 2 (some .int) 0 := ⟨(tw1 8 rfl), (tw4 103 rfl), by decide +kernel⟩
theorem cy_X7_nerves : CY yX7_nerves cX7_nerves 7 (some .int) 2 := ⟨(tw1 8 rfl), (tw4 107 rfl), by decide +kernel⟩
theorem cy_X7_canBe : CY yX7_canBe cX7_canBe 5 (some .boolean) 2 := ⟨(tw1 8 rfl), (tw4 111 rfl), by decide +kernel⟩
theorem cy_X7_test : CY yX7_test cX7_test 8 (some .int) 1 := ⟨(tw1 8 rfl), (tw4 115 rfl), by decide +kernel⟩
theorem cy_X7_rate : CY yX7_rate cX7_rate 6 (some .int) 2 := ⟨(tw1 8 rfl), (tw4 119 rfl), by decide +kernel⟩
theorem cy_X7_keep : CY yX7_keep cX7_keep 3 (some .int) 1 := ⟨(tw1 8 rfl), (tw4 128 rfl), by decide +kernel⟩
theorem cy_X7_withTerms : CY yX7_withTerms cX7_withTerms 3 (some .int) 0 := ⟨(tw1 8 rfl), (tw4 132 rfl), by decide +kernel⟩
theorem cy_X7_back : CY yX7_back cX7_back 3 (some .int) 1 := ⟨(tw1 8 rfl), (tw4 136 rfl), by decide +kernel⟩
theorem cy_X7_count : CY yX7_count cX7_count 2 (some .int) 1 := ⟨(tw1 8 rfl), (tw4 140 rfl), by decide +kernel⟩
theorem cy_X7_trace : CY yX7_trace cX7_trace 1 (some .long) 0 := ⟨(tw1 8 rfl), (tw4 144 rfl), by decide +kernel⟩
theorem ci_L_9 : CI RL 9 6 yX6_init cX6_init 1 0 := ⟨⟨_, rfl, rfl⟩, (tw1 15 rfl), rfl, cy_X6_init⟩
theorem lci_L_9 : Cond.methodLink RL 9 yX6_init ∈ gtb := tw1 14 rfl
theorem ci_X6_9 : CI RX6 9 4 yX4_init cX4_init 1 0 := ⟨⟨_, rfl, rfl⟩, (tw1 23 rfl), rfl, cy_X4_init⟩
theorem lci_X6_9 : Cond.methodLinkNest RX6 9 yX4_init "SurprisedMayor" ∈ lw_tbl := nw1 22 rfl
theorem ci_X4_21 : CI RX4 21 5 yX5_init cX5_init 1 0 := ⟨⟨_, rfl, rfl⟩, (tw1 29 rfl), rfl, cy_X5_init⟩
theorem lci_X4_21 : Cond.methodLinkNest RX4 21 yX5_init "SurprisedMayor" ∈ lw_tbl := nw1 28 rfl
theorem fa_X5_9 : FA RX5 9 5 0 .int false := ⟨RX5, TX5, 4, tyX5, rfl, inC5, tyX5_ok, nmX5, by decide, tw1 32 rfl, rfl, rfl, tyX5_ok 0 (by decide)⟩
theorem fa_X4_82 : FA RX4 82 5 0 .int false := ⟨RX5, TX5, 4, tyX5, rfl, inC5, tyX5_ok, nmX5, by decide, tw1 33 rfl, rfl, rfl, tyX5_ok 0 (by decide)⟩
theorem fa_X0_43 : FA RX0 43 5 0 .int false := ⟨RX5, TX5, 4, tyX5, rfl, inC5, tyX5_ok, nmX5, by decide, tw1 34 rfl, rfl, rfl, tyX5_ok 0 (by decide)⟩
theorem fa_X1_51 : FA RX1 51 5 0 .int false := ⟨RX5, TX5, 4, tyX5, rfl, inC5, tyX5_ok, nmX5, by decide, tw1 35 rfl, rfl, rfl, tyX5_ok 0 (by decide)⟩
theorem fa_X6_172 : FA RX6 172 5 0 .int false := ⟨RX5, TX5, 4, tyX5, rfl, inC5, tyX5_ok, nmX5, by decide, tw1 36 rfl, rfl, rfl, tyX5_ok 0 (by decide)⟩
theorem fa_X5_15 : FA RX5 15 5 1 .int false := ⟨RX5, TX5, 4, tyX5, rfl, inC5, tyX5_ok, nmX5, by decide, tw1 37 rfl, rfl, rfl, tyX5_ok 1 (by decide)⟩
theorem fa_X0_50 : FA RX0 50 5 1 .int false := ⟨RX5, TX5, 4, tyX5, rfl, inC5, tyX5_ok, nmX5, by decide, tw1 38 rfl, rfl, rfl, tyX5_ok 1 (by decide)⟩
theorem fa_X4_85 : FA RX4 85 5 1 .int false := ⟨RX5, TX5, 4, tyX5, rfl, inC5, tyX5_ok, nmX5, by decide, tw1 39 rfl, rfl, rfl, tyX5_ok 1 (by decide)⟩
theorem fa_X6_225 : FA RX6 225 5 1 .int false := ⟨RX5, TX5, 4, tyX5, rfl, inC5, tyX5_ok, nmX5, by decide, tw1 40 rfl, rfl, rfl, tyX5_ok 1 (by decide)⟩
theorem fa_X5_18 : FA RX5 18 5 2 .int false := ⟨RX5, TX5, 4, tyX5, rfl, inC5, tyX5_ok, nmX5, by decide, tw1 41 rfl, rfl, rfl, tyX5_ok 2 (by decide)⟩
theorem fa_X4_75 : FA RX4 75 5 2 .int false := ⟨RX5, TX5, 4, tyX5, rfl, inC5, tyX5_ok, nmX5, by decide, tw1 42 rfl, rfl, rfl, tyX5_ok 2 (by decide)⟩
theorem fa_X6_228 : FA RX6 228 5 2 .int false := ⟨RX5, TX5, 4, tyX5, rfl, inC5, tyX5_ok, nmX5, by decide, tw1 43 rfl, rfl, rfl, tyX5_ok 2 (by decide)⟩
theorem fa_X5_21 : FA RX5 21 5 3 (.array .int) true := ⟨RX5, TX5, 4, tyX5, rfl, inC5, tyX5_ok, nmX5, by decide, tw1 44 rfl, rfl, rfl, tyX5_ok 3 (by decide)⟩
theorem fa_X6_98 : FA RX6 98 5 3 (.array .int) true := ⟨RX5, TX5, 4, tyX5, rfl, inC5, tyX5_ok, nmX5, by decide, tw1 45 rfl, rfl, rfl, tyX5_ok 3 (by decide)⟩
theorem fa_X4_88 : FA RX4 88 5 3 (.array .int) true := ⟨RX5, TX5, 4, tyX5, rfl, inC5, tyX5_ok, nmX5, by decide, tw1 46 rfl, rfl, rfl, tyX5_ok 3 (by decide)⟩
theorem ci_X4_28 : CI RX4 28 2 yX2_init cX2_init 1 0 := ⟨⟨_, rfl, rfl⟩, (tw1 60 rfl), rfl, cy_X2_init⟩
theorem lci_X4_28 : Cond.methodLinkNest RX4 28 yX2_init "SurprisedMayor" ∈ lw_tbl := nw1 59 rfl
theorem fa_X2_9 : FA RX2 9 2 0 .int false := ⟨RX2, TX2, 5, tyX2, rfl, inC2, tyX2_ok, nmX2, by decide, tw1 63 rfl, rfl, rfl, tyX2_ok 0 (by decide)⟩
theorem fa_X0_32 : FA RX0 32 2 0 .int false := ⟨RX2, TX2, 5, tyX2, rfl, inC2, tyX2_ok, nmX2, by decide, tw1 64 rfl, rfl, rfl, tyX2_ok 0 (by decide)⟩
theorem fa_X6_121 : FA RX6 121 2 0 .int false := ⟨RX2, TX2, 5, tyX2, rfl, inC2, tyX2_ok, nmX2, by decide, tw1 65 rfl, rfl, rfl, tyX2_ok 0 (by decide)⟩
theorem fa_X5_58 : FA RX5 58 2 0 .int false := ⟨RX2, TX2, 5, tyX2, rfl, inC2, tyX2_ok, nmX2, by decide, tw1 66 rfl, rfl, rfl, tyX2_ok 0 (by decide)⟩
theorem fa_X2_15 : FA RX2 15 2 1 (.array .int) true := ⟨RX2, TX2, 5, tyX2, rfl, inC2, tyX2_ok, nmX2, by decide, tw1 67 rfl, rfl, rfl, tyX2_ok 1 (by decide)⟩
theorem fa_X0_40 : FA RX0 40 2 1 (.array .int) true := ⟨RX2, TX2, 5, tyX2, rfl, inC2, tyX2_ok, nmX2, by decide, tw1 68 rfl, rfl, rfl, tyX2_ok 1 (by decide)⟩
theorem fa_X6_101 : FA RX6 101 2 1 (.array .int) true := ⟨RX2, TX2, 5, tyX2, rfl, inC2, tyX2_ok, nmX2, by decide, tw1 69 rfl, rfl, rfl, tyX2_ok 1 (by decide)⟩
theorem fa_X4_91 : FA RX4 91 2 1 (.array .int) true := ⟨RX2, TX2, 5, tyX2, rfl, inC2, tyX2_ok, nmX2, by decide, tw1 70 rfl, rfl, rfl, tyX2_ok 1 (by decide)⟩
theorem fa_X5_55 : FA RX5 55 2 1 (.array .int) true := ⟨RX2, TX2, 5, tyX2, rfl, inC2, tyX2_ok, nmX2, by decide, tw1 71 rfl, rfl, rfl, tyX2_ok 1 (by decide)⟩
theorem fa_X2_19 : FA RX2 19 2 2 (.array .int) true := ⟨RX2, TX2, 5, tyX2, rfl, inC2, tyX2_ok, nmX2, by decide, tw1 72 rfl, rfl, rfl, tyX2_ok 2 (by decide)⟩
theorem fa_X6_104 : FA RX6 104 2 2 (.array .int) true := ⟨RX2, TX2, 5, tyX2, rfl, inC2, tyX2_ok, nmX2, by decide, tw1 73 rfl, rfl, rfl, tyX2_ok 2 (by decide)⟩
theorem fa_X2_22 : FA RX2 22 2 3 (.array .int) true := ⟨RX2, TX2, 5, tyX2, rfl, inC2, tyX2_ok, nmX2, by decide, tw1 74 rfl, rfl, rfl, tyX2_ok 3 (by decide)⟩
theorem fa_X5_42 : FA RX5 42 2 3 (.array .int) true := ⟨RX2, TX2, 5, tyX2, rfl, inC2, tyX2_ok, nmX2, by decide, tw1 75 rfl, rfl, rfl, tyX2_ok 3 (by decide)⟩
theorem fa_X2_25 : FA RX2 25 2 4 (.array .int) true := ⟨RX2, TX2, 5, tyX2, rfl, inC2, tyX2_ok, nmX2, by decide, tw1 76 rfl, rfl, rfl, tyX2_ok 4 (by decide)⟩
theorem fa_X6_107 : FA RX6 107 2 4 (.array .int) true := ⟨RX2, TX2, 5, tyX2, rfl, inC2, tyX2_ok, nmX2, by decide, tw1 77 rfl, rfl, rfl, tyX2_ok 4 (by decide)⟩
theorem fa_X5_37 : FA RX5 37 2 4 (.array .int) true := ⟨RX2, TX2, 5, tyX2, rfl, inC2, tyX2_ok, nmX2, by decide, tw1 78 rfl, rfl, rfl, tyX2_ok 4 (by decide)⟩
theorem fa_X4_9 : FA RX4 9 4 0 (.array .int) true := ⟨RX4, TX4, 10, tyX4, rfl, inC4, tyX4_ok, nmX4, by decide, tw1 90 rfl, rfl, rfl, tyX4_ok 0 (by decide)⟩
theorem fa_X6_67 : FA RX6 67 4 0 (.array .int) true := ⟨RX4, TX4, 10, tyX4, rfl, inC4, tyX4_ok, nmX4, by decide, tw1 91 rfl, rfl, rfl, tyX4_ok 0 (by decide)⟩
theorem fa_X4_15 : FA RX4 15 4 1 .int false := ⟨RX4, TX4, 10, tyX4, rfl, inC4, tyX4_ok, nmX4, by decide, tw1 92 rfl, rfl, rfl, tyX4_ok 1 (by decide)⟩
theorem fa_X6_63 : FA RX6 63 4 1 .int false := ⟨RX4, TX4, 10, tyX4, rfl, inC4, tyX4_ok, nmX4, by decide, tw1 93 rfl, rfl, rfl, tyX4_ok 1 (by decide)⟩
theorem fa_X4_22 : FA RX4 22 4 2 (.object "SurprisedMayor$Town") true := ⟨RX4, TX4, 10, tyX4, rfl, inC4, tyX4_ok, nmX4, by decide, tw1 94 rfl, rfl, rfl, tyX4_ok 2 (by decide)⟩
theorem fa_X6_75 : FA RX6 75 4 2 (.object "SurprisedMayor$Town") true := ⟨RX4, TX4, 10, tyX4, rfl, inC4, tyX4_ok, nmX4, by decide, tw1 95 rfl, rfl, rfl, tyX4_ok 2 (by decide)⟩
theorem fa_X4_29 : FA RX4 29 4 3 (.object "SurprisedMayor$Now") true := ⟨RX4, TX4, 10, tyX4, rfl, inC4, tyX4_ok, nmX4, by decide, tw1 96 rfl, rfl, rfl, tyX4_ok 3 (by decide)⟩
theorem fa_X6_82 : FA RX6 82 4 3 (.object "SurprisedMayor$Now") true := ⟨RX4, TX4, 10, tyX4, rfl, inC4, tyX4_ok, nmX4, by decide, tw1 97 rfl, rfl, rfl, tyX4_ok 3 (by decide)⟩
theorem fa_X4_33 : FA RX4 33 4 4 .boolean false := ⟨RX4, TX4, 10, tyX4, rfl, inC4, tyX4_ok, nmX4, by decide, tw1 98 rfl, rfl, rfl, tyX4_ok 4 (by decide)⟩
theorem fa_X4_37 : FA RX4 37 4 5 .boolean false := ⟨RX4, TX4, 10, tyX4, rfl, inC4, tyX4_ok, nmX4, by decide, tw1 99 rfl, rfl, rfl, tyX4_ok 5 (by decide)⟩
theorem fa_X4_40 : FA RX4 40 4 6 .int false := ⟨RX4, TX4, 10, tyX4, rfl, inC4, tyX4_ok, nmX4, by decide, tw1 100 rfl, rfl, rfl, tyX4_ok 6 (by decide)⟩
theorem fa_X4_43 : FA RX4 43 4 7 .int false := ⟨RX4, TX4, 10, tyX4, rfl, inC4, tyX4_ok, nmX4, by decide, tw1 101 rfl, rfl, rfl, tyX4_ok 7 (by decide)⟩
theorem fa_X4_46 : FA RX4 46 4 8 .int false := ⟨RX4, TX4, 10, tyX4, rfl, inC4, tyX4_ok, nmX4, by decide, tw1 102 rfl, rfl, rfl, tyX4_ok 8 (by decide)⟩
theorem fa_X4_49 : FA RX4 49 4 9 .int false := ⟨RX4, TX4, 10, tyX4, rfl, inC4, tyX4_ok, nmX4, by decide, tw1 103 rfl, rfl, rfl, tyX4_ok 9 (by decide)⟩
theorem ci_X6_18 : CI RX6 18 5 yX5_init cX5_init 1 0 := ⟨⟨_, rfl, rfl⟩, (tw1 29 rfl), rfl, cy_X5_init⟩
theorem lci_X6_18 : Cond.methodLinkNest RX6 18 yX5_init "SurprisedMayor" ∈ lw_tbl := nw1 126 rfl
theorem ci_X6_25 : CI RX6 25 2 yX2_init cX2_init 1 0 := ⟨⟨_, rfl, rfl⟩, (tw1 60 rfl), rfl, cy_X2_init⟩
theorem lci_X6_25 : Cond.methodLinkNest RX6 25 yX2_init "SurprisedMayor" ∈ lw_tbl := nw1 128 rfl
theorem ci_X6_32 : CI RX6 32 3 yX3_init cX3_init 2 0 := ⟨⟨_, rfl, rfl⟩, (tw1 132 rfl), rfl, cy_X3_init⟩
theorem lci_X6_32 : Cond.methodLink RX6 32 yX3_init ∈ gtb := tw1 131 rfl
theorem ci_X3_24 : CI RX3 24 2 yX2_init cX2_init 1 0 := ⟨⟨_, rfl, rfl⟩, (tw1 60 rfl), rfl, cy_X2_init⟩
theorem lci_X3_24 : Cond.methodLinkNest RX3 24 yX2_init "SurprisedMayor" ∈ lw_tbl := nw1 137 rfl
theorem fa_X3_11 : FA RX3 11 3 0 (.array (.object "SurprisedMayor$Now")) true := ⟨RX3, TX3, 3, tyX3, rfl, inC3, tyX3_ok, nmX3, by decide, tw1 138 rfl, rfl, rfl, tyX3_ok 0 (by decide)⟩
theorem fa_X3_17 : FA RX3 17 3 1 .int false := ⟨RX3, TX3, 3, tyX3, rfl, inC3, tyX3_ok, nmX3, by decide, tw1 139 rfl, rfl, rfl, tyX3_ok 1 (by decide)⟩
theorem fa_X3_21 : FA RX3 21 3 2 .int false := ⟨RX3, TX3, 3, tyX3, rfl, inC3, tyX3_ok, nmX3, by decide, tw1 140 rfl, rfl, rfl, tyX3_ok 2 (by decide)⟩
theorem fa_X6_88 : FA RX6 88 3 2 .int false := ⟨RX3, TX3, 3, tyX3, rfl, inC3, tyX3_ok, nmX3, by decide, tw1 141 rfl, rfl, rfl, tyX3_ok 2 (by decide)⟩
theorem ci_X6_39 : CI RX6 39 0 yX0_init cX0_init 2 0 := ⟨⟨_, rfl, rfl⟩, (tw1 152 rfl), rfl, cy_X0_init⟩
theorem lci_X6_39 : Cond.methodLink RX6 39 yX0_init ∈ gtb := tw1 151 rfl
theorem ci_X0_21 : CI RX0 21 2 yX2_init cX2_init 1 0 := ⟨⟨_, rfl, rfl⟩, (tw1 60 rfl), rfl, cy_X2_init⟩
theorem lci_X0_21 : Cond.methodLinkNest RX0 21 yX2_init "SurprisedMayor" ∈ lw_tbl := nw1 156 rfl
theorem fa_X0_11 : FA RX0 11 0 0 (.array (.object "SurprisedMayor$Now")) true := ⟨RX0, TX0, 2, tyX0, rfl, inC0, tyX0_ok, nmX0, by decide, tw1 157 rfl, rfl, rfl, tyX0_ok 0 (by decide)⟩
theorem fa_X0_17 : FA RX0 17 0 1 (.array .int) true := ⟨RX0, TX0, 2, tyX0, rfl, inC0, tyX0_ok, nmX0, by decide, tw1 158 rfl, rfl, rfl, tyX0_ok 1 (by decide)⟩
theorem fa_X6_155 : FA RX6 155 0 1 (.array .int) true := ⟨RX0, TX0, 2, tyX0, rfl, inC0, tyX0_ok, nmX0, by decide, tw1 159 rfl, rfl, rfl, tyX0_ok 1 (by decide)⟩
theorem ci_X6_46 : CI RX6 46 1 yX1_init cX1_init 1 0 := ⟨⟨_, rfl, rfl⟩, (tw1 168 rfl), rfl, cy_X1_init⟩
theorem lci_X6_46 : Cond.methodLinkNest RX6 46 yX1_init "SurprisedMayor" ∈ lw_tbl := nw1 167 rfl
theorem fa_X1_9 : FA RX1 9 1 0 (.array .int) true := ⟨RX1, TX1, 6, tyX1, rfl, inC1, tyX1_ok, nmX1, by decide, tw1 171 rfl, rfl, rfl, tyX1_ok 0 (by decide)⟩
theorem fa_X1_15 : FA RX1 15 1 1 (.array .int) true := ⟨RX1, TX1, 6, tyX1, rfl, inC1, tyX1_ok, nmX1, by decide, tw1 172 rfl, rfl, rfl, tyX1_ok 1 (by decide)⟩
theorem fa_X1_18 : FA RX1 18 1 2 (.array .boolean) true := ⟨RX1, TX1, 6, tyX1, rfl, inC1, tyX1_ok, nmX1, by decide, tw1 173 rfl, rfl, rfl, tyX1_ok 2 (by decide)⟩
theorem fa_X1_22 : FA RX1 22 1 3 .int false := ⟨RX1, TX1, 6, tyX1, rfl, inC1, tyX1_ok, nmX1, by decide, tw1 174 rfl, rfl, rfl, tyX1_ok 3 (by decide)⟩
theorem fa_X6_91 : FA RX6 91 1 3 .int false := ⟨RX1, TX1, 6, tyX1, rfl, inC1, tyX1_ok, nmX1, by decide, tw1 175 rfl, rfl, rfl, tyX1_ok 3 (by decide)⟩
theorem fa_X1_26 : FA RX1 26 1 4 .int false := ⟨RX1, TX1, 6, tyX1, rfl, inC1, tyX1_ok, nmX1, by decide, tw1 176 rfl, rfl, rfl, tyX1_ok 4 (by decide)⟩
theorem fa_X6_194 : FA RX6 194 1 4 .int false := ⟨RX1, TX1, 6, tyX1, rfl, inC1, tyX1_ok, nmX1, by decide, tw1 177 rfl, rfl, rfl, tyX1_ok 4 (by decide)⟩
theorem fa_X1_29 : FA RX1 29 1 5 .int false := ⟨RX1, TX1, 6, tyX1, rfl, inC1, tyX1_ok, nmX1, by decide, tw1 178 rfl, rfl, rfl, tyX1_ok 5 (by decide)⟩
theorem fa_X6_197 : FA RX6 197 1 5 .int false := ⟨RX1, TX1, 6, tyX1, rfl, inC1, tyX1_ok, nmX1, by decide, tw1 179 rfl, rfl, rfl, tyX1_ok 5 (by decide)⟩
theorem fa_X6_10 : FA RX6 10 6 0 (.object "SurprisedMayor$Text") true := ⟨RX6, TX6, 9, tyX6, rfl, inC6, tyX6_ok, nmX6, by decide, tw1 194 rfl, rfl, rfl, tyX6_ok 0 (by decide)⟩
theorem fa_X6_19 : FA RX6 19 6 1 (.object "SurprisedMayor$Town") true := ⟨RX6, TX6, 9, tyX6, rfl, inC6, tyX6_ok, nmX6, by decide, tw1 195 rfl, rfl, rfl, tyX6_ok 1 (by decide)⟩
theorem fa_X6_26 : FA RX6 26 6 2 (.object "SurprisedMayor$Now") true := ⟨RX6, TX6, 9, tyX6, rfl, inC6, tyX6_ok, nmX6, by decide, tw1 196 rfl, rfl, rfl, tyX6_ok 2 (by decide)⟩
theorem fa_X6_33 : FA RX6 33 6 3 (.object "SurprisedMayor$Past") true := ⟨RX6, TX6, 9, tyX6, rfl, inC6, tyX6_ok, nmX6, by decide, tw1 197 rfl, rfl, rfl, tyX6_ok 3 (by decide)⟩
theorem fa_X6_40 : FA RX6 40 6 4 (.object "SurprisedMayor$Foresight") true := ⟨RX6, TX6, 9, tyX6, rfl, inC6, tyX6_ok, nmX6, by decide, tw1 198 rfl, rfl, rfl, tyX6_ok 4 (by decide)⟩
theorem fa_X6_47 : FA RX6 47 6 5 (.object "SurprisedMayor$Notebook") true := ⟨RX6, TX6, 9, tyX6, rfl, inC6, tyX6_ok, nmX6, by decide, tw1 199 rfl, rfl, rfl, tyX6_ok 5 (by decide)⟩
theorem fa_X6_51 : FA RX6 51 6 6 (.array (.object "SurprisedMayor$Now")) true := ⟨RX6, TX6, 9, tyX6, rfl, inC6, tyX6_ok, nmX6, by decide, tw1 200 rfl, rfl, rfl, tyX6_ok 6 (by decide)⟩
theorem fa_X6_55 : FA RX6 55 6 7 (.array .boolean) true := ⟨RX6, TX6, 9, tyX6, rfl, inC6, tyX6_ok, nmX6, by decide, tw1 201 rfl, rfl, rfl, tyX6_ok 7 (by decide)⟩
theorem fa_X6_59 : FA RX6 59 6 8 .long false := ⟨RX6, TX6, 9, tyX6, rfl, inC6, tyX6_ok, nmX6, by decide, tw1 202 rfl, rfl, rfl, tyX6_ok 8 (by decide)⟩
theorem cv_L_13 : CV RL 13 6 yX6_type cX6_type 2 (some .int) 1 := ⟨⟨_, rfl, rfl⟩, tw1 222 rfl, (tw1 223 rfl), (tw1 224 rfl), cy_X6_type⟩
theorem cv_L_18 : CV RL 18 6 yX6_clear cX6_clear 2 (some .int) 0 := ⟨⟨_, rfl, rfl⟩, tw1 226 rfl, (tw1 227 rfl), (tw1 228 rfl), cy_X6_clear⟩
theorem cv_L_23 : CV RL 23 6 yX6_town cX6_town 2 (some .int) 0 := ⟨⟨_, rfl, rfl⟩, tw1 230 rfl, (tw1 231 rfl), (tw1 232 rfl), cy_X6_town⟩
theorem cv_X6_71 : CV RX6 71 4 yX4_read cX4_read 2 (some .int) 0 := ⟨⟨_, rfl, rfl⟩, tw1 234 rfl, (tw1 235 rfl), (tw1 236 rfl), cy_X4_read⟩
theorem cv_X4_52 : CV RX4 52 5 yX5_reset cX5_reset 1 none 0 := ⟨⟨_, rfl, rfl⟩, tw1 238 rfl, (tw1 239 rfl), (tw2 0 rfl), cy_X5_reset⟩
theorem cs_X5_25 : CS RX5 25 yJ7_fill_53178 cJ7_fill_53178 4 none 2 := ⟨tw2 2 rfl, (tw2 3 rfl), cy_J7_fill_53178⟩
theorem cv_X4_55 : CV RX4 55 2 yX2_reset cX2_reset 1 none 0 := ⟨⟨_, rfl, rfl⟩, tw2 5 rfl, (tw2 6 rfl), (tw2 7 rfl), cy_X2_reset⟩
theorem cs_X2_28 : CS RX2 28 yJ7_fill_53178 cJ7_fill_53178 4 none 2 := ⟨tw2 9 rfl, (tw2 3 rfl), cy_J7_fill_53178⟩
theorem cv_X4_56 : CV RX4 56 4 yX4_advance cX4_advance 2 none 0 := ⟨⟨_, rfl, rfl⟩, tw2 10 rfl, (tw2 12 rfl), (tw0 0 rfl), cy_X4_advance⟩
theorem cs_X4_98 : CS RX4 98 yX4_isDigit cX4_isDigit 1 (some .boolean) 1 := ⟨tw2 14 rfl, (tw2 15 rfl), cy_X4_isDigit⟩
theorem cv_X4_102 : CV RX4 102 4 yX4_advanceOverNumber cX4_advanceOverNumber 3 none 0 := ⟨⟨_, rfl, rfl⟩, tw2 17 rfl, (tw2 19 rfl), (tw0 1 rfl), cy_X4_advanceOverNumber⟩
theorem cs_X4_105 : CS RX4 105 yJ9_min_7cf53 cJ9_min_7cf53 2 (some .int) 2 := ⟨tw2 21 rfl, (tw2 22 rfl), cy_J9_min_7cf53⟩
theorem cv_X4_59 : CV RX4 59 4 yX4_readItem cX4_readItem 1 (some .boolean) 0 := ⟨⟨_, rfl, rfl⟩, tw2 24 rfl, (tw2 26 rfl), (tw0 2 rfl), cy_X4_readItem⟩
theorem cv_X4_66 : CV RX4 66 4 yX4_readKinds cX4_readKinds 1 (some .boolean) 0 := ⟨⟨_, rfl, rfl⟩, tw2 28 rfl, (tw2 30 rfl), (tw0 3 rfl), cy_X4_readKinds⟩
theorem cv_X4_78 : CV RX4 78 4 yX4_readNumber cX4_readNumber 3 (some .boolean) 2 := ⟨⟨_, rfl, rfl⟩, tw2 32 rfl, (tw2 34 rfl), (tw0 4 rfl), cy_X4_readNumber⟩
theorem cv_X4_69 : CV RX4 69 4 yX4_readPlaces cX4_readPlaces 1 (some .boolean) 0 := ⟨⟨_, rfl, rfl⟩, tw2 36 rfl, (tw2 38 rfl), (tw0 5 rfl), cy_X4_readPlaces⟩
theorem cv_X4_72 : CV RX4 72 4 yX4_readPerson cX4_readPerson 3 (some .boolean) 0 := ⟨⟨_, rfl, rfl⟩, tw2 40 rfl, (tw2 42 rfl), (tw0 6 rfl), cy_X4_readPerson⟩
theorem cv_X4_94 : CV RX4 94 2 yX2_addSeen cX2_addSeen 4 none 3 := ⟨⟨_, rfl, rfl⟩, tw2 44 rfl, (tw2 45 rfl), (tw2 46 rfl), cy_X2_addSeen⟩
theorem cv_X4_63 : CV RX4 63 4 yX4_readEnd cX4_readEnd 1 (some .boolean) 0 := ⟨⟨_, rfl, rfl⟩, tw2 48 rfl, (tw2 50 rfl), (tw0 7 rfl), cy_X4_readEnd⟩
theorem cv_X6_78 : CV RX6 78 5 yX5_copyFrom cX5_copyFrom 2 none 1 := ⟨⟨_, rfl, rfl⟩, tw2 52 rfl, (tw2 53 rfl), (tw2 54 rfl), cy_X5_copyFrom⟩
theorem cv_X6_85 : CV RX6 85 2 yX2_copyFrom cX2_copyFrom 2 none 1 := ⟨⟨_, rfl, rfl⟩, tw2 59 rfl, (tw2 60 rfl), (tw2 61 rfl), cy_X2_copyFrom⟩
theorem cv_L_27 : CV RL 27 6 yX6_person cX6_person 3 (some .int) 2 := ⟨⟨_, rfl, rfl⟩, tw2 64 rfl, (tw2 65 rfl), (tw2 66 rfl), cy_X6_person⟩
theorem cv_X6_94 : CV RX6 94 5 yX5_hasPerson cX5_hasPerson 2 (some .boolean) 1 := ⟨⟨_, rfl, rfl⟩, tw2 68 rfl, (tw2 69 rfl), (tw2 70 rfl), cy_X5_hasPerson⟩
theorem cv_L_32 : CV RL 32 6 yX6_seen cX6_seen 3 (some .int) 2 := ⟨⟨_, rfl, rfl⟩, tw2 72 rfl, (tw2 73 rfl), (tw2 74 rfl), cy_X6_seen⟩
theorem cv_X6_110 : CV RX6 110 5 yX5_hasKind cX5_hasKind 2 (some .boolean) 1 := ⟨⟨_, rfl, rfl⟩, tw2 76 rfl, (tw2 77 rfl), (tw2 78 rfl), cy_X5_hasKind⟩
theorem cv_X6_113 : CV RX6 113 2 yX2_seenOf cX2_seenOf 3 (some .int) 2 := ⟨⟨_, rfl, rfl⟩, tw2 80 rfl, (tw2 81 rfl), (tw2 82 rfl), cy_X2_seenOf⟩
theorem cv_L_36 : CV RL 36 6 yX6_surprise cX6_surprise 3 (some .int) 2 := ⟨⟨_, rfl, rfl⟩, tw2 84 rfl, (tw2 85 rfl), (tw2 86 rfl), cy_X6_surprise⟩
theorem cv_X6_117 : CV RX6 117 5 yX5_shock cX5_shock 5 (some .int) 3 := ⟨⟨_, rfl, rfl⟩, tw2 88 rfl, (tw2 89 rfl), (tw2 90 rfl), cy_X5_shock⟩
theorem cv_L_40 : CV RL 40 6 yX6_now cX6_now 2 (some .int) 1 := ⟨⟨_, rfl, rfl⟩, tw2 92 rfl, (tw2 93 rfl), (tw2 94 rfl), cy_X6_now⟩
theorem cv_X6_124 : CV RX6 124 2 yX2_allTerms cX2_allTerms 3 (some .int) 0 := ⟨⟨_, rfl, rfl⟩, tw2 96 rfl, (tw2 97 rfl), (tw2 98 rfl), cy_X2_allTerms⟩
theorem cv_X6_127 : CV RX6 127 5 yX5_greatestShock cX5_greatestShock 5 (some .int) 1 := ⟨⟨_, rfl, rfl⟩, tw2 100 rfl, (tw2 101 rfl), (tw2 102 rfl), cy_X5_greatestShock⟩
theorem cv_X5_45 : CV RX5 45 5 yX5_shock cX5_shock 5 (some .int) 3 := ⟨⟨_, rfl, rfl⟩, tw2 104 rfl, (tw2 89 rfl), (tw2 90 rfl), cy_X5_shock⟩
theorem cs_X5_49 : CS RX5 49 yJ9_max_7cf53 cJ9_max_7cf53 2 (some .int) 2 := ⟨tw2 105 rfl, (tw2 106 rfl), cy_J9_max_7cf53⟩
theorem cv_L_44 : CV RL 44 6 yX6_happens cX6_happens 3 (some .int) 2 := ⟨⟨_, rfl, rfl⟩, tw2 109 rfl, (tw2 110 rfl), (tw2 111 rfl), cy_X6_happens⟩
theorem cv_X6_132 : CV RX6 132 5 yX5_hasPlace cX5_hasPlace 2 (some .boolean) 1 := ⟨⟨_, rfl, rfl⟩, tw2 113 rfl, (tw2 114 rfl), (tw2 115 rfl), cy_X5_hasPlace⟩
theorem cv_X6_135 : CV RX6 135 3 yX3_remember cX3_remember 2 none 1 := ⟨⟨_, rfl, rfl⟩, tw2 117 rfl, (tw2 118 rfl), (tw2 119 rfl), cy_X3_remember⟩
theorem cv_X3_25 : CV RX3 25 2 yX2_copyFrom cX2_copyFrom 2 none 1 := ⟨⟨_, rfl, rfl⟩, tw2 121 rfl, (tw2 60 rfl), (tw2 61 rfl), cy_X2_copyFrom⟩
theorem cs_X3_29 : CS RX3 29 yJ9_min_7cf53 cJ9_min_7cf53 2 (some .int) 2 := ⟨tw2 122 rfl, (tw2 22 rfl), cy_J9_min_7cf53⟩
theorem cv_X6_138 : CV RX6 138 5 yX5_happen cX5_happen 6 (some .int) 3 := ⟨⟨_, rfl, rfl⟩, tw2 123 rfl, (tw2 124 rfl), (tw2 125 rfl), cy_X5_happen⟩
theorem cv_X5_61 : CV RX5 61 5 yX5_jumpers cX5_jumpers 6 (some .int) 3 := ⟨⟨_, rfl, rfl⟩, tw2 127 rfl, (tw2 128 rfl), (tw2 129 rfl), cy_X5_jumpers⟩
theorem cv_X5_64 : CV RX5 64 5 yX5_mayorBy cX5_mayorBy 8 (some .int) 3 := ⟨⟨_, rfl, rfl⟩, tw2 131 rfl, (tw2 132 rfl), (tw2 133 rfl), cy_X5_mayorBy⟩
theorem cv_X5_67 : CV RX5 67 2 yX2_crown cX2_crown 2 none 1 := ⟨⟨_, rfl, rfl⟩, tw2 135 rfl, (tw2 136 rfl), (tw2 137 rfl), cy_X2_crown⟩
theorem cv_X5_71 : CV RX5 71 2 yX2_see cX2_see 3 none 2 := ⟨⟨_, rfl, rfl⟩, tw2 139 rfl, (tw2 140 rfl), (tw2 141 rfl), cy_X2_see⟩
theorem cv_X2_40 : CV RX2 40 2 yX2_seenOf cX2_seenOf 3 (some .int) 2 := ⟨⟨_, rfl, rfl⟩, tw2 143 rfl, (tw2 81 rfl), (tw2 82 rfl), cy_X2_seenOf⟩
theorem cv_X2_44 : CV RX2 44 2 yX2_addSeen cX2_addSeen 4 none 3 := ⟨⟨_, rfl, rfl⟩, tw2 144 rfl, (tw2 45 rfl), (tw2 46 rfl), cy_X2_addSeen⟩
theorem cv_L_48 : CV RL 48 6 yX6_walks cX6_walks 4 (some .int) 2 := ⟨⟨_, rfl, rfl⟩, tw2 145 rfl, (tw2 146 rfl), (tw2 147 rfl), cy_X6_walks⟩
theorem cv_L_52 : CV RL 52 6 yX6_tells cX6_tells 3 (some .int) 2 := ⟨⟨_, rfl, rfl⟩, tw2 149 rfl, (tw2 150 rfl), (tw2 151 rfl), cy_X6_tells⟩
theorem cv_X6_141 : CV RX6 141 2 yX2_see cX2_see 3 none 2 := ⟨⟨_, rfl, rfl⟩, tw2 153 rfl, (tw2 140 rfl), (tw2 141 rfl), cy_X2_see⟩
theorem cv_L_56 : CV RL 56 6 yX6_abdicates cX6_abdicates 2 (some .int) 0 := ⟨⟨_, rfl, rfl⟩, tw2 154 rfl, (tw2 155 rfl), (tw2 156 rfl), cy_X6_abdicates⟩
theorem cv_L_60 : CV RL 60 6 yX6_undo cX6_undo 1 (some .int) 0 := ⟨⟨_, rfl, rfl⟩, tw2 158 rfl, (tw2 159 rfl), (tw2 160 rfl), cy_X6_undo⟩
theorem cv_X6_145 : CV RX6 145 3 yX3_restore cX3_restore 2 none 1 := ⟨⟨_, rfl, rfl⟩, tw2 162 rfl, (tw2 163 rfl), (tw2 164 rfl), cy_X3_restore⟩
theorem cv_L_64 : CV RL 64 6 yX6_who cX6_who 3 (some .int) 2 := ⟨⟨_, rfl, rfl⟩, tw2 166 rfl, (tw2 167 rfl), (tw2 168 rfl), cy_X6_who⟩
theorem cv_X6_148 : CV RX6 148 5 yX5_mayorBy cX5_mayorBy 8 (some .int) 3 := ⟨⟨_, rfl, rfl⟩, tw2 170 rfl, (tw2 132 rfl), (tw2 133 rfl), cy_X5_mayorBy⟩
theorem cv_L_68 : CV RL 68 6 yX6_plan cX6_plan 4 (some .int) 2 := ⟨⟨_, rfl, rfl⟩, tw2 171 rfl, (tw2 172 rfl), (tw2 173 rfl), cy_X6_plan⟩
theorem cv_X6_151 : CV RX6 151 0 yX0_fewest cX0_fewest 5 (some .int) 3 := ⟨⟨_, rfl, rfl⟩, tw2 175 rfl, (tw2 176 rfl), (tw2 177 rfl), cy_X0_fewest⟩
theorem cv_X0_36 : CV RX0 36 0 yX0_leads cX0_leads 9 (some .boolean) 5 := ⟨⟨_, rfl, rfl⟩, tw2 179 rfl, (tw2 181 rfl), (tw0 8 rfl), cy_X0_leads⟩
theorem cv_X0_46 : CV RX0 46 0 yX0_behind cX0_behind 7 (some (.object "SurprisedMayor$Now")) 5 := ⟨⟨_, rfl, rfl⟩, tw2 183 rfl, (tw2 185 rfl), (tw0 9 rfl), cy_X0_behind⟩
theorem cv_X0_22 : CV RX0 22 2 yX2_copyFrom cX2_copyFrom 2 none 1 := ⟨⟨_, rfl, rfl⟩, tw2 187 rfl, (tw2 60 rfl), (tw2 61 rfl), cy_X2_copyFrom⟩
theorem cv_X0_26 : CV RX0 26 5 yX5_happen cX5_happen 6 (some .int) 3 := ⟨⟨_, rfl, rfl⟩, tw2 188 rfl, (tw2 124 rfl), (tw2 125 rfl), cy_X5_happen⟩
theorem cv_L_72 : CV RL 72 6 yX6_duel cX6_duel 6 (some .int) 3 := ⟨⟨_, rfl, rfl⟩, tw2 189 rfl, (tw2 190 rfl), (tw2 191 rfl), cy_X6_duel⟩
theorem cs_X6_158 : CS RX6 158 yX6_isBit cX6_isBit 1 (some .boolean) 1 := ⟨tw2 193 rfl, (tw2 194 rfl), cy_X6_isBit⟩
theorem cv_X6_161 : CV RX6 161 0 yX0_opening cX0_opening 7 (some .int) 4 := ⟨⟨_, rfl, rfl⟩, tw2 196 rfl, (tw2 197 rfl), (tw2 198 rfl), cy_X0_opening⟩
theorem cv_X0_53 : CV RX0 53 0 yX0_winsBehind cX0_winsBehind 9 (some .boolean) 6 := ⟨⟨_, rfl, rfl⟩, tw2 200 rfl, (tw2 202 rfl), (tw0 10 rfl), cy_X0_winsBehind⟩
theorem cv_X0_57 : CV RX0 57 5 yX5_mayorBy cX5_mayorBy 8 (some .int) 3 := ⟨⟨_, rfl, rfl⟩, tw2 204 rfl, (tw2 132 rfl), (tw2 133 rfl), cy_X5_mayorBy⟩
theorem cv_X0_60 : CV RX0 60 0 yX0_firstWins cX0_firstWins 8 (some .boolean) 5 := ⟨⟨_, rfl, rfl⟩, tw2 205 rfl, (tw2 207 rfl), (tw0 11 rfl), cy_X0_firstWins⟩
theorem cv_L_77 : CV RL 77 6 yX6_stale cX6_stale 3 (some .int) 2 := ⟨⟨_, rfl, rfl⟩, tw2 209 rfl, (tw2 210 rfl), (tw2 211 rfl), cy_X6_stale⟩
theorem cv_X6_165 : CV RX6 165 0 yX0_timesTillStale cX0_timesTillStale 7 (some .int) 4 := ⟨⟨_, rfl, rfl⟩, tw2 213 rfl, (tw2 214 rfl), (tw2 215 rfl), cy_X0_timesTillStale⟩
theorem cv_L_81 : CV RL 81 6 yX6_odds cX6_odds 8 (some .int) 4 := ⟨⟨_, rfl, rfl⟩, tw2 217 rfl, (tw2 218 rfl), (tw2 219 rfl), cy_X6_odds⟩
theorem cv_X6_168 : CV RX6 168 0 yX0_ways cX0_ways 6 (some .int) 5 := ⟨⟨_, rfl, rfl⟩, tw2 221 rfl, (tw2 222 rfl), (tw2 223 rfl), cy_X0_ways⟩
theorem cv_X0_64 : CV RX0 64 0 yX0_waysBehind cX0_waysBehind 8 (some .int) 5 := ⟨⟨_, rfl, rfl⟩, tw2 225 rfl, (tw2 227 rfl), (tw0 12 rfl), cy_X0_waysBehind⟩
theorem cs_X6_175 : CS RX6 175 yX6_commonDivisor cX6_commonDivisor 6 (some .int) 2 := ⟨tw2 229 rfl, (tw2 230 rfl), cy_X6_commonDivisor⟩
theorem cs_X6_178 : CS RX6 178 yJ9_max_7cf53 cJ9_max_7cf53 2 (some .int) 2 := ⟨tw2 232 rfl, (tw2 106 rfl), cy_J9_max_7cf53⟩
theorem cv_L_86 : CV RL 86 6 yX6_notes cX6_notes 4 (some .int) 3 := ⟨⟨_, rfl, rfl⟩, tw2 233 rfl, (tw2 234 rfl), (tw2 235 rfl), cy_X6_notes⟩
theorem cv_X6_183 : CV RX6 183 1 yX1_add cX1_add 4 none 3 := ⟨⟨_, rfl, rfl⟩, tw2 237 rfl, (tw2 238 rfl), (tw2 239 rfl), cy_X1_add⟩
theorem cv_L_90 : CV RL 90 6 yX6_forget cX6_forget 2 (some .int) 0 := ⟨⟨_, rfl, rfl⟩, tw3 1 rfl, (tw3 2 rfl), (tw3 3 rfl), cy_X6_forget⟩
theorem cv_L_94 : CV RL 94 6 yX6_nerves cX6_nerves 3 (some .int) 2 := ⟨⟨_, rfl, rfl⟩, tw3 5 rfl, (tw3 6 rfl), (tw3 7 rfl), cy_X6_nerves⟩
theorem cv_X6_187 : CV RX6 187 1 yX1_weigh cX1_weigh 6 none 3 := ⟨⟨_, rfl, rfl⟩, tw3 9 rfl, (tw3 10 rfl), (tw3 11 rfl), cy_X1_weigh⟩
theorem cv_X1_32 : CV RX1 32 5 yX5_shock cX5_shock 5 (some .int) 3 := ⟨⟨_, rfl, rfl⟩, tw3 13 rfl, (tw2 89 rfl), (tw2 90 rfl), cy_X5_shock⟩
theorem cs_X1_38 : CS RX1 38 yJ9_min_7cf53 cJ9_min_7cf53 2 (some .int) 2 := ⟨tw3 14 rfl, (tw2 22 rfl), cy_J9_min_7cf53⟩
theorem cs_X1_44 : CS RX1 44 yJ9_max_7cf53 cJ9_max_7cf53 2 (some .int) 2 := ⟨tw3 15 rfl, (tw2 106 rfl), cy_J9_max_7cf53⟩
theorem cv_X6_191 : CV RX6 191 1 yX1_possible cX1_possible 1 (some .int) 0 := ⟨⟨_, rfl, rfl⟩, tw3 16 rfl, (tw3 17 rfl), (tw3 18 rfl), cy_X1_possible⟩
theorem cv_L_98 : CV RL 98 6 yX6_test cX6_test 2 (some .int) 1 := ⟨⟨_, rfl, rfl⟩, tw3 20 rfl, (tw3 21 rfl), (tw3 22 rfl), cy_X6_test⟩
theorem cv_X6_200 : CV RX6 200 1 yX1_bestTry cX1_bestTry 11 (some .int) 3 := ⟨⟨_, rfl, rfl⟩, tw3 24 rfl, (tw3 25 rfl), (tw3 26 rfl), cy_X1_bestTry⟩
theorem cv_X1_47 : CV RX1 47 1 yX1_possible cX1_possible 1 (some .int) 0 := ⟨⟨_, rfl, rfl⟩, tw3 28 rfl, (tw3 17 rfl), (tw3 18 rfl), cy_X1_possible⟩
theorem cv_L_102 : CV RL 102 6 yX6_rate cX6_rate 3 (some .int) 2 := ⟨⟨_, rfl, rfl⟩, tw3 29 rfl, (tw3 30 rfl), (tw3 31 rfl), cy_X6_rate⟩
theorem cv_X6_203 : CV RX6 203 6 yX6_asOne cX6_asOne 2 (some .int) 1 := ⟨⟨_, rfl, rfl⟩, tw3 33 rfl, (tw3 35 rfl), (tw0 13 rfl), cy_X6_asOne⟩
theorem cv_X6_207 : CV RX6 207 6 yX6_asGirl cX6_asGirl 2 (some .int) 1 := ⟨⟨_, rfl, rfl⟩, tw3 37 rfl, (tw3 39 rfl), (tw0 14 rfl), cy_X6_asGirl⟩
theorem cv_X6_210 : CV RX6 210 6 yX6_asCool cX6_asCool 2 (some .int) 1 := ⟨⟨_, rfl, rfl⟩, tw3 42 rfl, (tw3 44 rfl), (tw0 15 rfl), cy_X6_asCool⟩
theorem cv_X6_213 : CV RX6 213 6 yX6_asChild cX6_asChild 2 (some .int) 1 := ⟨⟨_, rfl, rfl⟩, tw3 47 rfl, (tw3 49 rfl), (tw0 16 rfl), cy_X6_asChild⟩
theorem cv_X6_216 : CV RX6 216 6 yX6_asSage cX6_asSage 2 (some .int) 1 := ⟨⟨_, rfl, rfl⟩, tw3 52 rfl, (tw3 54 rfl), (tw0 17 rfl), cy_X6_asSage⟩
theorem cv_X6_219 : CV RX6 219 6 yX6_asTwin cX6_asTwin 2 (some .int) 1 := ⟨⟨_, rfl, rfl⟩, tw3 57 rfl, (tw3 59 rfl), (tw0 18 rfl), cy_X6_asTwin⟩
theorem cv_L_106 : CV RL 106 6 yX6_keep cX6_keep 2 (some .int) 1 := ⟨⟨_, rfl, rfl⟩, tw3 62 rfl, (tw3 63 rfl), (tw3 64 rfl), cy_X6_keep⟩
theorem cv_X6_222 : CV RX6 222 2 yX2_termHolders cX2_termHolders 3 (some .int) 0 := ⟨⟨_, rfl, rfl⟩, tw3 66 rfl, (tw3 67 rfl), (tw3 68 rfl), cy_X2_termHolders⟩
theorem cv_L_110 : CV RL 110 6 yX6_back cX6_back 2 (some .int) 1 := ⟨⟨_, rfl, rfl⟩, tw3 70 rfl, (tw3 71 rfl), (tw3 72 rfl), cy_X6_back⟩
theorem cv_L_114 : CV RL 114 6 yX6_count cX6_count 2 (some .int) 1 := ⟨⟨_, rfl, rfl⟩, tw3 74 rfl, (tw3 75 rfl), (tw3 76 rfl), cy_X6_count⟩
theorem cv_L_118 : CV RL 118 6 yX6_trace cX6_trace 1 (some .long) 0 := ⟨⟨_, rfl, rfl⟩, tw3 78 rfl, (tw3 79 rfl), (tw3 80 rfl), cy_X6_trace⟩
theorem ci_L_12 : CI RL 12 7 yX7_init cX7_init 1 0 := ⟨⟨_, rfl, rfl⟩, (tw3 85 rfl), rfl, cy_X7_init⟩
theorem lci_L_12 : Cond.methodLink RL 12 yX7_init ∈ gtb := tw3 84 rfl
theorem cv_X7_50 : CV RX7 50 7 yX7_begins cX7_begins 2 none 0 := ⟨⟨_, rfl, rfl⟩, tw3 88 rfl, (tw3 90 rfl), (tw0 19 rfl), cy_X7_begins⟩
theorem cv_X7_53 : CV RX7 53 7 yX7_settles cX7_settles 2 none 0 := ⟨⟨_, rfl, rfl⟩, tw3 92 rfl, (tw3 94 rfl), (tw0 20 rfl), cy_X7_settles⟩
theorem cs_X7_115 : CS RX7 115 yX7_copies cX7_copies 3 none 2 := ⟨tw3 96 rfl, (tw3 97 rfl), cy_X7_copies⟩
theorem fa_X7_56 : FA RX7 56 7 0 .int false := ⟨RX7, TX7, 24, tyX7, rfl, inC7, tyX7_ok, nmX7, by decide, tw3 99 rfl, rfl, rfl, tyX7_ok 0 (by decide)⟩
theorem fa_X7_183 : FA RX7 183 7 1 .long false := ⟨RX7, TX7, 24, tyX7, rfl, inC7, tyX7_ok, nmX7, by decide, tw3 100 rfl, rfl, rfl, tyX7_ok 1 (by decide)⟩
theorem fa_X7_7 : FA RX7 7 7 2 (.array .int) true := ⟨RX7, TX7, 24, tyX7, rfl, inC7, tyX7_ok, nmX7, by decide, tw3 101 rfl, rfl, rfl, tyX7_ok 2 (by decide)⟩
theorem fa_X7_64 : FA RX7 64 7 3 .int false := ⟨RX7, TX7, 24, tyX7, rfl, inC7, tyX7_ok, nmX7, by decide, tw3 102 rfl, rfl, rfl, tyX7_ok 3 (by decide)⟩
theorem fa_X7_67 : FA RX7 67 7 4 .int false := ⟨RX7, TX7, 24, tyX7, rfl, inC7, tyX7_ok, nmX7, by decide, tw3 103 rfl, rfl, rfl, tyX7_ok 4 (by decide)⟩
theorem fa_X7_77 : FA RX7 77 7 5 .int false := ⟨RX7, TX7, 24, tyX7, rfl, inC7, tyX7_ok, nmX7, by decide, tw3 104 rfl, rfl, rfl, tyX7_ok 5 (by decide)⟩
theorem fa_X7_74 : FA RX7 74 7 6 .int false := ⟨RX7, TX7, 24, tyX7, rfl, inC7, tyX7_ok, nmX7, by decide, tw3 105 rfl, rfl, rfl, tyX7_ok 6 (by decide)⟩
theorem fa_X7_80 : FA RX7 80 7 7 .int false := ⟨RX7, TX7, 24, tyX7, rfl, inC7, tyX7_ok, nmX7, by decide, tw3 106 rfl, rfl, rfl, tyX7_ok 7 (by decide)⟩
theorem fa_X7_87 : FA RX7 87 7 8 .int false := ⟨RX7, TX7, 24, tyX7, rfl, inC7, tyX7_ok, nmX7, by decide, tw3 107 rfl, rfl, rfl, tyX7_ok 8 (by decide)⟩
theorem fa_X7_101 : FA RX7 101 7 9 .int false := ⟨RX7, TX7, 24, tyX7, rfl, inC7, tyX7_ok, nmX7, by decide, tw3 108 rfl, rfl, rfl, tyX7_ok 9 (by decide)⟩
theorem fa_X7_13 : FA RX7 13 7 10 (.array .int) true := ⟨RX7, TX7, 24, tyX7, rfl, inC7, tyX7_ok, nmX7, by decide, tw3 109 rfl, rfl, rfl, tyX7_ok 10 (by decide)⟩
theorem fa_X7_16 : FA RX7 16 7 11 (.array .int) true := ⟨RX7, TX7, 24, tyX7, rfl, inC7, tyX7_ok, nmX7, by decide, tw3 110 rfl, rfl, rfl, tyX7_ok 11 (by decide)⟩
theorem fa_X7_19 : FA RX7 19 7 12 (.array .int) true := ⟨RX7, TX7, 24, tyX7, rfl, inC7, tyX7_ok, nmX7, by decide, tw3 111 rfl, rfl, rfl, tyX7_ok 12 (by decide)⟩
theorem fa_X7_22 : FA RX7 22 7 13 (.array .int) true := ⟨RX7, TX7, 24, tyX7, rfl, inC7, tyX7_ok, nmX7, by decide, tw3 112 rfl, rfl, rfl, tyX7_ok 13 (by decide)⟩
theorem fa_X7_25 : FA RX7 25 7 14 (.array .int) true := ⟨RX7, TX7, 24, tyX7, rfl, inC7, tyX7_ok, nmX7, by decide, tw3 113 rfl, rfl, rfl, tyX7_ok 14 (by decide)⟩
theorem fa_X7_28 : FA RX7 28 7 15 (.array .int) true := ⟨RX7, TX7, 24, tyX7, rfl, inC7, tyX7_ok, nmX7, by decide, tw3 114 rfl, rfl, rfl, tyX7_ok 15 (by decide)⟩
theorem fa_X7_31 : FA RX7 31 7 16 (.array .boolean) true := ⟨RX7, TX7, 24, tyX7, rfl, inC7, tyX7_ok, nmX7, by decide, tw3 115 rfl, rfl, rfl, tyX7_ok 16 (by decide)⟩
theorem fa_X7_35 : FA RX7 35 7 17 (.array .int) true := ⟨RX7, TX7, 24, tyX7, rfl, inC7, tyX7_ok, nmX7, by decide, tw3 116 rfl, rfl, rfl, tyX7_ok 17 (by decide)⟩
theorem fa_X7_122 : FA RX7 122 7 18 .int false := ⟨RX7, TX7, 24, tyX7, rfl, inC7, tyX7_ok, nmX7, by decide, tw3 117 rfl, rfl, rfl, tyX7_ok 18 (by decide)⟩
theorem fa_X7_38 : FA RX7 38 7 19 (.array .int) true := ⟨RX7, TX7, 24, tyX7, rfl, inC7, tyX7_ok, nmX7, by decide, tw3 118 rfl, rfl, rfl, tyX7_ok 19 (by decide)⟩
theorem fa_X7_41 : FA RX7 41 7 20 (.array .int) true := ⟨RX7, TX7, 24, tyX7, rfl, inC7, tyX7_ok, nmX7, by decide, tw3 119 rfl, rfl, rfl, tyX7_ok 20 (by decide)⟩
theorem fa_X7_44 : FA RX7 44 7 21 (.array .int) true := ⟨RX7, TX7, 24, tyX7, rfl, inC7, tyX7_ok, nmX7, by decide, tw3 120 rfl, rfl, rfl, tyX7_ok 21 (by decide)⟩
theorem fa_X7_119 : FA RX7 119 7 22 .int false := ⟨RX7, TX7, 24, tyX7, rfl, inC7, tyX7_ok, nmX7, by decide, tw3 121 rfl, rfl, rfl, tyX7_ok 22 (by decide)⟩
theorem fa_X7_47 : FA RX7 47 7 23 (.array .int) true := ⟨RX7, TX7, 24, tyX7, rfl, inC7, tyX7_ok, nmX7, by decide, tw3 122 rfl, rfl, rfl, tyX7_ok 23 (by decide)⟩
theorem cv_L_17 : CV RL 17 7 yX7_type cX7_type 2 (some .int) 1 := ⟨⟨_, rfl, rfl⟩, tw3 172 rfl, (tw3 173 rfl), (tw3 174 rfl), cy_X7_type⟩
theorem cs_X7_60 : CS RX7 60 yX7_in cX7_in 3 (some .boolean) 3 := ⟨tw3 176 rfl, (tw3 177 rfl), cy_X7_in⟩
theorem cv_L_22 : CV RL 22 7 yX7_clear cX7_clear 2 (some .int) 0 := ⟨⟨_, rfl, rfl⟩, tw3 179 rfl, (tw3 180 rfl), (tw3 181 rfl), cy_X7_clear⟩
theorem cv_L_26 : CV RL 26 7 yX7_town cX7_town 3 (some .int) 0 := ⟨⟨_, rfl, rfl⟩, tw3 183 rfl, (tw3 184 rfl), (tw3 185 rfl), cy_X7_town⟩
theorem cv_X7_94 : CV RX7 94 7 yX7_advances cX7_advances 2 none 0 := ⟨⟨_, rfl, rfl⟩, tw3 187 rfl, (tw3 189 rfl), (tw0 21 rfl), cy_X7_advances⟩
theorem cv_X7_70 : CV RX7 70 7 yX7_letterAt cX7_letterAt 2 (some .int) 1 := ⟨⟨_, rfl, rfl⟩, tw3 191 rfl, (tw3 193 rfl), (tw0 22 rfl), cy_X7_letterAt⟩
theorem cs_X7_83 : CS RX7 83 yX7_isLetter cX7_isLetter 1 (some .boolean) 1 := ⟨tw3 195 rfl, (tw3 196 rfl), cy_X7_isLetter⟩
theorem cv_X7_90 : CV RX7 90 7 yX7_isWell cX7_isWell 1 (some .boolean) 0 := ⟨⟨_, rfl, rfl⟩, tw3 198 rfl, (tw3 200 rfl), (tw0 23 rfl), cy_X7_isWell⟩
theorem cv_X7_108 : CV RX7 108 7 yX7_mayBegin cX7_mayBegin 2 (some .boolean) 0 := ⟨⟨_, rfl, rfl⟩, tw3 202 rfl, (tw3 204 rfl), (tw0 24 rfl), cy_X7_mayBegin⟩
theorem cv_X7_97 : CV RX7 97 7 yX7_takes cX7_takes 3 (some .int) 1 := ⟨⟨_, rfl, rfl⟩, tw3 206 rfl, (tw3 208 rfl), (tw0 25 rfl), cy_X7_takes⟩
theorem cv_X7_111 : CV RX7 111 7 yX7_readsItem cX7_readsItem 4 none 1 := ⟨⟨_, rfl, rfl⟩, tw3 210 rfl, (tw3 212 rfl), (tw0 26 rfl), cy_X7_readsItem⟩
theorem cv_X7_104 : CV RX7 104 7 yX7_number cX7_number 3 (some .int) 2 := ⟨⟨_, rfl, rfl⟩, tw3 214 rfl, (tw3 216 rfl), (tw0 27 rfl), cy_X7_number⟩
theorem cv_L_31 : CV RL 31 7 yX7_person cX7_person 3 (some .int) 2 := ⟨⟨_, rfl, rfl⟩, tw3 218 rfl, (tw3 219 rfl), (tw3 220 rfl), cy_X7_person⟩
theorem cv_X7_129 : CV RX7 129 7 yX7_isOne cX7_isOne 2 (some .boolean) 1 := ⟨⟨_, rfl, rfl⟩, tw3 222 rfl, (tw3 224 rfl), (tw0 28 rfl), cy_X7_isOne⟩
theorem cv_X7_125 : CV RX7 125 7 yX7_allSeen cX7_allSeen 5 (some .int) 2 := ⟨⟨_, rfl, rfl⟩, tw3 226 rfl, (tw3 228 rfl), (tw0 29 rfl), cy_X7_allSeen⟩
theorem cv_L_35 : CV RL 35 7 yX7_seen cX7_seen 3 (some .int) 2 := ⟨⟨_, rfl, rfl⟩, tw3 230 rfl, (tw3 231 rfl), (tw3 232 rfl), cy_X7_seen⟩
theorem cv_X7_132 : CV RX7 132 7 yX7_isKind cX7_isKind 2 (some .boolean) 1 := ⟨⟨_, rfl, rfl⟩, tw3 234 rfl, (tw3 236 rfl), (tw0 30 rfl), cy_X7_isKind⟩
theorem cv_L_39 : CV RL 39 7 yX7_surprise cX7_surprise 3 (some .int) 2 := ⟨⟨_, rfl, rfl⟩, tw3 238 rfl, (tw3 239 rfl), (tw4 0 rfl), cy_X7_surprise⟩
theorem cv_X7_135 : CV RX7 135 7 yX7_surpriseOf cX7_surpriseOf 4 (some .int) 3 := ⟨⟨_, rfl, rfl⟩, tw4 2 rfl, (tw4 4 rfl), (tw0 31 rfl), cy_X7_surpriseOf⟩
theorem cv_L_43 : CV RL 43 7 yX7_now cX7_now 2 (some .int) 1 := ⟨⟨_, rfl, rfl⟩, tw4 6 rfl, (tw4 7 rfl), (tw4 8 rfl), cy_X7_now⟩
theorem cs_X7_140 : CS RX7 140 yX7_mayorOf cX7_mayorOf 1 (some .int) 1 := ⟨tw4 11 rfl, (tw4 12 rfl), cy_X7_mayorOf⟩
theorem cv_X7_144 : CV RX7 144 7 yX7_allTerms cX7_allTerms 3 (some .int) 0 := ⟨⟨_, rfl, rfl⟩, tw4 14 rfl, (tw4 16 rfl), (tw0 32 rfl), cy_X7_allTerms⟩
theorem cv_X7_148 : CV RX7 148 7 yX7_mostSurprise cX7_mostSurprise 5 (some .int) 0 := ⟨⟨_, rfl, rfl⟩, tw4 18 rfl, (tw4 20 rfl), (tw0 33 rfl), cy_X7_mostSurprise⟩
theorem cv_L_47 : CV RL 47 7 yX7_happens cX7_happens 3 (some .int) 2 := ⟨⟨_, rfl, rfl⟩, tw4 22 rfl, (tw4 23 rfl), (tw4 24 rfl), cy_X7_happens⟩
theorem cv_X7_151 : CV RX7 151 7 yX7_isPlace cX7_isPlace 2 (some .boolean) 1 := ⟨⟨_, rfl, rfl⟩, tw4 26 rfl, (tw4 28 rfl), (tw0 34 rfl), cy_X7_isPlace⟩
theorem cv_X7_154 : CV RX7 154 7 yX7_keepsBefore cX7_keepsBefore 2 none 0 := ⟨⟨_, rfl, rfl⟩, tw4 30 rfl, (tw4 32 rfl), (tw0 35 rfl), cy_X7_keepsBefore⟩
theorem cv_X7_157 : CV RX7 157 7 yX7_event cX7_event 9 (some .int) 3 := ⟨⟨_, rfl, rfl⟩, tw4 34 rfl, (tw4 36 rfl), (tw0 36 rfl), cy_X7_event⟩
theorem cv_L_51 : CV RL 51 7 yX7_walks cX7_walks 4 (some .int) 2 := ⟨⟨_, rfl, rfl⟩, tw4 38 rfl, (tw4 39 rfl), (tw4 40 rfl), cy_X7_walks⟩
theorem cv_L_55 : CV RL 55 7 yX7_tells cX7_tells 4 (some .int) 2 := ⟨⟨_, rfl, rfl⟩, tw4 42 rfl, (tw4 43 rfl), (tw4 44 rfl), cy_X7_tells⟩
theorem cv_L_59 : CV RL 59 7 yX7_abdicates cX7_abdicates 2 (some .int) 0 := ⟨⟨_, rfl, rfl⟩, tw4 46 rfl, (tw4 47 rfl), (tw4 48 rfl), cy_X7_abdicates⟩
theorem cv_L_63 : CV RL 63 7 yX7_undo cX7_undo 2 (some .int) 0 := ⟨⟨_, rfl, rfl⟩, tw4 50 rfl, (tw4 51 rfl), (tw4 52 rfl), cy_X7_undo⟩
theorem cv_L_67 : CV RL 67 7 yX7_who cX7_who 3 (some .int) 2 := ⟨⟨_, rfl, rfl⟩, tw4 54 rfl, (tw4 55 rfl), (tw4 56 rfl), cy_X7_who⟩
theorem cv_L_71 : CV RL 71 7 yX7_plan cX7_plan 5 (some .int) 2 := ⟨⟨_, rfl, rfl⟩, tw4 58 rfl, (tw4 59 rfl), (tw4 60 rfl), cy_X7_plan⟩
theorem cv_X7_160 : CV RX7 160 7 yX7_events cX7_events 1 (some .int) 0 := ⟨⟨_, rfl, rfl⟩, tw4 62 rfl, (tw4 64 rfl), (tw0 37 rfl), cy_X7_events⟩
theorem cs_X7_163 : CS RX7 163 yX7_power cX7_power 4 (some .int) 2 := ⟨tw4 66 rfl, (tw4 67 rfl), cy_X7_power⟩
theorem cv_X7_170 : CV RX7 170 7 yX7_mayorBy cX7_mayorBy 5 (some .int) 2 := ⟨⟨_, rfl, rfl⟩, tw4 69 rfl, (tw4 71 rfl), (tw0 38 rfl), cy_X7_mayorBy⟩
theorem cv_X7_166 : CV RX7 166 7 yX7_eventAt cX7_eventAt 4 (some .int) 3 := ⟨⟨_, rfl, rfl⟩, tw4 73 rfl, (tw4 75 rfl), (tw0 39 rfl), cy_X7_eventAt⟩
theorem cv_X7_173 : CV RX7 173 7 yX7_saysOf cX7_saysOf 2 (some .int) 1 := ⟨⟨_, rfl, rfl⟩, tw4 77 rfl, (tw4 79 rfl), (tw0 40 rfl), cy_X7_saysOf⟩
theorem cv_L_76 : CV RL 76 7 yX7_duel cX7_duel 12 (some .int) 3 := ⟨⟨_, rfl, rfl⟩, tw4 81 rfl, (tw4 82 rfl), (tw4 83 rfl), cy_X7_duel⟩
theorem cv_L_80 : CV RL 80 7 yX7_stale cX7_stale 4 (some .int) 2 := ⟨⟨_, rfl, rfl⟩, tw4 85 rfl, (tw4 86 rfl), (tw4 87 rfl), cy_X7_stale⟩
theorem cv_L_85 : CV RL 85 7 yX7_odds cX7_odds 10 (some .int) 4 := ⟨⟨_, rfl, rfl⟩, tw4 89 rfl, (tw4 90 rfl), (tw4 91 rfl), cy_X7_odds⟩
theorem cs_X7_176 : CS RX7 176 yX7_gcd cX7_gcd 5 (some .int) 2 := ⟨tw4 93 rfl, (tw4 94 rfl), cy_X7_gcd⟩
theorem cv_L_89 : CV RL 89 7 yX7_notes cX7_notes 4 (some .int) 3 := ⟨⟨_, rfl, rfl⟩, tw4 96 rfl, (tw4 97 rfl), (tw4 98 rfl), cy_X7_notes⟩
theorem cv_L_93 : CV RL 93 7 yX7_forget cX7_forget 2 (some .int) 0 := ⟨⟨_, rfl, rfl⟩, tw4 100 rfl, (tw4 101 rfl), (tw4 102 rfl), cy_X7_forget⟩
theorem cv_L_97 : CV RL 97 7 yX7_nerves cX7_nerves 7 (some .int) 2 := ⟨⟨_, rfl, rfl⟩, tw4 104 rfl, (tw4 105 rfl), (tw4 106 rfl), cy_X7_nerves⟩
theorem cv_X7_179 : CV RX7 179 7 yX7_canBe cX7_canBe 5 (some .boolean) 2 := ⟨⟨_, rfl, rfl⟩, tw4 108 rfl, (tw4 110 rfl), (tw0 41 rfl), cy_X7_canBe⟩
theorem cv_L_101 : CV RL 101 7 yX7_test cX7_test 8 (some .int) 1 := ⟨⟨_, rfl, rfl⟩, tw4 112 rfl, (tw4 113 rfl), (tw4 114 rfl), cy_X7_test⟩
theorem cv_L_105 : CV RL 105 7 yX7_rate cX7_rate 6 (some .int) 2 := ⟨⟨_, rfl, rfl⟩, tw4 116 rfl, (tw4 117 rfl), (tw4 118 rfl), cy_X7_rate⟩
theorem cv_L_109 : CV RL 109 7 yX7_keep cX7_keep 3 (some .int) 1 := ⟨⟨_, rfl, rfl⟩, tw4 125 rfl, (tw4 126 rfl), (tw4 127 rfl), cy_X7_keep⟩
theorem cv_X7_197 : CV RX7 197 7 yX7_withTerms cX7_withTerms 3 (some .int) 0 := ⟨⟨_, rfl, rfl⟩, tw4 129 rfl, (tw4 131 rfl), (tw0 42 rfl), cy_X7_withTerms⟩
theorem cv_L_113 : CV RL 113 7 yX7_back cX7_back 3 (some .int) 1 := ⟨⟨_, rfl, rfl⟩, tw4 133 rfl, (tw4 134 rfl), (tw4 135 rfl), cy_X7_back⟩
theorem cv_L_117 : CV RL 117 7 yX7_count cX7_count 2 (some .int) 1 := ⟨⟨_, rfl, rfl⟩, tw4 137 rfl, (tw4 138 rfl), (tw4 139 rfl), cy_X7_count⟩
theorem cv_L_122 : CV RL 122 7 yX7_trace cX7_trace 1 (some .long) 0 := ⟨⟨_, rfl, rfl⟩, tw4 141 rfl, (tw4 142 rfl), (tw4 143 rfl), cy_X7_trace⟩
end
section
def dtOK (cc : ByteArray) (tb : List (Nat × Instr × Nat × Nat)) : Bool := tb.all (fun q => decide (decode cc q.1 = .ok (q.2.1, q.2.2.1)) && q.1 + q.2.2.1 == q.2.2.2)
def De (cc : ByteArray) (pc : Nat) (i : Instr) (len pc1 : Nat) : Prop := decode cc pc = .ok (i, len) ∧ pc + len = pc1
theorem dk {cc : ByteArray} {tb : List (Nat × Instr × Nat × Nat)} (h : dtOK cc tb = true) (n : Nat) {pc : Nat} {i : Instr} {len pc1 : Nat} (hn : tb[n]? = some (pc, i, len, pc1)) : De cc pc i len pc1 := by
  have h1 := List.all_eq_true.mp h _ (List.mem_of_getElem? hn)
  simp only [Bool.and_eq_true, decide_eq_true_eq, beq_iff_eq] at h1
  exact h1
def tbX0_init_0 : List (Nat × Instr × Nat × Nat) := [(0, .aload_n 0, 1, 1), (1, .invokespecial 3, 3, 4), (4, .aload_n 0, 1, 5), (5, .iconst 4, 1, 6), (6, .anewarray 9, 3, 9), (9, .putfield 11, 3, 12), (12, .aload_n 0, 1, 13), (13, .iconst 3, 1, 14), (14, .newarray .int, 2, 16), (16, .putfield 17, 3, 19), (19, .iconst 0, 1, 20), (20, .istore_n 1, 1, 21), (21, .iload_n 1, 1, 22), (22, .iconst 4, 1, 23), (23, .if_icmp .ge 22, 3, 26), (26, .aload_n 0, 1, 27), (27, .getfield 11, 3, 30), (30, .iload_n 1, 1, 31), (31, .new 9, 3, 34), (34, .dup, 1, 35), (35, .invokespecial 21, 3, 38), (38, .aastore, 1, 39), (39, .iinc 1 1, 3, 42), (42, .goto (-21), 3, 45), (45, .return_, 1, 46)]
theorem dtX0_init_0 : dtOK cX0_init tbX0_init_0 = true := by decide +kernel
def tbX0_behind_0 : List (Nat × Instr × Nat × Nat) := [(0, .aload_n 0, 1, 1), (1, .getfield 11, 3, 4), (4, .iload_n 3, 1, 5), (5, .iconst 1, 1, 6), (6, .isub, 1, 7), (7, .aaload, 1, 8), (8, .astore 6, 2, 10), (10, .aload 6, 2, 12), (12, .aload_n 2, 1, 13), (13, .invokevirtual 22, 3, 16), (16, .aload_n 1, 1, 17), (17, .aload 6, 2, 19), (19, .iload 4, 2, 21), (21, .iload 5, 2, 23), (23, .invokevirtual 26, 3, 26), (26, .pop, 1, 27), (27, .aload 6, 2, 29), (29, .areturn, 1, 30)]
theorem dtX0_behind_0 : dtOK cX0_behind tbX0_behind_0 = true := by decide +kernel
def tbX0_fewest_0 : List (Nat × Instr × Nat × Nat) := [(0, .aload_n 2, 1, 1), (1, .getfield 32, 3, 4), (4, .iload_n 3, 1, 5), (5, .if_icmp .ne 5, 3, 8), (8, .iconst 0, 1, 9), (9, .ireturn, 1, 10), (10, .iconst 1, 1, 11), (11, .istore 4, 2, 13), (13, .iload 4, 2, 15), (15, .iconst 3, 1, 16), (16, .if_icmp .gt 26, 3, 19), (19, .aload_n 0, 1, 20), (20, .aload_n 1, 1, 21), (21, .aload_n 2, 1, 22), (22, .iload_n 3, 1, 23), (23, .iload 4, 2, 25), (25, .iload 4, 2, 27), (27, .invokevirtual 36, 3, 30), (30, .ifCond .eq 6, 3, 33), (33, .iload 4, 2, 35), (35, .ireturn, 1, 36), (36, .iinc 4 1, 3, 39), (39, .goto (-26), 3, 42), (42, .bipush (-9), 2, 44), (44, .ireturn, 1, 45)]
theorem dtX0_fewest_0 : dtOK cX0_fewest tbX0_fewest_0 = true := by decide +kernel
def tbX0_leads_0 : List (Nat × Instr × Nat × Nat) := [(0, .iload 4, 2, 2), (2, .ifCond .le 16, 3, 5), (5, .iload 4, 2, 7), (7, .iload 5, 2, 9), (9, .if_icmp .gt 9, 3, 12), (12, .iload 5, 2, 14), (14, .iconst 3, 1, 15), (15, .if_icmp .le 17, 3, 18), (18, .aload_n 2, 1, 19), (19, .getfield 32, 3, 22), (22, .iload_n 3, 1, 23), (23, .if_icmp .ne 7, 3, 26), (26, .iconst 1, 1, 27), (27, .goto 4, 3, 30), (30, .iconst 0, 1, 31), (31, .ireturn, 1, 32), (32, .aload_n 2, 1, 33), (33, .getfield 40, 3, 36), (36, .iload_n 3, 1, 37), (37, .iaload, 1, 38), (38, .istore 6, 2, 40), (40, .iconst 0, 1, 41), (41, .istore 7, 2, 43), (43, .iload 7, 2, 45), (45, .aload_n 1, 1, 46), (46, .getfield 43, 3, 49), (49, .if_icmp .ge 60, 3, 52), (52, .aload_n 0, 1, 53), (53, .getfield 17, 3, 56), (56, .iload 5, 2, 58), (58, .iload 4, 2, 60), (60, .isub, 1, 61), (61, .bipush 10, 2, 63), (63, .iload 7, 2, 65), (65, .imul, 1, 66), (66, .iload 6, 2, 68), (68, .iadd, 1, 69), (69, .iastore, 1, 70), (70, .aload_n 0, 1, 71), (71, .aload_n 1, 1, 72), (72, .aload_n 2, 1, 73), (73, .iload 4, 2, 75), (75, .iload 7, 2, 77), (77, .iload 6, 2, 79), (79, .invokevirtual 46, 3, 82), (82, .astore 8, 2, 84), (84, .aload_n 0, 1, 85), (85, .aload_n 1, 1, 86), (86, .aload 8, 2, 88), (88, .iload_n 3, 1, 89), (89, .iload 4, 2, 91), (91, .iconst 1, 1, 92), (92, .isub, 1, 93), (93, .iload 5, 2, 95), (95, .invokevirtual 36, 3, 98), (98, .ifCond .eq 5, 3, 101), (101, .iconst 1, 1, 102), (102, .ireturn, 1, 103), (103, .iinc 7 1, 3, 106), (106, .goto (-63), 3, 109)]
theorem dtX0_leads_0 : dtOK cX0_leads tbX0_leads_0 = true := by decide +kernel
def tbX0_leads_1 : List (Nat × Instr × Nat × Nat) := [(109, .iconst 0, 1, 110), (110, .ireturn, 1, 111)]
theorem dtX0_leads_1 : dtOK cX0_leads tbX0_leads_1 = true := by decide +kernel
def tbX0_opening_0 : List (Nat × Instr × Nat × Nat) := [(0, .iload 4, 2, 2), (2, .ifCond .le 9, 3, 5), (5, .iload 4, 2, 7), (7, .iconst 3, 1, 8), (8, .if_icmp .le 6, 3, 11), (11, .bipush (-9), 2, 13), (13, .ireturn, 1, 14), (14, .iconst 0, 1, 15), (15, .istore 5, 2, 17), (17, .iload 5, 2, 19), (19, .aload_n 1, 1, 20), (20, .getfield 43, 3, 23), (23, .if_icmp .ge 57, 3, 26), (26, .iconst 0, 1, 27), (27, .istore 6, 2, 29), (29, .iload 6, 2, 31), (31, .aload_n 1, 1, 32), (32, .getfield 50, 3, 35), (35, .if_icmp .ge 39, 3, 38), (38, .aload_n 0, 1, 39), (39, .aload_n 1, 1, 40), (40, .aload_n 2, 1, 41), (41, .iload_n 3, 1, 42), (42, .iload 4, 2, 44), (44, .iconst 1, 1, 45), (45, .bipush 10, 2, 47), (47, .iload 5, 2, 49), (49, .imul, 1, 50), (50, .iload 6, 2, 52), (52, .iadd, 1, 53), (53, .invokevirtual 53, 3, 56), (56, .ifCond .eq 12, 3, 59), (59, .bipush 10, 2, 61), (61, .iload 5, 2, 63), (63, .imul, 1, 64), (64, .iload 6, 2, 66), (66, .iadd, 1, 67), (67, .ireturn, 1, 68), (68, .iinc 6 1, 3, 71), (71, .goto (-42), 3, 74), (74, .iinc 5 1, 3, 77), (77, .goto (-60), 3, 80), (80, .bipush (-9), 2, 82), (82, .ireturn, 1, 83)]
theorem dtX0_opening_0 : dtOK cX0_opening tbX0_opening_0 = true := by decide +kernel
def tbX0_winsBehind_0 : List (Nat × Instr × Nat × Nat) := [(0, .iload 6, 2, 2), (2, .bipush 10, 2, 4), (4, .idiv, 1, 5), (5, .istore 7, 2, 7), (7, .iload 6, 2, 9), (9, .bipush 10, 2, 11), (11, .irem, 1, 12), (12, .istore 8, 2, 14), (14, .iload 4, 2, 16), (16, .iconst 1, 1, 17), (17, .if_icmp .le 9, 3, 20), (20, .iload 4, 2, 22), (22, .iconst 3, 1, 23), (23, .if_icmp .le 22, 3, 26), (26, .aload_n 1, 1, 27), (27, .aload_n 2, 1, 28), (28, .iload 7, 2, 30), (30, .iload 8, 2, 32), (32, .invokevirtual 57, 3, 35), (35, .iload_n 3, 1, 36), (36, .if_icmp .ne 7, 3, 39), (39, .iconst 1, 1, 40), (40, .goto 4, 3, 43), (43, .iconst 0, 1, 44), (44, .ireturn, 1, 45), (45, .aload_n 0, 1, 46), (46, .aload_n 1, 1, 47), (47, .aload_n 0, 1, 48), (48, .aload_n 1, 1, 49), (49, .aload_n 2, 1, 50), (50, .iload 4, 2, 52), (52, .iload 7, 2, 54), (54, .iload 8, 2, 56), (56, .invokevirtual 46, 3, 59), (59, .iload_n 3, 1, 60), (60, .iload 4, 2, 62), (62, .iconst 1, 1, 63), (63, .isub, 1, 64), (64, .iload 5, 2, 66), (66, .ifCond .ne 7, 3, 69), (69, .iconst 1, 1, 70), (70, .goto 4, 3, 73), (73, .iconst 0, 1, 74), (74, .invokevirtual 60, 3, 77), (77, .ireturn, 1, 78)]
theorem dtX0_winsBehind_0 : dtOK cX0_winsBehind tbX0_winsBehind_0 = true := by decide +kernel
def tbX0_firstWins_0 : List (Nat × Instr × Nat × Nat) := [(0, .iconst 0, 1, 1), (1, .istore 6, 2, 3), (3, .iload 6, 2, 5), (5, .aload_n 1, 1, 6), (6, .getfield 43, 3, 9), (9, .if_icmp .ge 54, 3, 12), (12, .iconst 0, 1, 13), (13, .istore 7, 2, 15), (15, .iload 7, 2, 17), (17, .aload_n 1, 1, 18), (18, .getfield 50, 3, 21), (21, .if_icmp .ge 36, 3, 24), (24, .aload_n 0, 1, 25), (25, .aload_n 1, 1, 26), (26, .aload_n 2, 1, 27), (27, .iload_n 3, 1, 28), (28, .iload 4, 2, 30), (30, .iload 5, 2, 32), (32, .bipush 10, 2, 34), (34, .iload 6, 2, 36), (36, .imul, 1, 37), (37, .iload 7, 2, 39), (39, .iadd, 1, 40), (40, .invokevirtual 53, 3, 43), (43, .iload 5, 2, 45), (45, .if_icmp .ne 6, 3, 48), (48, .iload 5, 2, 50), (50, .ireturn, 1, 51), (51, .iinc 7 1, 3, 54), (54, .goto (-39), 3, 57), (57, .iinc 6 1, 3, 60), (60, .goto (-57), 3, 63), (63, .iload 5, 2, 65), (65, .ifCond .ne 7, 3, 68), (68, .iconst 1, 1, 69), (69, .goto 4, 3, 72), (72, .iconst 0, 1, 73), (73, .ireturn, 1, 74)]
theorem dtX0_firstWins_0 : dtOK cX0_firstWins tbX0_firstWins_0 = true := by decide +kernel
def tbX0_timesTillStale_0 : List (Nat × Instr × Nat × Nat) := [(0, .aload_n 0, 1, 1), (1, .getfield 11, 3, 4), (4, .iconst 0, 1, 5), (5, .aaload, 1, 6), (6, .astore 5, 2, 8), (8, .aload 5, 2, 10), (10, .aload_n 2, 1, 11), (11, .invokevirtual 22, 3, 14), (14, .iconst 0, 1, 15), (15, .istore 6, 2, 17), (17, .iload 6, 2, 19), (19, .bipush 99, 2, 21), (21, .if_icmp .gt 24, 3, 24), (24, .aload_n 1, 1, 25), (25, .aload 5, 2, 27), (27, .iload_n 3, 1, 28), (28, .iload 4, 2, 30), (30, .invokevirtual 26, 3, 33), (33, .ifCond .ne 6, 3, 36), (36, .iload 6, 2, 38), (38, .ireturn, 1, 39), (39, .iinc 6 1, 3, 42), (42, .goto (-25), 3, 45), (45, .bipush (-9), 2, 47), (47, .ireturn, 1, 48)]
theorem dtX0_timesTillStale_0 : dtOK cX0_timesTillStale tbX0_timesTillStale_0 = true := by decide +kernel
def tbX0_ways_0 : List (Nat × Instr × Nat × Nat) := [(0, .aload_n 0, 1, 1), (1, .aload_n 1, 1, 2), (2, .aload_n 2, 1, 3), (3, .iload_n 3, 1, 4), (4, .iload 4, 2, 6), (6, .iload 5, 2, 8), (8, .invokevirtual 64, 3, 11), (11, .ireturn, 1, 12)]
theorem dtX0_ways_0 : dtOK cX0_ways tbX0_ways_0 = true := by decide +kernel
def tbX0_waysBehind_0 : List (Nat × Instr × Nat × Nat) := [(0, .iload 5, 2, 2), (2, .ifCond .le 9, 3, 5), (5, .iload 5, 2, 7), (7, .iconst 4, 1, 8), (8, .if_icmp .le 17, 3, 11), (11, .aload_n 2, 1, 12), (12, .getfield 32, 3, 15), (15, .iload_n 3, 1, 16), (16, .if_icmp .ne 7, 3, 19), (19, .iconst 1, 1, 20), (20, .goto 4, 3, 23), (23, .iconst 0, 1, 24), (24, .ireturn, 1, 25), (25, .iconst 0, 1, 26), (26, .istore 6, 2, 28), (28, .iconst 0, 1, 29), (29, .istore 7, 2, 31), (31, .iload 7, 2, 33), (33, .aload_n 1, 1, 34), (34, .getfield 43, 3, 37), (37, .if_icmp .ge 38, 3, 40), (40, .iload 6, 2, 42), (42, .aload_n 0, 1, 43), (43, .aload_n 1, 1, 44), (44, .aload_n 0, 1, 45), (45, .aload_n 1, 1, 46), (46, .aload_n 2, 1, 47), (47, .iload 5, 2, 49), (49, .iload 7, 2, 51), (51, .iload 4, 2, 53), (53, .invokevirtual 46, 3, 56), (56, .iload_n 3, 1, 57), (57, .iload 4, 2, 59), (59, .iload 5, 2, 61), (61, .iconst 1, 1, 62), (62, .isub, 1, 63), (63, .invokevirtual 64, 3, 66), (66, .iadd, 1, 67), (67, .istore 6, 2, 69), (69, .iinc 7 1, 3, 72), (72, .goto (-41), 3, 75), (75, .iload 6, 2, 77), (77, .ireturn, 1, 78)]
theorem dtX0_waysBehind_0 : dtOK cX0_waysBehind tbX0_waysBehind_0 = true := by decide +kernel
def tbX1_init_0 : List (Nat × Instr × Nat × Nat) := [(0, .aload_n 0, 1, 1), (1, .invokespecial 3, 3, 4), (4, .aload_n 0, 1, 5), (5, .bipush 6, 2, 7), (7, .newarray .int, 2, 9), (9, .putfield 9, 3, 12), (12, .aload_n 0, 1, 13), (13, .bipush 6, 2, 15), (15, .newarray .int, 2, 17), (17, .putfield 15, 3, 20), (20, .aload_n 0, 1, 21), (21, .bipush 6, 2, 23), (23, .newarray .boolean, 2, 25), (25, .putfield 18, 3, 28), (28, .aload_n 0, 1, 29), (29, .iconst 0, 1, 30), (30, .putfield 22, 3, 33), (33, .aload_n 0, 1, 34), (34, .iconst 0, 1, 35), (35, .putfield 26, 3, 38), (38, .aload_n 0, 1, 39), (39, .bipush 99, 2, 41), (41, .putfield 29, 3, 44), (44, .return_, 1, 45)]
theorem dtX1_init_0 : dtOK cX1_init tbX1_init_0 = true := by decide +kernel
def tbX1_add_0 : List (Nat × Instr × Nat × Nat) := [(0, .aload_n 0, 1, 1), (1, .getfield 22, 3, 4), (4, .bipush 6, 2, 6), (6, .if_icmp .lt 4, 3, 9), (9, .return_, 1, 10), (10, .aload_n 0, 1, 11), (11, .getfield 9, 3, 14), (14, .aload_n 0, 1, 15), (15, .getfield 22, 3, 18), (18, .iload_n 1, 1, 19), (19, .iastore, 1, 20), (20, .aload_n 0, 1, 21), (21, .getfield 15, 3, 24), (24, .aload_n 0, 1, 25), (25, .getfield 22, 3, 28), (28, .iload_n 2, 1, 29), (29, .iastore, 1, 30), (30, .aload_n 0, 1, 31), (31, .getfield 18, 3, 34), (34, .aload_n 0, 1, 35), (35, .getfield 22, 3, 38), (38, .iload_n 3, 1, 39), (39, .bastore, 1, 40), (40, .aload_n 0, 1, 41), (41, .dup, 1, 42), (42, .getfield 22, 3, 45), (45, .iconst 1, 1, 46), (46, .iadd, 1, 47), (47, .putfield 22, 3, 50), (50, .return_, 1, 51)]
theorem dtX1_add_0 : dtOK cX1_add tbX1_add_0 = true := by decide +kernel
def tbX1_weigh_0 : List (Nat × Instr × Nat × Nat) := [(0, .aload_n 0, 1, 1), (1, .iconst 0, 1, 2), (2, .putfield 26, 3, 5), (5, .aload_n 0, 1, 6), (6, .bipush 99, 2, 8), (8, .putfield 29, 3, 11), (11, .iconst 0, 1, 12), (12, .istore 4, 2, 14), (14, .iload 4, 2, 16), (16, .aload_n 0, 1, 17), (17, .getfield 22, 3, 20), (20, .if_icmp .ge 76, 3, 23), (23, .aload_n 0, 1, 24), (24, .getfield 9, 3, 27), (27, .iload 4, 2, 29), (29, .iaload, 1, 30), (30, .iload_n 3, 1, 31), (31, .if_icmp .ne 59, 3, 34), (34, .aload_n 1, 1, 35), (35, .aload_n 2, 1, 36), (36, .iload_n 3, 1, 37), (37, .aload_n 0, 1, 38), (38, .getfield 15, 3, 41), (41, .iload 4, 2, 43), (43, .iaload, 1, 44), (44, .invokevirtual 32, 3, 47), (47, .istore 5, 2, 49), (49, .aload_n 0, 1, 50), (50, .getfield 18, 3, 53), (53, .iload 4, 2, 55), (55, .baload, 1, 56), (56, .ifCond .eq 19, 3, 59), (59, .aload_n 0, 1, 60), (60, .aload_n 0, 1, 61), (61, .getfield 29, 3, 64), (64, .iload 5, 2, 66), (66, .invokestatic 38, 3, 69), (69, .putfield 29, 3, 72), (72, .goto 18, 3, 75), (75, .aload_n 0, 1, 76), (76, .aload_n 0, 1, 77), (77, .getfield 26, 3, 80), (80, .iload 5, 2, 82), (82, .iconst 1, 1, 83), (83, .iadd, 1, 84), (84, .invokestatic 44, 3, 87), (87, .putfield 26, 3, 90), (90, .iinc 4 1, 3, 93), (93, .goto (-79), 3, 96), (96, .return_, 1, 97)]
theorem dtX1_weigh_0 : dtOK cX1_weigh tbX1_weigh_0 = true := by decide +kernel
def tbX1_possible_0 : List (Nat × Instr × Nat × Nat) := [(0, .iconst 0, 1, 1), (1, .aload_n 0, 1, 2), (2, .getfield 29, 3, 5), (5, .aload_n 0, 1, 6), (6, .getfield 26, 3, 9), (9, .isub, 1, 10), (10, .iconst 1, 1, 11), (11, .iadd, 1, 12), (12, .invokestatic 44, 3, 15), (15, .ireturn, 1, 16)]
theorem dtX1_possible_0 : dtOK cX1_possible tbX1_possible_0 = true := by decide +kernel
def tbX1_bestTry_0 : List (Nat × Instr × Nat × Nat) := [(0, .aload_n 0, 1, 1), (1, .invokevirtual 47, 3, 4), (4, .istore 4, 2, 6), (6, .iload 4, 2, 8), (8, .iconst 1, 1, 9), (9, .if_icmp .gt 6, 3, 12), (12, .bipush (-9), 2, 14), (14, .ireturn, 1, 15), (15, .bipush (-9), 2, 17), (17, .istore 5, 2, 19), (19, .iload 4, 2, 21), (21, .iconst 1, 1, 22), (22, .iadd, 1, 23), (23, .istore 6, 2, 25), (25, .iconst 0, 1, 26), (26, .istore 7, 2, 28), (28, .iload 7, 2, 30), (30, .aload_n 1, 1, 31), (31, .getfield 51, 3, 34), (34, .if_icmp .ge 68, 3, 37), (37, .aload_n 0, 1, 38), (38, .getfield 29, 3, 41), (41, .aload_n 1, 1, 42), (42, .aload_n 2, 1, 43), (43, .iload_n 3, 1, 44), (44, .iload 7, 2, 46), (46, .invokevirtual 32, 3, 49), (49, .invokestatic 38, 3, 52), (52, .istore 8, 2, 54), (54, .iconst 0, 1, 55), (55, .iload 8, 2, 57), (57, .aload_n 0, 1, 58), (58, .getfield 26, 3, 61), (61, .isub, 1, 62), (62, .iconst 1, 1, 63), (63, .iadd, 1, 64), (64, .invokestatic 44, 3, 67), (67, .istore 9, 2, 69), (69, .iload 9, 2, 71), (71, .iload 4, 2, 73), (73, .iload 9, 2, 75), (75, .isub, 1, 76), (76, .invokestatic 44, 3, 79), (79, .istore 10, 2, 81), (81, .iload 10, 2, 83), (83, .iload 6, 2, 85), (85, .if_icmp .ge 11, 3, 88), (88, .iload 10, 2, 90), (90, .istore 6, 2, 92), (92, .iload 7, 2, 94), (94, .istore 5, 2, 96), (96, .iinc 7 1, 3, 99), (99, .goto (-71), 3, 102), (102, .iload 5, 2, 104), (104, .ireturn, 1, 105)]
theorem dtX1_bestTry_0 : dtOK cX1_bestTry tbX1_bestTry_0 = true := by decide +kernel
def tbX2_init_0 : List (Nat × Instr × Nat × Nat) := [(0, .aload_n 0, 1, 1), (1, .invokespecial 3, 3, 4), (4, .aload_n 0, 1, 5), (5, .bipush (-9), 2, 7), (7, .putfield 9, 3, 10), (10, .aload_n 0, 1, 11), (11, .iconst 5, 1, 12), (12, .newarray .int, 2, 14), (14, .putfield 15, 3, 17), (17, .aload_n 0, 1, 18), (18, .iconst 5, 1, 19), (19, .newarray .int, 2, 21), (21, .putfield 19, 3, 24), (24, .aload_n 0, 1, 25), (25, .bipush 20, 2, 27), (27, .newarray .int, 2, 29), (29, .putfield 22, 3, 32), (32, .aload_n 0, 1, 33), (33, .iconst 5, 1, 34), (34, .newarray .int, 2, 36), (36, .putfield 25, 3, 39), (39, .return_, 1, 40)]
theorem dtX2_init_0 : dtOK cX2_init tbX2_init_0 = true := by decide +kernel
def tbX2_reset_0 : List (Nat × Instr × Nat × Nat) := [(0, .aload_n 0, 1, 1), (1, .bipush (-9), 2, 3), (3, .putfield 9, 3, 6), (6, .aload_n 0, 1, 7), (7, .getfield 15, 3, 10), (10, .iconst 0, 1, 11), (11, .invokestatic 28, 3, 14), (14, .aload_n 0, 1, 15), (15, .getfield 19, 3, 18), (18, .iconst 0, 1, 19), (19, .invokestatic 28, 3, 22), (22, .aload_n 0, 1, 23), (23, .getfield 22, 3, 26), (26, .iconst 0, 1, 27), (27, .invokestatic 28, 3, 30), (30, .aload_n 0, 1, 31), (31, .getfield 25, 3, 34), (34, .iconst 0, 1, 35), (35, .invokestatic 28, 3, 38), (38, .return_, 1, 39)]
theorem dtX2_reset_0 : dtOK cX2_reset tbX2_reset_0 = true := by decide +kernel
def tbX2_copyFrom_0 : List (Nat × Instr × Nat × Nat) := [(0, .aload_n 0, 1, 1), (1, .aload_n 1, 1, 2), (2, .getfield 9, 3, 5), (5, .putfield 9, 3, 8), (8, .aload_n 1, 1, 9), (9, .getfield 15, 3, 12), (12, .iconst 0, 1, 13), (13, .aload_n 0, 1, 14), (14, .getfield 15, 3, 17), (17, .iconst 0, 1, 18), (18, .iconst 5, 1, 19), (19, .invokestatic 34, 3, 22), (22, .aload_n 1, 1, 23), (23, .getfield 19, 3, 26), (26, .iconst 0, 1, 27), (27, .aload_n 0, 1, 28), (28, .getfield 19, 3, 31), (31, .iconst 0, 1, 32), (32, .iconst 5, 1, 33), (33, .invokestatic 34, 3, 36), (36, .aload_n 1, 1, 37), (37, .getfield 22, 3, 40), (40, .iconst 0, 1, 41), (41, .aload_n 0, 1, 42), (42, .getfield 22, 3, 45), (45, .iconst 0, 1, 46), (46, .bipush 20, 2, 48), (48, .invokestatic 34, 3, 51), (51, .aload_n 1, 1, 52), (52, .getfield 25, 3, 55), (55, .iconst 0, 1, 56), (56, .aload_n 0, 1, 57), (57, .getfield 25, 3, 60), (60, .iconst 0, 1, 61), (61, .iconst 5, 1, 62), (62, .invokestatic 34, 3, 65), (65, .return_, 1, 66)]
theorem dtX2_copyFrom_0 : dtOK cX2_copyFrom tbX2_copyFrom_0 = true := by decide +kernel
def tbX2_seenOf_0 : List (Nat × Instr × Nat × Nat) := [(0, .aload_n 0, 1, 1), (1, .getfield 22, 3, 4), (4, .iload_n 1, 1, 5), (5, .iconst 4, 1, 6), (6, .imul, 1, 7), (7, .iload_n 2, 1, 8), (8, .iadd, 1, 9), (9, .iaload, 1, 10), (10, .ireturn, 1, 11)]
theorem dtX2_seenOf_0 : dtOK cX2_seenOf tbX2_seenOf_0 = true := by decide +kernel
def tbX2_addSeen_0 : List (Nat × Instr × Nat × Nat) := [(0, .aload_n 0, 1, 1), (1, .getfield 22, 3, 4), (4, .iload_n 1, 1, 5), (5, .iconst 4, 1, 6), (6, .imul, 1, 7), (7, .iload_n 2, 1, 8), (8, .iadd, 1, 9), (9, .dup2, 1, 10), (10, .iaload, 1, 11), (11, .iload_n 3, 1, 12), (12, .iadd, 1, 13), (13, .iastore, 1, 14), (14, .aload_n 0, 1, 15), (15, .getfield 25, 3, 18), (18, .iload_n 1, 1, 19), (19, .dup2, 1, 20), (20, .iaload, 1, 21), (21, .iload_n 3, 1, 22), (22, .iadd, 1, 23), (23, .iastore, 1, 24), (24, .return_, 1, 25)]
theorem dtX2_addSeen_0 : dtOK cX2_addSeen tbX2_addSeen_0 = true := by decide +kernel
def tbX2_see_0 : List (Nat × Instr × Nat × Nat) := [(0, .aload_n 0, 1, 1), (1, .iload_n 1, 1, 2), (2, .iload_n 2, 1, 3), (3, .invokevirtual 40, 3, 6), (6, .sipush 999, 3, 9), (9, .if_icmp .ge 10, 3, 12), (12, .aload_n 0, 1, 13), (13, .iload_n 1, 1, 14), (14, .iload_n 2, 1, 15), (15, .iconst 1, 1, 16), (16, .invokevirtual 44, 3, 19), (19, .return_, 1, 20)]
theorem dtX2_see_0 : dtOK cX2_see tbX2_see_0 = true := by decide +kernel
def tbX2_crown_0 : List (Nat × Instr × Nat × Nat) := [(0, .iload_n 1, 1, 1), (1, .aload_n 0, 1, 2), (2, .getfield 9, 3, 5), (5, .if_icmp .eq 12, 3, 8), (8, .iload_n 1, 1, 9), (9, .ifCond .lt 8, 3, 12), (12, .iload_n 1, 1, 13), (13, .iconst 5, 1, 14), (14, .if_icmp .lt 4, 3, 17), (17, .return_, 1, 18), (18, .aload_n 0, 1, 19), (19, .iload_n 1, 1, 20), (20, .putfield 9, 3, 23), (23, .aload_n 0, 1, 24), (24, .getfield 19, 3, 27), (27, .iload_n 1, 1, 28), (28, .dup2, 1, 29), (29, .iaload, 1, 30), (30, .iconst 1, 1, 31), (31, .iadd, 1, 32), (32, .iastore, 1, 33), (33, .return_, 1, 34)]
theorem dtX2_crown_0 : dtOK cX2_crown tbX2_crown_0 = true := by decide +kernel
def tbX2_allTerms_0 : List (Nat × Instr × Nat × Nat) := [(0, .iconst 0, 1, 1), (1, .istore_n 1, 1, 2), (2, .iconst 0, 1, 3), (3, .istore_n 2, 1, 4), (4, .iload_n 2, 1, 5), (5, .iconst 5, 1, 6), (6, .if_icmp .ge 18, 3, 9), (9, .iload_n 1, 1, 10), (10, .aload_n 0, 1, 11), (11, .getfield 19, 3, 14), (14, .iload_n 2, 1, 15), (15, .iaload, 1, 16), (16, .iadd, 1, 17), (17, .istore_n 1, 1, 18), (18, .iinc 2 1, 3, 21), (21, .goto (-17), 3, 24), (24, .iload_n 1, 1, 25), (25, .ireturn, 1, 26)]
theorem dtX2_allTerms_0 : dtOK cX2_allTerms tbX2_allTerms_0 = true := by decide +kernel
def tbX2_termHolders_0 : List (Nat × Instr × Nat × Nat) := [(0, .iconst 0, 1, 1), (1, .istore_n 1, 1, 2), (2, .iconst 0, 1, 3), (3, .istore_n 2, 1, 4), (4, .iload_n 2, 1, 5), (5, .iconst 5, 1, 6), (6, .if_icmp .ge 21, 3, 9), (9, .aload_n 0, 1, 10), (10, .getfield 19, 3, 13), (13, .iload_n 2, 1, 14), (14, .iaload, 1, 15), (15, .ifCond .le 6, 3, 18), (18, .iinc 1 1, 3, 21), (21, .iinc 2 1, 3, 24), (24, .goto (-20), 3, 27), (27, .iload_n 1, 1, 28), (28, .ireturn, 1, 29)]
theorem dtX2_termHolders_0 : dtOK cX2_termHolders tbX2_termHolders_0 = true := by decide +kernel
def tbX3_init_0 : List (Nat × Instr × Nat × Nat) := [(0, .aload_n 0, 1, 1), (1, .invokespecial 3, 3, 4), (4, .aload_n 0, 1, 5), (5, .bipush 10, 2, 7), (7, .anewarray 9, 3, 10), (10, .putfield 11, 3, 13), (13, .aload_n 0, 1, 14), (14, .iconst 0, 1, 15), (15, .putfield 17, 3, 18), (18, .aload_n 0, 1, 19), (19, .iconst 0, 1, 20), (20, .putfield 21, 3, 23), (23, .iconst 0, 1, 24), (24, .istore_n 1, 1, 25), (25, .iload_n 1, 1, 26), (26, .bipush 10, 2, 28), (28, .if_icmp .ge 22, 3, 31), (31, .aload_n 0, 1, 32), (32, .getfield 11, 3, 35), (35, .iload_n 1, 1, 36), (36, .new 9, 3, 39), (39, .dup, 1, 40), (40, .invokespecial 24, 3, 43), (43, .aastore, 1, 44), (44, .iinc 1 1, 3, 47), (47, .goto (-22), 3, 50), (50, .return_, 1, 51)]
theorem dtX3_init_0 : dtOK cX3_init tbX3_init_0 = true := by decide +kernel
def tbX3_remember_0 : List (Nat × Instr × Nat × Nat) := [(0, .aload_n 0, 1, 1), (1, .getfield 11, 3, 4), (4, .aload_n 0, 1, 5), (5, .getfield 17, 3, 8), (8, .aaload, 1, 9), (9, .aload_n 1, 1, 10), (10, .invokevirtual 25, 3, 13), (13, .aload_n 0, 1, 14), (14, .aload_n 0, 1, 15), (15, .getfield 17, 3, 18), (18, .iconst 1, 1, 19), (19, .iadd, 1, 20), (20, .bipush 10, 2, 22), (22, .irem, 1, 23), (23, .putfield 17, 3, 26), (26, .aload_n 0, 1, 27), (27, .bipush 10, 2, 29), (29, .aload_n 0, 1, 30), (30, .getfield 21, 3, 33), (33, .iconst 1, 1, 34), (34, .iadd, 1, 35), (35, .invokestatic 29, 3, 38), (38, .putfield 21, 3, 41), (41, .return_, 1, 42)]
theorem dtX3_remember_0 : dtOK cX3_remember tbX3_remember_0 = true := by decide +kernel
def tbX3_restore_0 : List (Nat × Instr × Nat × Nat) := [(0, .aload_n 0, 1, 1), (1, .getfield 21, 3, 4), (4, .ifCond .gt 4, 3, 7), (7, .return_, 1, 8), (8, .aload_n 0, 1, 9), (9, .aload_n 0, 1, 10), (10, .getfield 17, 3, 13), (13, .bipush 10, 2, 15), (15, .iadd, 1, 16), (16, .iconst 1, 1, 17), (17, .isub, 1, 18), (18, .bipush 10, 2, 20), (20, .irem, 1, 21), (21, .putfield 17, 3, 24), (24, .aload_n 0, 1, 25), (25, .dup, 1, 26), (26, .getfield 21, 3, 29), (29, .iconst 1, 1, 30), (30, .isub, 1, 31), (31, .putfield 21, 3, 34), (34, .aload_n 1, 1, 35), (35, .aload_n 0, 1, 36), (36, .getfield 11, 3, 39), (39, .aload_n 0, 1, 40), (40, .getfield 17, 3, 43), (43, .aaload, 1, 44), (44, .invokevirtual 25, 3, 47), (47, .return_, 1, 48)]
theorem dtX3_restore_0 : dtOK cX3_restore tbX3_restore_0 = true := by decide +kernel
def tbX4_init_0 : List (Nat × Instr × Nat × Nat) := [(0, .aload_n 0, 1, 1), (1, .invokespecial 3, 3, 4), (4, .aload_n 0, 1, 5), (5, .sipush 150, 3, 8), (8, .newarray .int, 2, 10), (10, .putfield 9, 3, 13), (13, .aload_n 0, 1, 14), (14, .iconst 0, 1, 15), (15, .putfield 15, 3, 18), (18, .aload_n 0, 1, 19), (19, .new 19, 3, 22), (22, .dup, 1, 23), (23, .invokespecial 21, 3, 26), (26, .putfield 22, 3, 29), (29, .aload_n 0, 1, 30), (30, .new 26, 3, 33), (33, .dup, 1, 34), (34, .invokespecial 28, 3, 37), (37, .putfield 29, 3, 40), (40, .aload_n 0, 1, 41), (41, .iconst 0, 1, 42), (42, .putfield 33, 3, 45), (45, .aload_n 0, 1, 46), (46, .iconst 0, 1, 47), (47, .putfield 37, 3, 50), (50, .aload_n 0, 1, 51), (51, .iconst 0, 1, 52), (52, .putfield 40, 3, 55), (55, .aload_n 0, 1, 56), (56, .iconst 0, 1, 57), (57, .putfield 43, 3, 60), (60, .aload_n 0, 1, 61), (61, .sipush 258, 3, 64), (64, .putfield 46, 3, 67), (67, .aload_n 0, 1, 68), (68, .iconst 0, 1, 69), (69, .putfield 49, 3, 72), (72, .return_, 1, 73)]
theorem dtX4_init_0 : dtOK cX4_init tbX4_init_0 = true := by decide +kernel
def tbX4_read_0 : List (Nat × Instr × Nat × Nat) := [(0, .aload_n 0, 1, 1), (1, .getfield 22, 3, 4), (4, .invokevirtual 52, 3, 7), (7, .aload_n 0, 1, 8), (8, .getfield 29, 3, 11), (11, .invokevirtual 55, 3, 14), (14, .aload_n 0, 1, 15), (15, .iconst 0, 1, 16), (16, .putfield 33, 3, 19), (19, .aload_n 0, 1, 20), (20, .iconst 0, 1, 21), (21, .putfield 37, 3, 24), (24, .aload_n 0, 1, 25), (25, .iconst 0, 1, 26), (26, .putfield 40, 3, 29), (29, .iconst 0, 1, 30), (30, .istore_n 1, 1, 31), (31, .iload_n 1, 1, 32), (32, .sipush 150, 3, 35), (35, .if_icmp .gt 47, 3, 38), (38, .aload_n 0, 1, 39), (39, .invokevirtual 56, 3, 42), (42, .aload_n 0, 1, 43), (43, .getfield 46, 3, 46), (46, .sipush 258, 3, 49), (49, .if_icmp .ne 5, 3, 52), (52, .iload_n 1, 1, 53), (53, .ireturn, 1, 54), (54, .aload_n 0, 1, 55), (55, .invokevirtual 59, 3, 58), (58, .ifCond .eq 10, 3, 61), (61, .aload_n 0, 1, 62), (62, .invokevirtual 63, 3, 65), (65, .ifCond .ne 11, 3, 68), (68, .bipush (-10), 2, 70), (70, .aload_n 0, 1, 71), (71, .getfield 43, 3, 74), (74, .isub, 1, 75), (75, .ireturn, 1, 76), (76, .iinc 1 1, 3, 79), (79, .goto (-48), 3, 82), (82, .bipush (-10), 2, 84), (84, .aload_n 0, 1, 85), (85, .getfield 43, 3, 88), (88, .isub, 1, 89), (89, .ireturn, 1, 90)]
theorem dtX4_read_0 : dtOK cX4_read tbX4_read_0 = true := by decide +kernel
def tbX4_readItem_0 : List (Nat × Instr × Nat × Nat) := [(0, .aload_n 0, 1, 1), (1, .getfield 46, 3, 4), (4, .lookupswitch 51 #[(107, 36), (112, 46), (120, 41)], 36, 40), (40, .aload_n 0, 1, 41), (41, .invokevirtual 66, 3, 44), (44, .ireturn, 1, 45), (45, .aload_n 0, 1, 46), (46, .invokevirtual 69, 3, 49), (49, .ireturn, 1, 50), (50, .aload_n 0, 1, 51), (51, .invokevirtual 72, 3, 54), (54, .ireturn, 1, 55), (55, .iconst 0, 1, 56), (56, .ireturn, 1, 57)]
theorem dtX4_readItem_0 : dtOK cX4_readItem tbX4_readItem_0 = true := by decide +kernel
def tbX4_readKinds_0 : List (Nat × Instr × Nat × Nat) := [(0, .aload_n 0, 1, 1), (1, .getfield 33, 3, 4), (4, .ifCond .ne 22, 3, 7), (7, .aload_n 0, 1, 8), (8, .getfield 22, 3, 11), (11, .getfield 75, 3, 14), (14, .ifCond .gt 12, 3, 17), (17, .aload_n 0, 1, 18), (18, .iconst 1, 1, 19), (19, .iconst 4, 1, 20), (20, .invokevirtual 78, 3, 23), (23, .ifCond .ne 5, 3, 26), (26, .iconst 0, 1, 27), (27, .ireturn, 1, 28), (28, .aload_n 0, 1, 29), (29, .iconst 1, 1, 30), (30, .putfield 33, 3, 33), (33, .aload_n 0, 1, 34), (34, .getfield 22, 3, 37), (37, .aload_n 0, 1, 38), (38, .getfield 49, 3, 41), (41, .putfield 82, 3, 44), (44, .iconst 1, 1, 45), (45, .ireturn, 1, 46)]
theorem dtX4_readKinds_0 : dtOK cX4_readKinds tbX4_readKinds_0 = true := by decide +kernel
def tbX4_readPlaces_0 : List (Nat × Instr × Nat × Nat) := [(0, .aload_n 0, 1, 1), (1, .getfield 37, 3, 4), (4, .ifCond .ne 22, 3, 7), (7, .aload_n 0, 1, 8), (8, .getfield 22, 3, 11), (11, .getfield 75, 3, 14), (14, .ifCond .gt 12, 3, 17), (17, .aload_n 0, 1, 18), (18, .iconst 1, 1, 19), (19, .iconst 4, 1, 20), (20, .invokevirtual 78, 3, 23), (23, .ifCond .ne 5, 3, 26), (26, .iconst 0, 1, 27), (27, .ireturn, 1, 28), (28, .aload_n 0, 1, 29), (29, .iconst 1, 1, 30), (30, .putfield 37, 3, 33), (33, .aload_n 0, 1, 34), (34, .getfield 22, 3, 37), (37, .aload_n 0, 1, 38), (38, .getfield 49, 3, 41), (41, .putfield 85, 3, 44), (44, .iconst 1, 1, 45), (45, .ireturn, 1, 46)]
theorem dtX4_readPlaces_0 : dtOK cX4_readPlaces tbX4_readPlaces_0 = true := by decide +kernel
def tbX4_readPerson_0 : List (Nat × Instr × Nat × Nat) := [(0, .aload_n 0, 1, 1), (1, .getfield 22, 3, 4), (4, .getfield 75, 3, 7), (7, .istore_n 1, 1, 8), (8, .iload_n 1, 1, 9), (9, .iconst 5, 1, 10), (10, .if_icmp .ge 13, 3, 13), (13, .aload_n 0, 1, 14), (14, .iconst 0, 1, 15), (15, .bipush 99, 2, 17), (17, .invokevirtual 78, 3, 20), (20, .ifCond .ne 5, 3, 23), (23, .iconst 0, 1, 24), (24, .ireturn, 1, 25), (25, .aload_n 0, 1, 26), (26, .getfield 22, 3, 29), (29, .getfield 88, 3, 32), (32, .iload_n 1, 1, 33), (33, .aload_n 0, 1, 34), (34, .getfield 49, 3, 37), (37, .iastore, 1, 38), (38, .aload_n 0, 1, 39), (39, .iconst 0, 1, 40), (40, .aload_n 0, 1, 41), (41, .getfield 22, 3, 44), (44, .getfield 85, 3, 47), (47, .iconst 1, 1, 48), (48, .isub, 1, 49), (49, .invokevirtual 78, 3, 52), (52, .ifCond .ne 5, 3, 55), (55, .iconst 0, 1, 56), (56, .ireturn, 1, 57), (57, .aload_n 0, 1, 58), (58, .getfield 29, 3, 61), (61, .getfield 91, 3, 64), (64, .iload_n 1, 1, 65), (65, .aload_n 0, 1, 66), (66, .getfield 49, 3, 69), (69, .iastore, 1, 70), (70, .iconst 0, 1, 71), (71, .istore_n 2, 1, 72), (72, .iload_n 2, 1, 73), (73, .aload_n 0, 1, 74), (74, .getfield 22, 3, 77), (77, .getfield 82, 3, 80), (80, .if_icmp .ge 34, 3, 83), (83, .aload_n 0, 1, 84), (84, .iconst 0, 1, 85), (85, .bipush 9, 2, 87), (87, .invokevirtual 78, 3, 90), (90, .ifCond .ne 5, 3, 93), (93, .iconst 0, 1, 94), (94, .ireturn, 1, 95), (95, .aload_n 0, 1, 96), (96, .getfield 29, 3, 99), (99, .iload_n 1, 1, 100), (100, .iload_n 2, 1, 101), (101, .aload_n 0, 1, 102), (102, .getfield 49, 3, 105), (105, .invokevirtual 94, 3, 108)]
theorem dtX4_readPerson_0 : dtOK cX4_readPerson tbX4_readPerson_0 = true := by decide +kernel
def tbX4_readPerson_1 : List (Nat × Instr × Nat × Nat) := [(108, .iinc 2 1, 3, 111), (111, .goto (-39), 3, 114), (114, .aload_n 0, 1, 115), (115, .getfield 22, 3, 118), (118, .dup, 1, 119), (119, .getfield 75, 3, 122), (122, .iconst 1, 1, 123), (123, .iadd, 1, 124), (124, .putfield 75, 3, 127), (127, .iconst 1, 1, 128), (128, .ireturn, 1, 129)]
theorem dtX4_readPerson_1 : dtOK cX4_readPerson tbX4_readPerson_1 = true := by decide +kernel
def tbX4_readNumber_0 : List (Nat × Instr × Nat × Nat) := [(0, .aload_n 0, 1, 1), (1, .invokevirtual 56, 3, 4), (4, .aload_n 0, 1, 5), (5, .getfield 46, 3, 8), (8, .sipush 256, 3, 11), (11, .if_icmp .ne 23, 3, 14), (14, .aload_n 0, 1, 15), (15, .getfield 49, 3, 18), (18, .iload_n 1, 1, 19), (19, .if_icmp .lt 15, 3, 22), (22, .aload_n 0, 1, 23), (23, .getfield 49, 3, 26), (26, .iload_n 2, 1, 27), (27, .if_icmp .gt 7, 3, 30), (30, .iconst 1, 1, 31), (31, .goto 4, 3, 34), (34, .iconst 0, 1, 35), (35, .ireturn, 1, 36)]
theorem dtX4_readNumber_0 : dtOK cX4_readNumber tbX4_readNumber_0 = true := by decide +kernel
def tbX4_readEnd_0 : List (Nat × Instr × Nat × Nat) := [(0, .aload_n 0, 1, 1), (1, .invokevirtual 56, 3, 4), (4, .aload_n 0, 1, 5), (5, .getfield 46, 3, 8), (8, .bipush 59, 2, 10), (10, .if_icmp .ne 7, 3, 13), (13, .iconst 1, 1, 14), (14, .goto 4, 3, 17), (17, .iconst 0, 1, 18), (18, .ireturn, 1, 19)]
theorem dtX4_readEnd_0 : dtOK cX4_readEnd tbX4_readEnd_0 = true := by decide +kernel
def tbX4_advance_0 : List (Nat × Instr × Nat × Nat) := [(0, .aload_n 0, 1, 1), (1, .getfield 40, 3, 4), (4, .aload_n 0, 1, 5), (5, .getfield 15, 3, 8), (8, .if_icmp .ge 30, 3, 11), (11, .aload_n 0, 1, 12), (12, .getfield 9, 3, 15), (15, .aload_n 0, 1, 16), (16, .getfield 40, 3, 19), (19, .iaload, 1, 20), (20, .bipush 32, 2, 22), (22, .if_icmp .ne 16, 3, 25), (25, .aload_n 0, 1, 26), (26, .dup, 1, 27), (27, .getfield 40, 3, 30), (30, .iconst 1, 1, 31), (31, .iadd, 1, 32), (32, .putfield 40, 3, 35), (35, .goto (-35), 3, 38), (38, .aload_n 0, 1, 39), (39, .aload_n 0, 1, 40), (40, .getfield 40, 3, 43), (43, .putfield 43, 3, 46), (46, .aload_n 0, 1, 47), (47, .getfield 40, 3, 50), (50, .aload_n 0, 1, 51), (51, .getfield 15, 3, 54), (54, .if_icmp .lt 13, 3, 57), (57, .aload_n 0, 1, 58), (58, .sipush 258, 3, 61), (61, .putfield 46, 3, 64), (64, .goto 80, 3, 67), (67, .aload_n 0, 1, 68), (68, .getfield 9, 3, 71), (71, .aload_n 0, 1, 72), (72, .getfield 40, 3, 75), (75, .iaload, 1, 76), (76, .invokestatic 98, 3, 79), (79, .ifCond .eq 10, 3, 82), (82, .aload_n 0, 1, 83), (83, .invokevirtual 102, 3, 86), (86, .goto 58, 3, 89), (89, .aload_n 0, 1, 90), (90, .getfield 9, 3, 93), (93, .aload_n 0, 1, 94), (94, .getfield 40, 3, 97), (97, .iaload, 1, 98), (98, .istore_n 1, 1, 99), (99, .aload_n 0, 1, 100), (100, .iload_n 1, 1, 101), (101, .bipush 107, 2, 103), (103, .if_icmp .eq 21, 3, 106), (106, .iload_n 1, 1, 107), (107, .bipush 120, 2, 109), (109, .if_icmp .eq 15, 3, 112), (112, .iload_n 1, 1, 113), (113, .bipush 112, 2, 115), (115, .if_icmp .eq 9, 3, 118), (118, .iload_n 1, 1, 119), (119, .bipush 59, 2, 121)]
theorem dtX4_advance_0 : dtOK cX4_advance tbX4_advance_0 = true := by decide +kernel
def tbX4_advance_1 : List (Nat × Instr × Nat × Nat) := [(121, .if_icmp .ne 7, 3, 124), (124, .iload_n 1, 1, 125), (125, .goto 6, 3, 128), (128, .sipush 257, 3, 131), (131, .putfield 46, 3, 134), (134, .aload_n 0, 1, 135), (135, .dup, 1, 136), (136, .getfield 40, 3, 139), (139, .iconst 1, 1, 140), (140, .iadd, 1, 141), (141, .putfield 40, 3, 144), (144, .return_, 1, 145)]
theorem dtX4_advance_1 : dtOK cX4_advance tbX4_advance_1 = true := by decide +kernel
def tbX4_advanceOverNumber_0 : List (Nat × Instr × Nat × Nat) := [(0, .aload_n 0, 1, 1), (1, .getfield 9, 3, 4), (4, .aload_n 0, 1, 5), (5, .getfield 40, 3, 8), (8, .iaload, 1, 9), (9, .bipush 48, 2, 11), (11, .if_icmp .ne 7, 3, 14), (14, .iconst 1, 1, 15), (15, .goto 4, 3, 18), (18, .iconst 0, 1, 19), (19, .istore_n 1, 1, 20), (20, .aload_n 0, 1, 21), (21, .iconst 0, 1, 22), (22, .putfield 49, 3, 25), (25, .aload_n 0, 1, 26), (26, .getfield 40, 3, 29), (29, .aload_n 0, 1, 30), (30, .getfield 15, 3, 33), (33, .if_icmp .ge 60, 3, 36), (36, .aload_n 0, 1, 37), (37, .getfield 9, 3, 40), (40, .aload_n 0, 1, 41), (41, .getfield 40, 3, 44), (44, .iaload, 1, 45), (45, .invokestatic 98, 3, 48), (48, .ifCond .eq 45, 3, 51), (51, .aload_n 0, 1, 52), (52, .bipush 100, 2, 54), (54, .aload_n 0, 1, 55), (55, .getfield 49, 3, 58), (58, .bipush 10, 2, 60), (60, .imul, 1, 61), (61, .aload_n 0, 1, 62), (62, .getfield 9, 3, 65), (65, .aload_n 0, 1, 66), (66, .getfield 40, 3, 69), (69, .iaload, 1, 70), (70, .iadd, 1, 71), (71, .bipush 48, 2, 73), (73, .isub, 1, 74), (74, .invokestatic 105, 3, 77), (77, .putfield 49, 3, 80), (80, .aload_n 0, 1, 81), (81, .dup, 1, 82), (82, .getfield 40, 3, 85), (85, .iconst 1, 1, 86), (86, .iadd, 1, 87), (87, .putfield 40, 3, 90), (90, .goto (-65), 3, 93), (93, .aload_n 0, 1, 94), (94, .getfield 49, 3, 97), (97, .bipush 99, 2, 99), (99, .if_icmp .gt 20, 3, 102), (102, .iload_n 1, 1, 103), (103, .ifCond .eq 20, 3, 106), (106, .aload_n 0, 1, 107), (107, .getfield 40, 3, 110), (110, .aload_n 0, 1, 111), (111, .getfield 43, 3, 114), (114, .isub, 1, 115)]
theorem dtX4_advanceOverNumber_0 : dtOK cX4_advanceOverNumber tbX4_advanceOverNumber_0 = true := by decide +kernel
def tbX4_advanceOverNumber_1 : List (Nat × Instr × Nat × Nat) := [(115, .iconst 1, 1, 116), (116, .if_icmp .le 7, 3, 119), (119, .iconst 1, 1, 120), (120, .goto 4, 3, 123), (123, .iconst 0, 1, 124), (124, .istore_n 2, 1, 125), (125, .aload_n 0, 1, 126), (126, .iload_n 2, 1, 127), (127, .ifCond .eq 9, 3, 130), (130, .sipush 257, 3, 133), (133, .goto 6, 3, 136), (136, .sipush 256, 3, 139), (139, .putfield 46, 3, 142), (142, .return_, 1, 143)]
theorem dtX4_advanceOverNumber_1 : dtOK cX4_advanceOverNumber tbX4_advanceOverNumber_1 = true := by decide +kernel
def tbX4_isDigit_0 : List (Nat × Instr × Nat × Nat) := [(0, .iload_n 0, 1, 1), (1, .bipush 48, 2, 3), (3, .if_icmp .lt 13, 3, 6), (6, .iload_n 0, 1, 7), (7, .bipush 57, 2, 9), (9, .if_icmp .gt 7, 3, 12), (12, .iconst 1, 1, 13), (13, .goto 4, 3, 16), (16, .iconst 0, 1, 17), (17, .ireturn, 1, 18)]
theorem dtX4_isDigit_0 : dtOK cX4_isDigit tbX4_isDigit_0 = true := by decide +kernel
def tbX5_init_0 : List (Nat × Instr × Nat × Nat) := [(0, .aload_n 0, 1, 1), (1, .invokespecial 3, 3, 4), (4, .aload_n 0, 1, 5), (5, .iconst 3, 1, 6), (6, .putfield 9, 3, 9), (9, .aload_n 0, 1, 10), (10, .iconst 2, 1, 11), (11, .putfield 15, 3, 14), (14, .aload_n 0, 1, 15), (15, .iconst 0, 1, 16), (16, .putfield 18, 3, 19), (19, .aload_n 0, 1, 20), (20, .iconst 5, 1, 21), (21, .newarray .int, 2, 23), (23, .putfield 21, 3, 26), (26, .return_, 1, 27)]
theorem dtX5_init_0 : dtOK cX5_init tbX5_init_0 = true := by decide +kernel
def tbX5_reset_0 : List (Nat × Instr × Nat × Nat) := [(0, .aload_n 0, 1, 1), (1, .iconst 3, 1, 2), (2, .putfield 9, 3, 5), (5, .aload_n 0, 1, 6), (6, .iconst 2, 1, 7), (7, .putfield 15, 3, 10), (10, .aload_n 0, 1, 11), (11, .iconst 0, 1, 12), (12, .putfield 18, 3, 15), (15, .aload_n 0, 1, 16), (16, .getfield 21, 3, 19), (19, .iconst 0, 1, 20), (20, .invokestatic 25, 3, 23), (23, .return_, 1, 24)]
theorem dtX5_reset_0 : dtOK cX5_reset tbX5_reset_0 = true := by decide +kernel
def tbX5_copyFrom_0 : List (Nat × Instr × Nat × Nat) := [(0, .aload_n 0, 1, 1), (1, .aload_n 1, 1, 2), (2, .getfield 9, 3, 5), (5, .putfield 9, 3, 8), (8, .aload_n 0, 1, 9), (9, .aload_n 1, 1, 10), (10, .getfield 15, 3, 13), (13, .putfield 15, 3, 16), (16, .aload_n 0, 1, 17), (17, .aload_n 1, 1, 18), (18, .getfield 18, 3, 21), (21, .putfield 18, 3, 24), (24, .aload_n 1, 1, 25), (25, .getfield 21, 3, 28), (28, .iconst 0, 1, 29), (29, .aload_n 0, 1, 30), (30, .getfield 21, 3, 33), (33, .iconst 0, 1, 34), (34, .iconst 5, 1, 35), (35, .invokestatic 31, 3, 38), (38, .return_, 1, 39)]
theorem dtX5_copyFrom_0 : dtOK cX5_copyFrom tbX5_copyFrom_0 = true := by decide +kernel
def tbX5_hasKind_0 : List (Nat × Instr × Nat × Nat) := [(0, .iload_n 1, 1, 1), (1, .ifCond .lt 15, 3, 4), (4, .iload_n 1, 1, 5), (5, .aload_n 0, 1, 6), (6, .getfield 9, 3, 9), (9, .if_icmp .ge 7, 3, 12), (12, .iconst 1, 1, 13), (13, .goto 4, 3, 16), (16, .iconst 0, 1, 17), (17, .ireturn, 1, 18)]
theorem dtX5_hasKind_0 : dtOK cX5_hasKind tbX5_hasKind_0 = true := by decide +kernel
def tbX5_hasPlace_0 : List (Nat × Instr × Nat × Nat) := [(0, .iload_n 1, 1, 1), (1, .ifCond .lt 15, 3, 4), (4, .iload_n 1, 1, 5), (5, .aload_n 0, 1, 6), (6, .getfield 15, 3, 9), (9, .if_icmp .ge 7, 3, 12), (12, .iconst 1, 1, 13), (13, .goto 4, 3, 16), (16, .iconst 0, 1, 17), (17, .ireturn, 1, 18)]
theorem dtX5_hasPlace_0 : dtOK cX5_hasPlace tbX5_hasPlace_0 = true := by decide +kernel
def tbX5_hasPerson_0 : List (Nat × Instr × Nat × Nat) := [(0, .iload_n 1, 1, 1), (1, .ifCond .lt 15, 3, 4), (4, .iload_n 1, 1, 5), (5, .aload_n 0, 1, 6), (6, .getfield 18, 3, 9), (9, .if_icmp .ge 7, 3, 12), (12, .iconst 1, 1, 13), (13, .goto 4, 3, 16), (16, .iconst 0, 1, 17), (17, .ireturn, 1, 18)]
theorem dtX5_hasPerson_0 : dtOK cX5_hasPerson tbX5_hasPerson_0 = true := by decide +kernel
def tbX5_shock_0 : List (Nat × Instr × Nat × Nat) := [(0, .aload_n 1, 1, 1), (1, .getfield 37, 3, 4), (4, .iload_n 2, 1, 5), (5, .iaload, 1, 6), (6, .aload_n 0, 1, 7), (7, .getfield 9, 3, 10), (10, .iadd, 1, 11), (11, .istore 4, 2, 13), (13, .iload 4, 2, 15), (15, .ifCond .gt 5, 3, 18), (18, .iconst 0, 1, 19), (19, .ireturn, 1, 20), (20, .bipush 100, 2, 22), (22, .bipush 100, 2, 24), (24, .aload_n 1, 1, 25), (25, .getfield 42, 3, 28), (28, .iload_n 2, 1, 29), (29, .iconst 4, 1, 30), (30, .imul, 1, 31), (31, .iload_n 3, 1, 32), (32, .iadd, 1, 33), (33, .iaload, 1, 34), (34, .iconst 1, 1, 35), (35, .iadd, 1, 36), (36, .imul, 1, 37), (37, .iload 4, 2, 39), (39, .idiv, 1, 40), (40, .isub, 1, 41), (41, .ireturn, 1, 42)]
theorem dtX5_shock_0 : dtOK cX5_shock tbX5_shock_0 = true := by decide +kernel
def tbX5_greatestShock_0 : List (Nat × Instr × Nat × Nat) := [(0, .iconst (-1), 1, 1), (1, .istore_n 2, 1, 2), (2, .iconst 0, 1, 3), (3, .istore_n 3, 1, 4), (4, .iload_n 3, 1, 5), (5, .aload_n 0, 1, 6), (6, .getfield 18, 3, 9), (9, .if_icmp .ge 40, 3, 12), (12, .iconst 0, 1, 13), (13, .istore 4, 2, 15), (15, .iload 4, 2, 17), (17, .aload_n 0, 1, 18), (18, .getfield 9, 3, 21), (21, .if_icmp .ge 22, 3, 24), (24, .iload_n 2, 1, 25), (25, .aload_n 0, 1, 26), (26, .aload_n 1, 1, 27), (27, .iload_n 3, 1, 28), (28, .iload 4, 2, 30), (30, .invokevirtual 45, 3, 33), (33, .invokestatic 49, 3, 36), (36, .istore_n 2, 1, 37), (37, .iinc 4 1, 3, 40), (40, .goto (-25), 3, 43), (43, .iinc 3 1, 3, 46), (46, .goto (-42), 3, 49), (49, .iload_n 2, 1, 50), (50, .ireturn, 1, 51)]
theorem dtX5_greatestShock_0 : dtOK cX5_greatestShock tbX5_greatestShock_0 = true := by decide +kernel
def tbX5_jumpers_0 : List (Nat × Instr × Nat × Nat) := [(0, .iconst 0, 1, 1), (1, .istore 4, 2, 3), (3, .iconst 0, 1, 4), (4, .istore 5, 2, 6), (6, .iload 5, 2, 8), (8, .aload_n 0, 1, 9), (9, .getfield 18, 3, 12), (12, .if_icmp .ge 47, 3, 15), (15, .aload_n 1, 1, 16), (16, .getfield 55, 3, 19), (19, .iload 5, 2, 21), (21, .iaload, 1, 22), (22, .iload_n 3, 1, 23), (23, .if_icmp .ne 30, 3, 26), (26, .aload_n 0, 1, 27), (27, .aload_n 1, 1, 28), (28, .iload 5, 2, 30), (30, .iload_n 2, 1, 31), (31, .invokevirtual 45, 3, 34), (34, .aload_n 0, 1, 35), (35, .getfield 21, 3, 38), (38, .iload 5, 2, 40), (40, .iaload, 1, 41), (41, .if_icmp .lt 12, 3, 44), (44, .iload 4, 2, 46), (46, .iconst 1, 1, 47), (47, .iload 5, 2, 49), (49, .ishl, 1, 50), (50, .ior, 1, 51), (51, .istore 4, 2, 53), (53, .iinc 5 1, 3, 56), (56, .goto (-50), 3, 59), (59, .iload 4, 2, 61), (61, .ireturn, 1, 62)]
theorem dtX5_jumpers_0 : dtOK cX5_jumpers tbX5_jumpers_0 = true := by decide +kernel
def tbX5_mayorBy_0 : List (Nat × Instr × Nat × Nat) := [(0, .aload_n 1, 1, 1), (1, .getfield 58, 3, 4), (4, .istore 4, 2, 6), (6, .iconst (-1), 1, 7), (7, .istore 5, 2, 9), (9, .iconst 0, 1, 10), (10, .istore 6, 2, 12), (12, .iload 6, 2, 14), (14, .aload_n 0, 1, 15), (15, .getfield 18, 3, 18), (18, .if_icmp .ge 57, 3, 21), (21, .aload_n 1, 1, 22), (22, .getfield 55, 3, 25), (25, .iload 6, 2, 27), (27, .iaload, 1, 28), (28, .iload_n 3, 1, 29), (29, .if_icmp .ne 40, 3, 32), (32, .aload_n 0, 1, 33), (33, .aload_n 1, 1, 34), (34, .iload 6, 2, 36), (36, .iload_n 2, 1, 37), (37, .invokevirtual 45, 3, 40), (40, .istore 7, 2, 42), (42, .iload 7, 2, 44), (44, .aload_n 0, 1, 45), (45, .getfield 21, 3, 48), (48, .iload 6, 2, 50), (50, .iaload, 1, 51), (51, .if_icmp .lt 18, 3, 54), (54, .iload 7, 2, 56), (56, .iload 5, 2, 58), (58, .if_icmp .le 11, 3, 61), (61, .iload 7, 2, 63), (63, .istore 5, 2, 65), (65, .iload 6, 2, 67), (67, .istore 4, 2, 69), (69, .iinc 6 1, 3, 72), (72, .goto (-60), 3, 75), (75, .iload 4, 2, 77), (77, .ireturn, 1, 78)]
theorem dtX5_mayorBy_0 : dtOK cX5_mayorBy tbX5_mayorBy_0 = true := by decide +kernel
def tbX5_happen_0 : List (Nat × Instr × Nat × Nat) := [(0, .aload_n 0, 1, 1), (1, .aload_n 1, 1, 2), (2, .iload_n 2, 1, 3), (3, .iload_n 3, 1, 4), (4, .invokevirtual 61, 3, 7), (7, .istore 4, 2, 9), (9, .aload_n 1, 1, 10), (10, .aload_n 0, 1, 11), (11, .aload_n 1, 1, 12), (12, .iload_n 2, 1, 13), (13, .iload_n 3, 1, 14), (14, .invokevirtual 64, 3, 17), (17, .invokevirtual 67, 3, 20), (20, .iconst 0, 1, 21), (21, .istore 5, 2, 23), (23, .iload 5, 2, 25), (25, .aload_n 0, 1, 26), (26, .getfield 18, 3, 29), (29, .if_icmp .ge 27, 3, 32), (32, .aload_n 1, 1, 33), (33, .getfield 55, 3, 36), (36, .iload 5, 2, 38), (38, .iaload, 1, 39), (39, .iload_n 3, 1, 40), (40, .if_icmp .ne 10, 3, 43), (43, .aload_n 1, 1, 44), (44, .iload 5, 2, 46), (46, .iload_n 2, 1, 47), (47, .invokevirtual 71, 3, 50), (50, .iinc 5 1, 3, 53), (53, .goto (-30), 3, 56), (56, .iload 4, 2, 58), (58, .ireturn, 1, 59)]
theorem dtX5_happen_0 : dtOK cX5_happen tbX5_happen_0 = true := by decide +kernel
def tbX6_init_0 : List (Nat × Instr × Nat × Nat) := [(0, .aload_n 0, 1, 1), (1, .invokespecial 1, 3, 4), (4, .aload_n 0, 1, 5), (5, .new 7, 3, 8), (8, .dup, 1, 9), (9, .invokespecial 9, 3, 12), (12, .putfield 10, 3, 15), (15, .aload_n 0, 1, 16), (16, .new 16, 3, 19), (19, .dup, 1, 20), (20, .invokespecial 18, 3, 23), (23, .putfield 19, 3, 26), (26, .aload_n 0, 1, 27), (27, .new 23, 3, 30), (30, .dup, 1, 31), (31, .invokespecial 25, 3, 34), (34, .putfield 26, 3, 37), (37, .aload_n 0, 1, 38), (38, .new 30, 3, 41), (41, .dup, 1, 42), (42, .invokespecial 32, 3, 45), (45, .putfield 33, 3, 48), (48, .aload_n 0, 1, 49), (49, .new 37, 3, 52), (52, .dup, 1, 53), (53, .invokespecial 39, 3, 56), (56, .putfield 40, 3, 59), (59, .aload_n 0, 1, 60), (60, .new 44, 3, 63), (63, .dup, 1, 64), (64, .invokespecial 46, 3, 67), (67, .putfield 47, 3, 70), (70, .aload_n 0, 1, 71), (71, .iconst 2, 1, 72), (72, .anewarray 23, 3, 75), (75, .dup, 1, 76), (76, .iconst 0, 1, 77), (77, .new 23, 3, 80), (80, .dup, 1, 81), (81, .invokespecial 25, 3, 84), (84, .aastore, 1, 85), (85, .dup, 1, 86), (86, .iconst 1, 1, 87), (87, .new 23, 3, 90), (90, .dup, 1, 91), (91, .invokespecial 25, 3, 94), (94, .aastore, 1, 95), (95, .putfield 51, 3, 98), (98, .aload_n 0, 1, 99), (99, .iconst 2, 1, 100), (100, .newarray .boolean, 2, 102), (102, .dup, 1, 103), (103, .iconst 0, 1, 104), (104, .iconst 0, 1, 105), (105, .bastore, 1, 106), (106, .dup, 1, 107), (107, .iconst 1, 1, 108), (108, .iconst 0, 1, 109), (109, .bastore, 1, 110), (110, .putfield 55, 3, 113)]
theorem dtX6_init_0 : dtOK cX6_init tbX6_init_0 = true := by decide +kernel
def tbX6_init_1 : List (Nat × Instr × Nat × Nat) := [(113, .aload_n 0, 1, 114), (114, .lconst 0, 1, 115), (115, .putfield 59, 3, 118), (118, .return_, 1, 119)]
theorem dtX6_init_1 : dtOK cX6_init tbX6_init_1 = true := by decide +kernel
def tbX6_type_0 : List (Nat × Instr × Nat × Nat) := [(0, .iload_n 1, 1, 1), (1, .ifCond .lt 10, 3, 4), (4, .iload_n 1, 1, 5), (5, .sipush 255, 3, 8), (8, .if_icmp .le 5, 3, 11), (11, .iconst (-1), 1, 12), (12, .ireturn, 1, 13), (13, .aload_n 0, 1, 14), (14, .getfield 10, 3, 17), (17, .getfield 63, 3, 20), (20, .sipush 150, 3, 23), (23, .if_icmp .lt 6, 3, 26), (26, .bipush (-3), 2, 28), (28, .ireturn, 1, 29), (29, .aload_n 0, 1, 30), (30, .getfield 10, 3, 33), (33, .getfield 67, 3, 36), (36, .aload_n 0, 1, 37), (37, .getfield 10, 3, 40), (40, .getfield 63, 3, 43), (43, .iload_n 1, 1, 44), (44, .iastore, 1, 45), (45, .aload_n 0, 1, 46), (46, .getfield 10, 3, 49), (49, .dup, 1, 50), (50, .getfield 63, 3, 53), (53, .iconst 1, 1, 54), (54, .iadd, 1, 55), (55, .putfield 63, 3, 58), (58, .aload_n 0, 1, 59), (59, .getfield 10, 3, 62), (62, .getfield 63, 3, 65), (65, .ireturn, 1, 66)]
theorem dtX6_type_0 : dtOK cX6_type tbX6_type_0 = true := by decide +kernel
def tbX6_clear_0 : List (Nat × Instr × Nat × Nat) := [(0, .aload_n 0, 1, 1), (1, .getfield 10, 3, 4), (4, .getfield 63, 3, 7), (7, .istore_n 1, 1, 8), (8, .aload_n 0, 1, 9), (9, .getfield 10, 3, 12), (12, .iconst 0, 1, 13), (13, .putfield 63, 3, 16), (16, .iload_n 1, 1, 17), (17, .ireturn, 1, 18)]
theorem dtX6_clear_0 : dtOK cX6_clear tbX6_clear_0 = true := by decide +kernel
def tbX6_town_0 : List (Nat × Instr × Nat × Nat) := [(0, .aload_n 0, 1, 1), (1, .getfield 10, 3, 4), (4, .invokevirtual 71, 3, 7), (7, .istore_n 1, 1, 8), (8, .iload_n 1, 1, 9), (9, .ifCond .ge 5, 3, 12), (12, .iload_n 1, 1, 13), (13, .ireturn, 1, 14), (14, .aload_n 0, 1, 15), (15, .getfield 19, 3, 18), (18, .aload_n 0, 1, 19), (19, .getfield 10, 3, 22), (22, .getfield 75, 3, 25), (25, .invokevirtual 78, 3, 28), (28, .aload_n 0, 1, 29), (29, .getfield 26, 3, 32), (32, .aload_n 0, 1, 33), (33, .getfield 10, 3, 36), (36, .getfield 82, 3, 39), (39, .invokevirtual 85, 3, 42), (42, .aload_n 0, 1, 43), (43, .getfield 10, 3, 46), (46, .iconst 0, 1, 47), (47, .putfield 63, 3, 50), (50, .aload_n 0, 1, 51), (51, .getfield 33, 3, 54), (54, .iconst 0, 1, 55), (55, .putfield 88, 3, 58), (58, .aload_n 0, 1, 59), (59, .getfield 47, 3, 62), (62, .iconst 0, 1, 63), (63, .putfield 91, 3, 66), (66, .aload_n 0, 1, 67), (67, .getfield 55, 3, 70), (70, .iconst 0, 1, 71), (71, .iconst 0, 1, 72), (72, .bastore, 1, 73), (73, .aload_n 0, 1, 74), (74, .getfield 55, 3, 77), (77, .iconst 1, 1, 78), (78, .iconst 0, 1, 79), (79, .bastore, 1, 80), (80, .iload_n 1, 1, 81), (81, .ireturn, 1, 82)]
theorem dtX6_town_0 : dtOK cX6_town tbX6_town_0 = true := by decide +kernel
def tbX6_person_0 : List (Nat × Instr × Nat × Nat) := [(0, .aload_n 0, 1, 1), (1, .getfield 19, 3, 4), (4, .iload_n 1, 1, 5), (5, .invokevirtual 94, 3, 8), (8, .ifCond .ne 5, 3, 11), (11, .iconst (-1), 1, 12), (12, .ireturn, 1, 13), (13, .iload_n 2, 1, 14), (14, .tableswitch 70 0 3 #[30, 40, 50, 60], 30, 44), (44, .aload_n 0, 1, 45), (45, .getfield 19, 3, 48), (48, .getfield 98, 3, 51), (51, .iload_n 1, 1, 52), (52, .iaload, 1, 53), (53, .ireturn, 1, 54), (54, .aload_n 0, 1, 55), (55, .getfield 26, 3, 58), (58, .getfield 101, 3, 61), (61, .iload_n 1, 1, 62), (62, .iaload, 1, 63), (63, .ireturn, 1, 64), (64, .aload_n 0, 1, 65), (65, .getfield 26, 3, 68), (68, .getfield 104, 3, 71), (71, .iload_n 1, 1, 72), (72, .iaload, 1, 73), (73, .ireturn, 1, 74), (74, .aload_n 0, 1, 75), (75, .getfield 26, 3, 78), (78, .getfield 107, 3, 81), (81, .iload_n 1, 1, 82), (82, .iaload, 1, 83), (83, .ireturn, 1, 84), (84, .iconst (-1), 1, 85), (85, .ireturn, 1, 86)]
theorem dtX6_person_0 : dtOK cX6_person tbX6_person_0 = true := by decide +kernel
def tbX6_seen_0 : List (Nat × Instr × Nat × Nat) := [(0, .aload_n 0, 1, 1), (1, .getfield 19, 3, 4), (4, .iload_n 1, 1, 5), (5, .invokevirtual 94, 3, 8), (8, .ifCond .eq 14, 3, 11), (11, .aload_n 0, 1, 12), (12, .getfield 19, 3, 15), (15, .iload_n 2, 1, 16), (16, .invokevirtual 110, 3, 19), (19, .ifCond .ne 5, 3, 22), (22, .iconst (-1), 1, 23), (23, .ireturn, 1, 24), (24, .aload_n 0, 1, 25), (25, .getfield 26, 3, 28), (28, .iload_n 1, 1, 29), (29, .iload_n 2, 1, 30), (30, .invokevirtual 113, 3, 33), (33, .ireturn, 1, 34)]
theorem dtX6_seen_0 : dtOK cX6_seen tbX6_seen_0 = true := by decide +kernel
def tbX6_surprise_0 : List (Nat × Instr × Nat × Nat) := [(0, .aload_n 0, 1, 1), (1, .getfield 19, 3, 4), (4, .iload_n 1, 1, 5), (5, .invokevirtual 94, 3, 8), (8, .ifCond .eq 14, 3, 11), (11, .aload_n 0, 1, 12), (12, .getfield 19, 3, 15), (15, .iload_n 2, 1, 16), (16, .invokevirtual 110, 3, 19), (19, .ifCond .ne 5, 3, 22), (22, .iconst (-1), 1, 23), (23, .ireturn, 1, 24), (24, .aload_n 0, 1, 25), (25, .getfield 19, 3, 28), (28, .aload_n 0, 1, 29), (29, .getfield 26, 3, 32), (32, .iload_n 1, 1, 33), (33, .iload_n 2, 1, 34), (34, .invokevirtual 117, 3, 37), (37, .ireturn, 1, 38)]
theorem dtX6_surprise_0 : dtOK cX6_surprise tbX6_surprise_0 = true := by decide +kernel
def tbX6_now_0 : List (Nat × Instr × Nat × Nat) := [(0, .iload_n 1, 1, 1), (1, .tableswitch 67 0 3 #[31, 39, 47, 59], 31, 32), (32, .aload_n 0, 1, 33), (33, .getfield 26, 3, 36), (36, .getfield 121, 3, 39), (39, .ireturn, 1, 40), (40, .aload_n 0, 1, 41), (41, .getfield 26, 3, 44), (44, .invokevirtual 124, 3, 47), (47, .ireturn, 1, 48), (48, .aload_n 0, 1, 49), (49, .getfield 19, 3, 52), (52, .aload_n 0, 1, 53), (53, .getfield 26, 3, 56), (56, .invokevirtual 127, 3, 59), (59, .ireturn, 1, 60), (60, .aload_n 0, 1, 61), (61, .getfield 33, 3, 64), (64, .getfield 88, 3, 67), (67, .ireturn, 1, 68), (68, .ldc 131, 2, 70), (70, .ireturn, 1, 71)]
theorem dtX6_now_0 : dtOK cX6_now tbX6_now_0 = true := by decide +kernel
def tbX6_happens_0 : List (Nat × Instr × Nat × Nat) := [(0, .aload_n 0, 1, 1), (1, .getfield 19, 3, 4), (4, .iload_n 1, 1, 5), (5, .invokevirtual 110, 3, 8), (8, .ifCond .eq 14, 3, 11), (11, .aload_n 0, 1, 12), (12, .getfield 19, 3, 15), (15, .iload_n 2, 1, 16), (16, .invokevirtual 132, 3, 19), (19, .ifCond .ne 5, 3, 22), (22, .iconst (-1), 1, 23), (23, .ireturn, 1, 24), (24, .aload_n 0, 1, 25), (25, .getfield 33, 3, 28), (28, .aload_n 0, 1, 29), (29, .getfield 26, 3, 32), (32, .invokevirtual 135, 3, 35), (35, .aload_n 0, 1, 36), (36, .getfield 19, 3, 39), (39, .aload_n 0, 1, 40), (40, .getfield 26, 3, 43), (43, .iload_n 1, 1, 44), (44, .iload_n 2, 1, 45), (45, .invokevirtual 138, 3, 48), (48, .ireturn, 1, 49)]
theorem dtX6_happens_0 : dtOK cX6_happens tbX6_happens_0 = true := by decide +kernel
def tbX6_walks_0 : List (Nat × Instr × Nat × Nat) := [(0, .aload_n 0, 1, 1), (1, .getfield 19, 3, 4), (4, .iload_n 1, 1, 5), (5, .invokevirtual 94, 3, 8), (8, .ifCond .eq 14, 3, 11), (11, .aload_n 0, 1, 12), (12, .getfield 19, 3, 15), (15, .iload_n 2, 1, 16), (16, .invokevirtual 132, 3, 19), (19, .ifCond .ne 5, 3, 22), (22, .iconst (-1), 1, 23), (23, .ireturn, 1, 24), (24, .aload_n 0, 1, 25), (25, .getfield 26, 3, 28), (28, .getfield 101, 3, 31), (31, .iload_n 1, 1, 32), (32, .iaload, 1, 33), (33, .istore_n 3, 1, 34), (34, .iload_n 3, 1, 35), (35, .iload_n 2, 1, 36), (36, .if_icmp .ne 6, 3, 39), (39, .bipush (-2), 2, 41), (41, .ireturn, 1, 42), (42, .aload_n 0, 1, 43), (43, .getfield 33, 3, 46), (46, .aload_n 0, 1, 47), (47, .getfield 26, 3, 50), (50, .invokevirtual 135, 3, 53), (53, .aload_n 0, 1, 54), (54, .getfield 26, 3, 57), (57, .getfield 101, 3, 60), (60, .iload_n 1, 1, 61), (61, .iload_n 2, 1, 62), (62, .iastore, 1, 63), (63, .iload_n 3, 1, 64), (64, .ireturn, 1, 65)]
theorem dtX6_walks_0 : dtOK cX6_walks tbX6_walks_0 = true := by decide +kernel
def tbX6_tells_0 : List (Nat × Instr × Nat × Nat) := [(0, .aload_n 0, 1, 1), (1, .getfield 19, 3, 4), (4, .iload_n 1, 1, 5), (5, .invokevirtual 94, 3, 8), (8, .ifCond .eq 14, 3, 11), (11, .aload_n 0, 1, 12), (12, .getfield 19, 3, 15), (15, .iload_n 2, 1, 16), (16, .invokevirtual 110, 3, 19), (19, .ifCond .ne 5, 3, 22), (22, .iconst (-1), 1, 23), (23, .ireturn, 1, 24), (24, .aload_n 0, 1, 25), (25, .getfield 33, 3, 28), (28, .aload_n 0, 1, 29), (29, .getfield 26, 3, 32), (32, .invokevirtual 135, 3, 35), (35, .aload_n 0, 1, 36), (36, .getfield 26, 3, 39), (39, .iload_n 1, 1, 40), (40, .iload_n 2, 1, 41), (41, .invokevirtual 141, 3, 44), (44, .aload_n 0, 1, 45), (45, .getfield 26, 3, 48), (48, .iload_n 1, 1, 49), (49, .iload_n 2, 1, 50), (50, .invokevirtual 113, 3, 53), (53, .ireturn, 1, 54)]
theorem dtX6_tells_0 : dtOK cX6_tells tbX6_tells_0 = true := by decide +kernel
def tbX6_abdicates_0 : List (Nat × Instr × Nat × Nat) := [(0, .aload_n 0, 1, 1), (1, .getfield 26, 3, 4), (4, .getfield 121, 3, 7), (7, .istore_n 1, 1, 8), (8, .iload_n 1, 1, 9), (9, .bipush (-9), 2, 11), (11, .if_icmp .ne 6, 3, 14), (14, .bipush (-2), 2, 16), (16, .ireturn, 1, 17), (17, .aload_n 0, 1, 18), (18, .getfield 33, 3, 21), (21, .aload_n 0, 1, 22), (22, .getfield 26, 3, 25), (25, .invokevirtual 135, 3, 28), (28, .aload_n 0, 1, 29), (29, .getfield 26, 3, 32), (32, .bipush (-9), 2, 34), (34, .putfield 121, 3, 37), (37, .iload_n 1, 1, 38), (38, .ireturn, 1, 39)]
theorem dtX6_abdicates_0 : dtOK cX6_abdicates tbX6_abdicates_0 = true := by decide +kernel
def tbX6_undo_0 : List (Nat × Instr × Nat × Nat) := [(0, .aload_n 0, 1, 1), (1, .getfield 33, 3, 4), (4, .getfield 88, 3, 7), (7, .ifCond .ne 6, 3, 10), (10, .bipush (-2), 2, 12), (12, .ireturn, 1, 13), (13, .aload_n 0, 1, 14), (14, .getfield 33, 3, 17), (17, .aload_n 0, 1, 18), (18, .getfield 26, 3, 21), (21, .invokevirtual 145, 3, 24), (24, .aload_n 0, 1, 25), (25, .getfield 33, 3, 28), (28, .getfield 88, 3, 31), (31, .ireturn, 1, 32)]
theorem dtX6_undo_0 : dtOK cX6_undo tbX6_undo_0 = true := by decide +kernel
def tbX6_who_0 : List (Nat × Instr × Nat × Nat) := [(0, .aload_n 0, 1, 1), (1, .getfield 19, 3, 4), (4, .iload_n 1, 1, 5), (5, .invokevirtual 110, 3, 8), (8, .ifCond .eq 14, 3, 11), (11, .aload_n 0, 1, 12), (12, .getfield 19, 3, 15), (15, .iload_n 2, 1, 16), (16, .invokevirtual 132, 3, 19), (19, .ifCond .ne 5, 3, 22), (22, .iconst (-1), 1, 23), (23, .ireturn, 1, 24), (24, .aload_n 0, 1, 25), (25, .getfield 19, 3, 28), (28, .aload_n 0, 1, 29), (29, .getfield 26, 3, 32), (32, .iload_n 1, 1, 33), (33, .iload_n 2, 1, 34), (34, .invokevirtual 148, 3, 37), (37, .ireturn, 1, 38)]
theorem dtX6_who_0 : dtOK cX6_who tbX6_who_0 = true := by decide +kernel
def tbX6_plan_0 : List (Nat × Instr × Nat × Nat) := [(0, .aload_n 0, 1, 1), (1, .getfield 19, 3, 4), (4, .iload_n 1, 1, 5), (5, .invokevirtual 94, 3, 8), (8, .ifCond .eq 13, 3, 11), (11, .iload_n 2, 1, 12), (12, .iconst (-1), 1, 13), (13, .if_icmp .lt 8, 3, 16), (16, .iload_n 2, 1, 17), (17, .iconst 3, 1, 18), (18, .if_icmp .lt 5, 3, 21), (21, .iconst (-1), 1, 22), (22, .ireturn, 1, 23), (23, .aload_n 0, 1, 24), (24, .getfield 40, 3, 27), (27, .aload_n 0, 1, 28), (28, .getfield 19, 3, 31), (31, .aload_n 0, 1, 32), (32, .getfield 26, 3, 35), (35, .iload_n 1, 1, 36), (36, .invokevirtual 151, 3, 39), (39, .istore_n 3, 1, 40), (40, .iload_n 2, 1, 41), (41, .iconst (-1), 1, 42), (42, .if_icmp .ne 5, 3, 45), (45, .iload_n 3, 1, 46), (46, .ireturn, 1, 47), (47, .iload_n 2, 1, 48), (48, .iload_n 3, 1, 49), (49, .if_icmp .ge 15, 3, 52), (52, .aload_n 0, 1, 53), (53, .getfield 40, 3, 56), (56, .getfield 155, 3, 59), (59, .iload_n 2, 1, 60), (60, .iaload, 1, 61), (61, .goto 5, 3, 64), (64, .bipush (-9), 2, 66), (66, .ireturn, 1, 67)]
theorem dtX6_plan_0 : dtOK cX6_plan tbX6_plan_0 = true := by decide +kernel
def tbX6_duel_0 : List (Nat × Instr × Nat × Nat) := [(0, .aload_n 0, 1, 1), (1, .getfield 19, 3, 4), (4, .iload_n 1, 1, 5), (5, .invokevirtual 94, 3, 8), (8, .ifCond .eq 19, 3, 11), (11, .iload_n 2, 1, 12), (12, .ifCond .lt 15, 3, 15), (15, .iload_n 2, 1, 16), (16, .iconst 3, 1, 17), (17, .if_icmp .gt 10, 3, 20), (20, .iload_n 3, 1, 21), (21, .invokestatic 158, 3, 24), (24, .ifCond .ne 5, 3, 27), (27, .iconst (-1), 1, 28), (28, .ireturn, 1, 29), (29, .aload_n 0, 1, 30), (30, .getfield 40, 3, 33), (33, .aload_n 0, 1, 34), (34, .getfield 19, 3, 37), (37, .aload_n 0, 1, 38), (38, .getfield 26, 3, 41), (41, .iload_n 1, 1, 42), (42, .iload_n 2, 1, 43), (43, .invokevirtual 161, 3, 46), (46, .istore 4, 2, 48), (48, .iload_n 3, 1, 49), (49, .iconst 1, 1, 50), (50, .if_icmp .ne 6, 3, 53), (53, .iload 4, 2, 55), (55, .ireturn, 1, 56), (56, .iload_n 2, 1, 57), (57, .ifCond .ne 22, 3, 60), (60, .aload_n 0, 1, 61), (61, .getfield 26, 3, 64), (64, .getfield 121, 3, 67), (67, .iload_n 1, 1, 68), (68, .if_icmp .ne 7, 3, 71), (71, .iconst 1, 1, 72), (72, .goto 19, 3, 75), (75, .iconst 0, 1, 76), (76, .goto 15, 3, 79), (79, .iload 4, 2, 81), (81, .bipush (-9), 2, 83), (83, .if_icmp .eq 7, 3, 86), (86, .iconst 1, 1, 87), (87, .goto 4, 3, 90), (90, .iconst 0, 1, 91), (91, .istore 5, 2, 93), (93, .iload 5, 2, 95), (95, .ifCond .eq 7, 3, 98), (98, .iconst 1, 1, 99), (99, .goto 4, 3, 102), (102, .iconst 0, 1, 103), (103, .ireturn, 1, 104)]
theorem dtX6_duel_0 : dtOK cX6_duel tbX6_duel_0 = true := by decide +kernel
def tbX6_stale_0 : List (Nat × Instr × Nat × Nat) := [(0, .aload_n 0, 1, 1), (1, .getfield 19, 3, 4), (4, .iload_n 1, 1, 5), (5, .invokevirtual 110, 3, 8), (8, .ifCond .eq 14, 3, 11), (11, .aload_n 0, 1, 12), (12, .getfield 19, 3, 15), (15, .iload_n 2, 1, 16), (16, .invokevirtual 132, 3, 19), (19, .ifCond .ne 5, 3, 22), (22, .iconst (-1), 1, 23), (23, .ireturn, 1, 24), (24, .aload_n 0, 1, 25), (25, .getfield 40, 3, 28), (28, .aload_n 0, 1, 29), (29, .getfield 19, 3, 32), (32, .aload_n 0, 1, 33), (33, .getfield 26, 3, 36), (36, .iload_n 1, 1, 37), (37, .iload_n 2, 1, 38), (38, .invokevirtual 165, 3, 41), (41, .ireturn, 1, 42)]
theorem dtX6_stale_0 : dtOK cX6_stale tbX6_stale_0 = true := by decide +kernel
def tbX6_odds_0 : List (Nat × Instr × Nat × Nat) := [(0, .aload_n 0, 1, 1), (1, .getfield 19, 3, 4), (4, .iload_n 1, 1, 5), (5, .invokevirtual 94, 3, 8), (8, .ifCond .eq 14, 3, 11), (11, .aload_n 0, 1, 12), (12, .getfield 19, 3, 15), (15, .iload_n 2, 1, 16), (16, .invokevirtual 132, 3, 19), (19, .ifCond .ne 5, 3, 22), (22, .iconst (-1), 1, 23), (23, .ireturn, 1, 24), (24, .iload_n 3, 1, 25), (25, .ifCond .lt 16, 3, 28), (28, .iload_n 3, 1, 29), (29, .iconst 4, 1, 30), (30, .if_icmp .gt 11, 3, 33), (33, .iload 4, 2, 35), (35, .invokestatic 158, 3, 38), (38, .ifCond .ne 5, 3, 41), (41, .iconst (-1), 1, 42), (42, .ireturn, 1, 43), (43, .aload_n 0, 1, 44), (44, .getfield 40, 3, 47), (47, .aload_n 0, 1, 48), (48, .getfield 19, 3, 51), (51, .aload_n 0, 1, 52), (52, .getfield 26, 3, 55), (55, .iload_n 1, 1, 56), (56, .iload_n 2, 1, 57), (57, .iload_n 3, 1, 58), (58, .invokevirtual 168, 3, 61), (61, .istore 5, 2, 63), (63, .iconst 1, 1, 64), (64, .istore 6, 2, 66), (66, .iconst 0, 1, 67), (67, .istore 7, 2, 69), (69, .iload 7, 2, 71), (71, .iload_n 3, 1, 72), (72, .if_icmp .ge 21, 3, 75), (75, .iload 6, 2, 77), (77, .aload_n 0, 1, 78), (78, .getfield 19, 3, 81), (81, .getfield 172, 3, 84), (84, .imul, 1, 85), (85, .istore 6, 2, 87), (87, .iinc 7 1, 3, 90), (90, .goto (-21), 3, 93), (93, .iconst 1, 1, 94), (94, .iload 5, 2, 96), (96, .iload 6, 2, 98), (98, .invokestatic 175, 3, 101), (101, .invokestatic 178, 3, 104), (104, .istore 7, 2, 106), (106, .iload 4, 2, 108), (108, .ifCond .ne 8, 3, 111), (111, .iload 5, 2, 113), (113, .goto 5, 3, 116), (116, .iload 6, 2, 118), (118, .iload 7, 2, 120)]
theorem dtX6_odds_0 : dtOK cX6_odds tbX6_odds_0 = true := by decide +kernel
def tbX6_odds_1 : List (Nat × Instr × Nat × Nat) := [(120, .idiv, 1, 121), (121, .ireturn, 1, 122)]
theorem dtX6_odds_1 : dtOK cX6_odds tbX6_odds_1 = true := by decide +kernel
def tbX6_notes_0 : List (Nat × Instr × Nat × Nat) := [(0, .aload_n 0, 1, 1), (1, .getfield 19, 3, 4), (4, .iload_n 1, 1, 5), (5, .invokevirtual 94, 3, 8), (8, .ifCond .eq 21, 3, 11), (11, .aload_n 0, 1, 12), (12, .getfield 19, 3, 15), (15, .iload_n 2, 1, 16), (16, .invokevirtual 110, 3, 19), (19, .ifCond .eq 10, 3, 22), (22, .iload_n 3, 1, 23), (23, .invokestatic 158, 3, 26), (26, .ifCond .ne 5, 3, 29), (29, .iconst (-1), 1, 30), (30, .ireturn, 1, 31), (31, .aload_n 0, 1, 32), (32, .getfield 47, 3, 35), (35, .getfield 91, 3, 38), (38, .bipush 6, 2, 40), (40, .if_icmp .lt 6, 3, 43), (43, .bipush (-3), 2, 45), (45, .ireturn, 1, 46), (46, .aload_n 0, 1, 47), (47, .getfield 47, 3, 50), (50, .iload_n 1, 1, 51), (51, .iload_n 2, 1, 52), (52, .iload_n 3, 1, 53), (53, .iconst 1, 1, 54), (54, .if_icmp .ne 7, 3, 57), (57, .iconst 1, 1, 58), (58, .goto 4, 3, 61), (61, .iconst 0, 1, 62), (62, .invokevirtual 183, 3, 65), (65, .aload_n 0, 1, 66), (66, .getfield 47, 3, 69), (69, .getfield 91, 3, 72), (72, .ireturn, 1, 73)]
theorem dtX6_notes_0 : dtOK cX6_notes tbX6_notes_0 = true := by decide +kernel
def tbX6_forget_0 : List (Nat × Instr × Nat × Nat) := [(0, .aload_n 0, 1, 1), (1, .getfield 47, 3, 4), (4, .getfield 91, 3, 7), (7, .istore_n 1, 1, 8), (8, .aload_n 0, 1, 9), (9, .getfield 47, 3, 12), (12, .iconst 0, 1, 13), (13, .putfield 91, 3, 16), (16, .iload_n 1, 1, 17), (17, .ireturn, 1, 18)]
theorem dtX6_forget_0 : dtOK cX6_forget tbX6_forget_0 = true := by decide +kernel
def tbX6_nerves_0 : List (Nat × Instr × Nat × Nat) := [(0, .aload_n 0, 1, 1), (1, .getfield 19, 3, 4), (4, .iload_n 1, 1, 5), (5, .invokevirtual 94, 3, 8), (8, .ifCond .eq 12, 3, 11), (11, .iload_n 2, 1, 12), (12, .ifCond .lt 8, 3, 15), (15, .iload_n 2, 1, 16), (16, .iconst 2, 1, 17), (17, .if_icmp .le 5, 3, 20), (20, .iconst (-1), 1, 21), (21, .ireturn, 1, 22), (22, .aload_n 0, 1, 23), (23, .getfield 47, 3, 26), (26, .aload_n 0, 1, 27), (27, .getfield 19, 3, 30), (30, .aload_n 0, 1, 31), (31, .getfield 26, 3, 34), (34, .iload_n 1, 1, 35), (35, .invokevirtual 187, 3, 38), (38, .iload_n 2, 1, 39), (39, .ifCond .ne 11, 3, 42), (42, .aload_n 0, 1, 43), (43, .getfield 47, 3, 46), (46, .invokevirtual 191, 3, 49), (49, .ireturn, 1, 50), (50, .aload_n 0, 1, 51), (51, .getfield 47, 3, 54), (54, .invokevirtual 191, 3, 57), (57, .ifCond .ne 6, 3, 60), (60, .bipush (-9), 2, 62), (62, .ireturn, 1, 63), (63, .iload_n 2, 1, 64), (64, .iconst 1, 1, 65), (65, .if_icmp .ne 13, 3, 68), (68, .aload_n 0, 1, 69), (69, .getfield 47, 3, 72), (72, .getfield 194, 3, 75), (75, .goto 10, 3, 78), (78, .aload_n 0, 1, 79), (79, .getfield 47, 3, 82), (82, .getfield 197, 3, 85), (85, .ireturn, 1, 86)]
theorem dtX6_nerves_0 : dtOK cX6_nerves tbX6_nerves_0 = true := by decide +kernel
def tbX6_test_0 : List (Nat × Instr × Nat × Nat) := [(0, .aload_n 0, 1, 1), (1, .getfield 19, 3, 4), (4, .iload_n 1, 1, 5), (5, .invokevirtual 94, 3, 8), (8, .ifCond .ne 5, 3, 11), (11, .iconst (-1), 1, 12), (12, .ireturn, 1, 13), (13, .aload_n 0, 1, 14), (14, .getfield 47, 3, 17), (17, .aload_n 0, 1, 18), (18, .getfield 19, 3, 21), (21, .aload_n 0, 1, 22), (22, .getfield 26, 3, 25), (25, .iload_n 1, 1, 26), (26, .invokevirtual 187, 3, 29), (29, .aload_n 0, 1, 30), (30, .getfield 47, 3, 33), (33, .aload_n 0, 1, 34), (34, .getfield 19, 3, 37), (37, .aload_n 0, 1, 38), (38, .getfield 26, 3, 41), (41, .iload_n 1, 1, 42), (42, .invokevirtual 200, 3, 45), (45, .ireturn, 1, 46)]
theorem dtX6_test_0 : dtOK cX6_test tbX6_test_0 = true := by decide +kernel
def tbX6_rate_0 : List (Nat × Instr × Nat × Nat) := [(0, .aload_n 0, 1, 1), (1, .getfield 19, 3, 4), (4, .iload_n 2, 1, 5), (5, .invokevirtual 94, 3, 8), (8, .ifCond .ne 6, 3, 11), (11, .ldc 131, 2, 13), (13, .ireturn, 1, 14), (14, .iload_n 1, 1, 15), (15, .tableswitch 73 0 5 #[37, 43, 49, 55, 61, 67], 37, 52), (52, .aload_n 0, 1, 53), (53, .iload_n 2, 1, 54), (54, .invokevirtual 203, 3, 57), (57, .ireturn, 1, 58), (58, .aload_n 0, 1, 59), (59, .iload_n 2, 1, 60), (60, .invokevirtual 207, 3, 63), (63, .ireturn, 1, 64), (64, .aload_n 0, 1, 65), (65, .iload_n 2, 1, 66), (66, .invokevirtual 210, 3, 69), (69, .ireturn, 1, 70), (70, .aload_n 0, 1, 71), (71, .iload_n 2, 1, 72), (72, .invokevirtual 213, 3, 75), (75, .ireturn, 1, 76), (76, .aload_n 0, 1, 77), (77, .iload_n 2, 1, 78), (78, .invokevirtual 216, 3, 81), (81, .ireturn, 1, 82), (82, .aload_n 0, 1, 83), (83, .iload_n 2, 1, 84), (84, .invokevirtual 219, 3, 87), (87, .ireturn, 1, 88), (88, .ldc 131, 2, 90), (90, .ireturn, 1, 91)]
theorem dtX6_rate_0 : dtOK cX6_rate tbX6_rate_0 = true := by decide +kernel
def tbX6_keep_0 : List (Nat × Instr × Nat × Nat) := [(0, .iload_n 1, 1, 1), (1, .invokestatic 158, 3, 4), (4, .ifCond .ne 5, 3, 7), (7, .iconst (-1), 1, 8), (8, .ireturn, 1, 9), (9, .aload_n 0, 1, 10), (10, .getfield 51, 3, 13), (13, .iload_n 1, 1, 14), (14, .aaload, 1, 15), (15, .aload_n 0, 1, 16), (16, .getfield 26, 3, 19), (19, .invokevirtual 85, 3, 22), (22, .aload_n 0, 1, 23), (23, .getfield 55, 3, 26), (26, .iload_n 1, 1, 27), (27, .iconst 1, 1, 28), (28, .bastore, 1, 29), (29, .aload_n 0, 1, 30), (30, .getfield 26, 3, 33), (33, .invokevirtual 222, 3, 36), (36, .ireturn, 1, 37)]
theorem dtX6_keep_0 : dtOK cX6_keep tbX6_keep_0 = true := by decide +kernel
def tbX6_back_0 : List (Nat × Instr × Nat × Nat) := [(0, .iload_n 1, 1, 1), (1, .invokestatic 158, 3, 4), (4, .ifCond .ne 5, 3, 7), (7, .iconst (-1), 1, 8), (8, .ireturn, 1, 9), (9, .aload_n 0, 1, 10), (10, .getfield 55, 3, 13), (13, .iload_n 1, 1, 14), (14, .baload, 1, 15), (15, .ifCond .ne 6, 3, 18), (18, .bipush (-2), 2, 20), (20, .ireturn, 1, 21), (21, .aload_n 0, 1, 22), (22, .getfield 26, 3, 25), (25, .aload_n 0, 1, 26), (26, .getfield 51, 3, 29), (29, .iload_n 1, 1, 30), (30, .aaload, 1, 31), (31, .invokevirtual 85, 3, 34), (34, .aload_n 0, 1, 35), (35, .getfield 33, 3, 38), (38, .iconst 0, 1, 39), (39, .putfield 88, 3, 42), (42, .aload_n 0, 1, 43), (43, .getfield 26, 3, 46), (46, .invokevirtual 222, 3, 49), (49, .ireturn, 1, 50)]
theorem dtX6_back_0 : dtOK cX6_back tbX6_back_0 = true := by decide +kernel
def tbX6_count_0 : List (Nat × Instr × Nat × Nat) := [(0, .iload_n 1, 1, 1), (1, .tableswitch 75 0 4 #[35, 43, 51, 59, 67], 35, 36), (36, .aload_n 0, 1, 37), (37, .getfield 19, 3, 40), (40, .getfield 172, 3, 43), (43, .ireturn, 1, 44), (44, .aload_n 0, 1, 45), (45, .getfield 19, 3, 48), (48, .getfield 225, 3, 51), (51, .ireturn, 1, 52), (52, .aload_n 0, 1, 53), (53, .getfield 19, 3, 56), (56, .getfield 228, 3, 59), (59, .ireturn, 1, 60), (60, .aload_n 0, 1, 61), (61, .getfield 47, 3, 64), (64, .getfield 91, 3, 67), (67, .ireturn, 1, 68), (68, .aload_n 0, 1, 69), (69, .getfield 10, 3, 72), (72, .getfield 63, 3, 75), (75, .ireturn, 1, 76), (76, .iconst (-1), 1, 77), (77, .ireturn, 1, 78)]
theorem dtX6_count_0 : dtOK cX6_count tbX6_count_0 = true := by decide +kernel
def tbX6_trace_0 : List (Nat × Instr × Nat × Nat) := [(0, .aload_n 0, 1, 1), (1, .getfield 59, 3, 4), (4, .lreturn, 1, 5)]
theorem dtX6_trace_0 : dtOK cX6_trace tbX6_trace_0 = true := by decide +kernel
def tbX6_isBit_0 : List (Nat × Instr × Nat × Nat) := [(0, .iload_n 0, 1, 1), (1, .ifCond .eq 8, 3, 4), (4, .iload_n 0, 1, 5), (5, .iconst 1, 1, 6), (6, .if_icmp .ne 7, 3, 9), (9, .iconst 1, 1, 10), (10, .goto 4, 3, 13), (13, .iconst 0, 1, 14), (14, .ireturn, 1, 15)]
theorem dtX6_isBit_0 : dtOK cX6_isBit tbX6_isBit_0 = true := by decide +kernel
def tbX6_commonDivisor_0 : List (Nat × Instr × Nat × Nat) := [(0, .iload_n 0, 1, 1), (1, .istore_n 2, 1, 2), (2, .iload_n 1, 1, 3), (3, .istore_n 3, 1, 4), (4, .iconst 0, 1, 5), (5, .istore 4, 2, 7), (7, .iload 4, 2, 9), (9, .bipush 64, 2, 11), (11, .if_icmp .ge 23, 3, 14), (14, .iload_n 3, 1, 15), (15, .ifCond .eq 19, 3, 18), (18, .iload_n 2, 1, 19), (19, .iload_n 3, 1, 20), (20, .irem, 1, 21), (21, .istore 5, 2, 23), (23, .iload_n 3, 1, 24), (24, .istore_n 2, 1, 25), (25, .iload 5, 2, 27), (27, .istore_n 3, 1, 28), (28, .iinc 4 1, 3, 31), (31, .goto (-24), 3, 34), (34, .iload_n 2, 1, 35), (35, .ireturn, 1, 36)]
theorem dtX6_commonDivisor_0 : dtOK cX6_commonDivisor tbX6_commonDivisor_0 = true := by decide +kernel
def tbX6_asOne_0 : List (Nat × Instr × Nat × Nat) := [(0, .aload_n 0, 1, 1), (1, .dup, 1, 2), (2, .getfield 59, 3, 5), (5, .lconst 1, 1, 6), (6, .ladd, 1, 7), (7, .putfield 59, 3, 10), (10, .aload_n 0, 1, 11), (11, .getfield 19, 3, 14), (14, .getfield 98, 3, 17), (17, .iload_n 1, 1, 18), (18, .iaload, 1, 19), (19, .ireturn, 1, 20)]
theorem dtX6_asOne_0 : dtOK cX6_asOne tbX6_asOne_0 = true := by decide +kernel
def tbX6_asGirl_0 : List (Nat × Instr × Nat × Nat) := [(0, .aload_n 0, 1, 1), (1, .dup, 1, 2), (2, .getfield 59, 3, 5), (5, .ldc2_w 231, 3, 8), (8, .ladd, 1, 9), (9, .putfield 59, 3, 12), (12, .aload_n 0, 1, 13), (13, .iload_n 1, 1, 14), (14, .invokevirtual 203, 3, 17), (17, .aload_n 0, 1, 18), (18, .getfield 26, 3, 21), (21, .getfield 104, 3, 24), (24, .iload_n 1, 1, 25), (25, .iaload, 1, 26), (26, .iadd, 1, 27), (27, .ireturn, 1, 28)]
theorem dtX6_asGirl_0 : dtOK cX6_asGirl tbX6_asGirl_0 = true := by decide +kernel
def tbX6_asCool_0 : List (Nat × Instr × Nat × Nat) := [(0, .aload_n 0, 1, 1), (1, .dup, 1, 2), (2, .getfield 59, 3, 5), (5, .ldc2_w 233, 3, 8), (8, .ladd, 1, 9), (9, .putfield 59, 3, 12), (12, .aload_n 0, 1, 13), (13, .iload_n 1, 1, 14), (14, .invokevirtual 203, 3, 17), (17, .aload_n 0, 1, 18), (18, .getfield 26, 3, 21), (21, .getfield 107, 3, 24), (24, .iload_n 1, 1, 25), (25, .iaload, 1, 26), (26, .isub, 1, 27), (27, .ireturn, 1, 28)]
theorem dtX6_asCool_0 : dtOK cX6_asCool tbX6_asCool_0 = true := by decide +kernel
def tbX6_asChild_0 : List (Nat × Instr × Nat × Nat) := [(0, .aload_n 0, 1, 1), (1, .dup, 1, 2), (2, .getfield 59, 3, 5), (5, .ldc2_w 235, 3, 8), (8, .ladd, 1, 9), (9, .putfield 59, 3, 12), (12, .iconst 2, 1, 13), (13, .aload_n 0, 1, 14), (14, .iload_n 1, 1, 15), (15, .invokevirtual 207, 3, 18), (18, .imul, 1, 19), (19, .ireturn, 1, 20)]
theorem dtX6_asChild_0 : dtOK cX6_asChild tbX6_asChild_0 = true := by decide +kernel
def tbX6_asSage_0 : List (Nat × Instr × Nat × Nat) := [(0, .aload_n 0, 1, 1), (1, .dup, 1, 2), (2, .getfield 59, 3, 5), (5, .ldc2_w 237, 3, 8), (8, .ladd, 1, 9), (9, .putfield 59, 3, 12), (12, .aload_n 0, 1, 13), (13, .iload_n 1, 1, 14), (14, .invokevirtual 210, 3, 17), (17, .iload_n 1, 1, 18), (18, .iadd, 1, 19), (19, .ireturn, 1, 20)]
theorem dtX6_asSage_0 : dtOK cX6_asSage tbX6_asSage_0 = true := by decide +kernel
def tbX6_asTwin_0 : List (Nat × Instr × Nat × Nat) := [(0, .aload_n 0, 1, 1), (1, .dup, 1, 2), (2, .getfield 59, 3, 5), (5, .ldc2_w 239, 3, 8), (8, .ladd, 1, 9), (9, .putfield 59, 3, 12), (12, .aload_n 0, 1, 13), (13, .iload_n 1, 1, 14), (14, .invokevirtual 203, 3, 17), (17, .aload_n 0, 1, 18), (18, .getfield 26, 3, 21), (21, .getfield 101, 3, 24), (24, .iload_n 1, 1, 25), (25, .iaload, 1, 26), (26, .iadd, 1, 27), (27, .ireturn, 1, 28)]
theorem dtX6_asTwin_0 : dtOK cX6_asTwin tbX6_asTwin_0 = true := by decide +kernel
def tbX7_init_0 : List (Nat × Instr × Nat × Nat) := [(0, .aload_n 0, 1, 1), (1, .invokespecial 1, 3, 4), (4, .aload_n 0, 1, 5), (5, .sipush 150, 3, 8), (8, .newarray .int, 2, 10), (10, .putfield 7, 3, 13), (13, .aload_n 0, 1, 14), (14, .bipush 6, 2, 16), (16, .newarray .int, 2, 18), (18, .putfield 13, 3, 21), (21, .aload_n 0, 1, 22), (22, .bipush 10, 2, 24), (24, .newarray .int, 2, 26), (26, .putfield 16, 3, 29), (29, .aload_n 0, 1, 30), (30, .bipush 31, 2, 32), (32, .newarray .int, 2, 34), (34, .putfield 19, 3, 37), (37, .aload_n 0, 1, 38), (38, .bipush 31, 2, 40), (40, .newarray .int, 2, 42), (42, .putfield 22, 3, 45), (45, .aload_n 0, 1, 46), (46, .bipush 31, 2, 48), (48, .newarray .int, 2, 50), (50, .putfield 25, 3, 53), (53, .aload_n 0, 1, 54), (54, .bipush 62, 2, 56), (56, .newarray .int, 2, 58), (58, .putfield 28, 3, 61), (61, .aload_n 0, 1, 62), (62, .iconst 2, 1, 63), (63, .newarray .boolean, 2, 65), (65, .putfield 31, 3, 68), (68, .aload_n 0, 1, 69), (69, .sipush 310, 3, 72), (72, .newarray .int, 2, 74), (74, .putfield 35, 3, 77), (77, .aload_n 0, 1, 78), (78, .bipush 6, 2, 80), (80, .newarray .int, 2, 82), (82, .putfield 38, 3, 85), (85, .aload_n 0, 1, 86), (86, .bipush 6, 2, 88), (88, .newarray .int, 2, 90), (90, .putfield 41, 3, 93), (93, .aload_n 0, 1, 94), (94, .bipush 6, 2, 96), (96, .newarray .int, 2, 98), (98, .putfield 44, 3, 101), (101, .aload_n 0, 1, 102), (102, .sipush 4096, 3, 105), (105, .newarray .int, 2, 107), (107, .putfield 47, 3, 110), (110, .aload_n 0, 1, 111), (111, .invokevirtual 50, 3, 114), (114, .aload_n 0, 1, 115), (115, .invokevirtual 53, 3, 118), (118, .return_, 1, 119)]
theorem dtX7_init_0 : dtOK cX7_init tbX7_init_0 = true := by decide +kernel
def tbX7_in_0 : List (Nat × Instr × Nat × Nat) := [(0, .iload_n 0, 1, 1), (1, .iload_n 1, 1, 2), (2, .if_icmp .lt 12, 3, 5), (5, .iload_n 0, 1, 6), (6, .iload_n 2, 1, 7), (7, .if_icmp .gt 7, 3, 10), (10, .iconst 1, 1, 11), (11, .goto 4, 3, 14), (14, .iconst 0, 1, 15), (15, .ireturn, 1, 16)]
theorem dtX7_in_0 : dtOK cX7_in tbX7_in_0 = true := by decide +kernel
def tbX7_type_0 : List (Nat × Instr × Nat × Nat) := [(0, .aload_n 0, 1, 1), (1, .iconst 0, 1, 2), (2, .putfield 56, 3, 5), (5, .iload_n 1, 1, 6), (6, .iconst 0, 1, 7), (7, .sipush 255, 3, 10), (10, .invokestatic 60, 3, 13), (13, .ifCond .ne 5, 3, 16), (16, .iconst (-1), 1, 17), (17, .ireturn, 1, 18), (18, .aload_n 0, 1, 19), (19, .getfield 64, 3, 22), (22, .sipush 150, 3, 25), (25, .if_icmp .ne 6, 3, 28), (28, .bipush (-3), 2, 30), (30, .ireturn, 1, 31), (31, .aload_n 0, 1, 32), (32, .getfield 7, 3, 35), (35, .aload_n 0, 1, 36), (36, .getfield 64, 3, 39), (39, .iload_n 1, 1, 40), (40, .iastore, 1, 41), (41, .aload_n 0, 1, 42), (42, .dup, 1, 43), (43, .getfield 64, 3, 46), (46, .iconst 1, 1, 47), (47, .iadd, 1, 48), (48, .putfield 64, 3, 51), (51, .aload_n 0, 1, 52), (52, .getfield 64, 3, 55), (55, .ireturn, 1, 56)]
theorem dtX7_type_0 : dtOK cX7_type tbX7_type_0 = true := by decide +kernel
def tbX7_clear_0 : List (Nat × Instr × Nat × Nat) := [(0, .aload_n 0, 1, 1), (1, .iconst 0, 1, 2), (2, .putfield 56, 3, 5), (5, .aload_n 0, 1, 6), (6, .getfield 64, 3, 9), (9, .istore_n 1, 1, 10), (10, .aload_n 0, 1, 11), (11, .iconst 0, 1, 12), (12, .putfield 64, 3, 15), (15, .iload_n 1, 1, 16), (16, .ireturn, 1, 17)]
theorem dtX7_clear_0 : dtOK cX7_clear tbX7_clear_0 = true := by decide +kernel
def tbX7_letterAt_0 : List (Nat × Instr × Nat × Nat) := [(0, .iload_n 1, 1, 1), (1, .aload_n 0, 1, 2), (2, .getfield 64, 3, 5), (5, .if_icmp .ge 12, 3, 8), (8, .aload_n 0, 1, 9), (9, .getfield 7, 3, 12), (12, .iload_n 1, 1, 13), (13, .iaload, 1, 14), (14, .goto 4, 3, 17), (17, .iconst (-1), 1, 18), (18, .ireturn, 1, 19)]
theorem dtX7_letterAt_0 : dtOK cX7_letterAt tbX7_letterAt_0 = true := by decide +kernel
def tbX7_isLetter_0 : List (Nat × Instr × Nat × Nat) := [(0, .iload_n 0, 1, 1), (1, .bipush 107, 2, 3), (3, .if_icmp .eq 15, 3, 6), (6, .iload_n 0, 1, 7), (7, .bipush 120, 2, 9), (9, .if_icmp .eq 9, 3, 12), (12, .iload_n 0, 1, 13), (13, .bipush 112, 2, 15), (15, .if_icmp .ne 7, 3, 18), (18, .iconst 1, 1, 19), (19, .goto 4, 3, 22), (22, .iconst 0, 1, 23), (23, .ireturn, 1, 24)]
theorem dtX7_isLetter_0 : dtOK cX7_isLetter tbX7_isLetter_0 = true := by decide +kernel
def tbX7_advances_0 : List (Nat × Instr × Nat × Nat) := [(0, .aload_n 0, 1, 1), (1, .aload_n 0, 1, 2), (2, .getfield 67, 3, 5), (5, .invokevirtual 70, 3, 8), (8, .bipush 32, 2, 10), (10, .if_icmp .ne 16, 3, 13), (13, .aload_n 0, 1, 14), (14, .dup, 1, 15), (15, .getfield 67, 3, 18), (18, .iconst 1, 1, 19), (19, .iadd, 1, 20), (20, .putfield 67, 3, 23), (23, .goto (-23), 3, 26), (26, .aload_n 0, 1, 27), (27, .aload_n 0, 1, 28), (28, .getfield 67, 3, 31), (31, .putfield 74, 3, 34), (34, .aload_n 0, 1, 35), (35, .aload_n 0, 1, 36), (36, .getfield 67, 3, 39), (39, .invokevirtual 70, 3, 42), (42, .istore_n 1, 1, 43), (43, .iload_n 1, 1, 44), (44, .ifCond .ge 11, 3, 47), (47, .aload_n 0, 1, 48), (48, .iconst 0, 1, 49), (49, .putfield 77, 3, 52), (52, .goto 170, 3, 55), (55, .iload_n 1, 1, 56), (56, .bipush 48, 2, 58), (58, .bipush 57, 2, 60), (60, .invokestatic 60, 3, 63), (63, .ifCond .eq 118, 3, 66), (66, .aload_n 0, 1, 67), (67, .iconst 0, 1, 68), (68, .putfield 80, 3, 71), (71, .aload_n 0, 1, 72), (72, .aload_n 0, 1, 73), (73, .getfield 67, 3, 76), (76, .invokevirtual 70, 3, 79), (79, .bipush 48, 2, 81), (81, .bipush 57, 2, 83), (83, .invokestatic 60, 3, 86), (86, .ifCond .eq 55, 3, 89), (89, .aload_n 0, 1, 90), (90, .aload_n 0, 1, 91), (91, .getfield 80, 3, 94), (94, .bipush 99, 2, 96), (96, .if_icmp .le 10, 3, 99), (99, .aload_n 0, 1, 100), (100, .getfield 80, 3, 103), (103, .goto 22, 3, 106), (106, .bipush 10, 2, 108), (108, .aload_n 0, 1, 109), (109, .getfield 80, 3, 112), (112, .imul, 1, 113), (113, .aload_n 0, 1, 114), (114, .aload_n 0, 1, 115), (115, .getfield 67, 3, 118), (118, .invokevirtual 70, 3, 121)]
theorem dtX7_advances_0 : dtOK cX7_advances tbX7_advances_0 = true := by decide +kernel
def tbX7_advances_1 : List (Nat × Instr × Nat × Nat) := [(121, .iadd, 1, 122), (122, .bipush 48, 2, 124), (124, .isub, 1, 125), (125, .putfield 80, 3, 128), (128, .aload_n 0, 1, 129), (129, .dup, 1, 130), (130, .getfield 67, 3, 133), (133, .iconst 1, 1, 134), (134, .iadd, 1, 135), (135, .putfield 67, 3, 138), (138, .goto (-67), 3, 141), (141, .aload_n 0, 1, 142), (142, .aload_n 0, 1, 143), (143, .getfield 80, 3, 146), (146, .bipush 99, 2, 148), (148, .if_icmp .gt 22, 3, 151), (151, .iload_n 1, 1, 152), (152, .bipush 48, 2, 154), (154, .if_icmp .ne 20, 3, 157), (157, .aload_n 0, 1, 158), (158, .getfield 67, 3, 161), (161, .aload_n 0, 1, 162), (162, .getfield 74, 3, 165), (165, .isub, 1, 166), (166, .iconst 1, 1, 167), (167, .if_icmp .le 7, 3, 170), (170, .iconst 4, 1, 171), (171, .goto 4, 3, 174), (174, .iconst 2, 1, 175), (175, .putfield 77, 3, 178), (178, .goto 44, 3, 181), (181, .aload_n 0, 1, 182), (182, .dup, 1, 183), (183, .getfield 67, 3, 186), (186, .iconst 1, 1, 187), (187, .iadd, 1, 188), (188, .putfield 67, 3, 191), (191, .aload_n 0, 1, 192), (192, .iload_n 1, 1, 193), (193, .putfield 80, 3, 196), (196, .aload_n 0, 1, 197), (197, .iload_n 1, 1, 198), (198, .bipush 59, 2, 200), (200, .if_icmp .ne 7, 3, 203), (203, .iconst 3, 1, 204), (204, .goto 15, 3, 207), (207, .iload_n 1, 1, 208), (208, .invokestatic 83, 3, 211), (211, .ifCond .eq 7, 3, 214), (214, .iconst 1, 1, 215), (215, .goto 4, 3, 218), (218, .iconst 4, 1, 219), (219, .putfield 77, 3, 222), (222, .return_, 1, 223)]
theorem dtX7_advances_1 : dtOK cX7_advances tbX7_advances_1 = true := by decide +kernel
def tbX7_isWell_0 : List (Nat × Instr × Nat × Nat) := [(0, .aload_n 0, 1, 1), (1, .getfield 87, 3, 4), (4, .ifCond .ge 7, 3, 7), (7, .iconst 1, 1, 8), (8, .goto 4, 3, 11), (11, .iconst 0, 1, 12), (12, .ireturn, 1, 13)]
theorem dtX7_isWell_0 : dtOK cX7_isWell tbX7_isWell_0 = true := by decide +kernel
def tbX7_takes_0 : List (Nat × Instr × Nat × Nat) := [(0, .aload_n 0, 1, 1), (1, .invokevirtual 90, 3, 4), (4, .ifCond .ne 5, 3, 7), (7, .iconst 0, 1, 8), (8, .ireturn, 1, 9), (9, .iload_n 1, 1, 10), (10, .ifCond .ne 13, 3, 13), (13, .aload_n 0, 1, 14), (14, .aload_n 0, 1, 15), (15, .getfield 74, 3, 18), (18, .putfield 87, 3, 21), (21, .iconst 0, 1, 22), (22, .ireturn, 1, 23), (23, .aload_n 0, 1, 24), (24, .getfield 80, 3, 27), (27, .istore_n 2, 1, 28), (28, .aload_n 0, 1, 29), (29, .invokevirtual 94, 3, 32), (32, .iload_n 2, 1, 33), (33, .ireturn, 1, 34)]
theorem dtX7_takes_0 : dtOK cX7_takes tbX7_takes_0 = true := by decide +kernel
def tbX7_number_0 : List (Nat × Instr × Nat × Nat) := [(0, .aload_n 0, 1, 1), (1, .aload_n 0, 1, 2), (2, .getfield 77, 3, 5), (5, .iconst 2, 1, 6), (6, .if_icmp .ne 19, 3, 9), (9, .aload_n 0, 1, 10), (10, .getfield 80, 3, 13), (13, .iload_n 1, 1, 14), (14, .iload_n 2, 1, 15), (15, .invokestatic 60, 3, 18), (18, .ifCond .eq 7, 3, 21), (21, .iconst 1, 1, 22), (22, .goto 4, 3, 25), (25, .iconst 0, 1, 26), (26, .invokevirtual 97, 3, 29), (29, .ireturn, 1, 30)]
theorem dtX7_number_0 : dtOK cX7_number tbX7_number_0 = true := by decide +kernel
def tbX7_begins_0 : List (Nat × Instr × Nat × Nat) := [(0, .aload_n 0, 1, 1), (1, .iconst 0, 1, 2), (2, .putfield 101, 3, 5), (5, .aload_n 0, 1, 6), (6, .getfield 13, 3, 9), (9, .iconst 3, 1, 10), (10, .iconst 3, 1, 11), (11, .iastore, 1, 12), (12, .aload_n 0, 1, 13), (13, .getfield 13, 3, 16), (16, .iconst 4, 1, 17), (17, .iconst 2, 1, 18), (18, .iastore, 1, 19), (19, .aload_n 0, 1, 20), (20, .getfield 13, 3, 23), (23, .iconst 5, 1, 24), (24, .iconst 0, 1, 25), (25, .iastore, 1, 26), (26, .iconst 0, 1, 27), (27, .istore_n 1, 1, 28), (28, .iload_n 1, 1, 29), (29, .bipush 31, 2, 31), (31, .if_icmp .ge 16, 3, 34), (34, .aload_n 0, 1, 35), (35, .getfield 19, 3, 38), (38, .iload_n 1, 1, 39), (39, .iconst 0, 1, 40), (40, .iastore, 1, 41), (41, .iinc 1 1, 3, 44), (44, .goto (-16), 3, 47), (47, .return_, 1, 48)]
theorem dtX7_begins_0 : dtOK cX7_begins tbX7_begins_0 = true := by decide +kernel
def tbX7_mayBegin_0 : List (Nat × Instr × Nat × Nat) := [(0, .aload_n 0, 1, 1), (1, .getfield 13, 3, 4), (4, .iconst 5, 1, 5), (5, .iaload, 1, 6), (6, .istore_n 1, 1, 7), (7, .aload_n 0, 1, 8), (8, .getfield 80, 3, 11), (11, .bipush 112, 2, 13), (13, .if_icmp .ne 16, 3, 16), (16, .iload_n 1, 1, 17), (17, .iconst 5, 1, 18), (18, .if_icmp .ge 7, 3, 21), (21, .iconst 1, 1, 22), (22, .goto 38, 3, 25), (25, .iconst 0, 1, 26), (26, .goto 34, 3, 29), (29, .iload_n 1, 1, 30), (30, .ifCond .ne 29, 3, 33), (33, .aload_n 0, 1, 34), (34, .getfield 101, 3, 37), (37, .aload_n 0, 1, 38), (38, .getfield 80, 3, 41), (41, .bipush 107, 2, 43), (43, .if_icmp .ne 7, 3, 46), (46, .iconst 1, 1, 47), (47, .goto 4, 3, 50), (50, .iconst 2, 1, 51), (51, .iand, 1, 52), (52, .ifCond .ne 7, 3, 55), (55, .iconst 1, 1, 56), (56, .goto 4, 3, 59), (59, .iconst 0, 1, 60), (60, .ireturn, 1, 61)]
theorem dtX7_mayBegin_0 : dtOK cX7_mayBegin tbX7_mayBegin_0 = true := by decide +kernel
def tbX7_readsItem_0 : List (Nat × Instr × Nat × Nat) := [(0, .iload_n 1, 1, 1), (1, .bipush 112, 2, 3), (3, .if_icmp .ne 96, 3, 6), (6, .aload_n 0, 1, 7), (7, .getfield 13, 3, 10), (10, .iconst 5, 1, 11), (11, .iaload, 1, 12), (12, .istore_n 2, 1, 13), (13, .aload_n 0, 1, 14), (14, .getfield 16, 3, 17), (17, .iconst 5, 1, 18), (18, .iload_n 2, 1, 19), (19, .iadd, 1, 20), (20, .aload_n 0, 1, 21), (21, .iconst 0, 1, 22), (22, .bipush 99, 2, 24), (24, .invokevirtual 104, 3, 27), (27, .iastore, 1, 28), (28, .aload_n 0, 1, 29), (29, .getfield 19, 3, 32), (32, .iconst 0, 1, 33), (33, .iload_n 2, 1, 34), (34, .iadd, 1, 35), (35, .aload_n 0, 1, 36), (36, .iconst 0, 1, 37), (37, .aload_n 0, 1, 38), (38, .getfield 13, 3, 41), (41, .iconst 4, 1, 42), (42, .iaload, 1, 43), (43, .iconst 1, 1, 44), (44, .isub, 1, 45), (45, .invokevirtual 104, 3, 48), (48, .iastore, 1, 49), (49, .iconst 0, 1, 50), (50, .istore_n 3, 1, 51), (51, .iload_n 3, 1, 52), (52, .aload_n 0, 1, 53), (53, .getfield 13, 3, 56), (56, .iconst 3, 1, 57), (57, .iaload, 1, 58), (58, .if_icmp .ge 28, 3, 61), (61, .aload_n 0, 1, 62), (62, .getfield 19, 3, 65), (65, .iconst 5, 1, 66), (66, .iconst 4, 1, 67), (67, .iload_n 2, 1, 68), (68, .imul, 1, 69), (69, .iadd, 1, 70), (70, .iload_n 3, 1, 71), (71, .iadd, 1, 72), (72, .aload_n 0, 1, 73), (73, .iconst 0, 1, 74), (74, .bipush 9, 2, 76), (76, .invokevirtual 104, 3, 79), (79, .iastore, 1, 80), (80, .iinc 3 1, 3, 83), (83, .goto (-32), 3, 86), (86, .aload_n 0, 1, 87), (87, .getfield 13, 3, 90), (90, .iconst 5, 1, 91)]
theorem dtX7_readsItem_0 : dtOK cX7_readsItem tbX7_readsItem_0 = true := by decide +kernel
def tbX7_readsItem_1 : List (Nat × Instr × Nat × Nat) := [(91, .dup2, 1, 92), (92, .iaload, 1, 93), (93, .iconst 1, 1, 94), (94, .iadd, 1, 95), (95, .iastore, 1, 96), (96, .goto 47, 3, 99), (99, .aload_n 0, 1, 100), (100, .getfield 13, 3, 103), (103, .iconst 3, 1, 104), (104, .iload_n 1, 1, 105), (105, .bipush 107, 2, 107), (107, .if_icmp .ne 7, 3, 110), (110, .iconst 0, 1, 111), (111, .goto 4, 3, 114), (114, .iconst 1, 1, 115), (115, .iadd, 1, 116), (116, .aload_n 0, 1, 117), (117, .iconst 1, 1, 118), (118, .iconst 4, 1, 119), (119, .invokevirtual 104, 3, 122), (122, .iastore, 1, 123), (123, .aload_n 0, 1, 124), (124, .dup, 1, 125), (125, .getfield 101, 3, 128), (128, .iload_n 1, 1, 129), (129, .bipush 107, 2, 131), (131, .if_icmp .ne 7, 3, 134), (134, .iconst 1, 1, 135), (135, .goto 4, 3, 138), (138, .iconst 2, 1, 139), (139, .ior, 1, 140), (140, .putfield 101, 3, 143), (143, .return_, 1, 144)]
theorem dtX7_readsItem_1 : dtOK cX7_readsItem tbX7_readsItem_1 = true := by decide +kernel
def tbX7_town_0 : List (Nat × Instr × Nat × Nat) := [(0, .aload_n 0, 1, 1), (1, .iconst 0, 1, 2), (2, .putfield 56, 3, 5), (5, .aload_n 0, 1, 6), (6, .iconst (-1), 1, 7), (7, .putfield 87, 3, 10), (10, .aload_n 0, 1, 11), (11, .iconst 0, 1, 12), (12, .putfield 67, 3, 15), (15, .aload_n 0, 1, 16), (16, .invokevirtual 50, 3, 19), (19, .iconst 0, 1, 20), (20, .istore_n 1, 1, 21), (21, .aload_n 0, 1, 22), (22, .invokevirtual 94, 3, 25), (25, .aload_n 0, 1, 26), (26, .invokevirtual 90, 3, 29), (29, .ifCond .eq 71, 3, 32), (32, .aload_n 0, 1, 33), (33, .getfield 77, 3, 36), (36, .ifCond .eq 64, 3, 39), (39, .aload_n 0, 1, 40), (40, .aload_n 0, 1, 41), (41, .getfield 77, 3, 44), (44, .iconst 1, 1, 45), (45, .if_icmp .ne 14, 3, 48), (48, .aload_n 0, 1, 49), (49, .invokevirtual 108, 3, 52), (52, .ifCond .eq 7, 3, 55), (55, .iconst 1, 1, 56), (56, .goto 4, 3, 59), (59, .iconst 0, 1, 60), (60, .invokevirtual 97, 3, 63), (63, .istore_n 2, 1, 64), (64, .aload_n 0, 1, 65), (65, .invokevirtual 90, 3, 68), (68, .ifCond .eq 8, 3, 71), (71, .aload_n 0, 1, 72), (72, .iload_n 2, 1, 73), (73, .invokevirtual 111, 3, 76), (76, .aload_n 0, 1, 77), (77, .aload_n 0, 1, 78), (78, .getfield 77, 3, 81), (81, .iconst 3, 1, 82), (82, .if_icmp .ne 7, 3, 85), (85, .iconst 1, 1, 86), (86, .goto 4, 3, 89), (89, .iconst 0, 1, 90), (90, .invokevirtual 97, 3, 93), (93, .pop, 1, 94), (94, .iinc 1 1, 3, 97), (97, .goto (-72), 3, 100), (100, .aload_n 0, 1, 101), (101, .invokevirtual 90, 3, 104), (104, .ifCond .ne 11, 3, 107), (107, .bipush (-10), 2, 109), (109, .aload_n 0, 1, 110), (110, .getfield 87, 3, 113), (113, .isub, 1, 114), (114, .ireturn, 1, 115)]
theorem dtX7_town_0 : dtOK cX7_town tbX7_town_0 = true := by decide +kernel
def tbX7_town_1 : List (Nat × Instr × Nat × Nat) := [(115, .aload_n 0, 1, 116), (116, .invokevirtual 53, 3, 119), (119, .iload_n 1, 1, 120), (120, .ireturn, 1, 121)]
theorem dtX7_town_1 : dtOK cX7_town tbX7_town_1 = true := by decide +kernel
def tbX7_settles_0 : List (Nat × Instr × Nat × Nat) := [(0, .iconst 0, 1, 1), (1, .istore_n 1, 1, 2), (2, .iload_n 1, 1, 3), (3, .iconst 3, 1, 4), (4, .if_icmp .ge 23, 3, 7), (7, .aload_n 0, 1, 8), (8, .getfield 13, 3, 11), (11, .iload_n 1, 1, 12), (12, .aload_n 0, 1, 13), (13, .getfield 13, 3, 16), (16, .iconst 3, 1, 17), (17, .iload_n 1, 1, 18), (18, .iadd, 1, 19), (19, .iaload, 1, 20), (20, .iastore, 1, 21), (21, .iinc 1 1, 3, 24), (24, .goto (-22), 3, 27), (27, .iconst 0, 1, 28), (28, .istore_n 1, 1, 29), (29, .iload_n 1, 1, 30), (30, .iconst 5, 1, 31), (31, .if_icmp .ge 23, 3, 34), (34, .aload_n 0, 1, 35), (35, .getfield 16, 3, 38), (38, .iload_n 1, 1, 39), (39, .aload_n 0, 1, 40), (40, .getfield 16, 3, 43), (43, .iconst 5, 1, 44), (44, .iload_n 1, 1, 45), (45, .iadd, 1, 46), (46, .iaload, 1, 47), (47, .iastore, 1, 48), (48, .iinc 1 1, 3, 51), (51, .goto (-22), 3, 54), (54, .aload_n 0, 1, 55), (55, .getfield 19, 3, 58), (58, .aload_n 0, 1, 59), (59, .getfield 22, 3, 62), (62, .invokestatic 115, 3, 65), (65, .aload_n 0, 1, 66), (66, .iconst 0, 1, 67), (67, .putfield 64, 3, 70), (70, .aload_n 0, 1, 71), (71, .iconst 0, 1, 72), (72, .putfield 119, 3, 75), (75, .aload_n 0, 1, 76), (76, .iconst 0, 1, 77), (77, .putfield 122, 3, 80), (80, .aload_n 0, 1, 81), (81, .getfield 31, 3, 84), (84, .iconst 0, 1, 85), (85, .iconst 0, 1, 86), (86, .bastore, 1, 87), (87, .aload_n 0, 1, 88), (88, .getfield 31, 3, 91), (91, .iconst 1, 1, 92), (92, .iconst 0, 1, 93), (93, .bastore, 1, 94), (94, .return_, 1, 95)]
theorem dtX7_settles_0 : dtOK cX7_settles tbX7_settles_0 = true := by decide +kernel
def tbX7_copies_0 : List (Nat × Instr × Nat × Nat) := [(0, .iconst 0, 1, 1), (1, .istore_n 2, 1, 2), (2, .iload_n 2, 1, 3), (3, .bipush 31, 2, 5), (5, .if_icmp .ge 15, 3, 8), (8, .aload_n 1, 1, 9), (9, .iload_n 2, 1, 10), (10, .aload_n 0, 1, 11), (11, .iload_n 2, 1, 12), (12, .iaload, 1, 13), (13, .iastore, 1, 14), (14, .iinc 2 1, 3, 17), (17, .goto (-15), 3, 20), (20, .return_, 1, 21)]
theorem dtX7_copies_0 : dtOK cX7_copies tbX7_copies_0 = true := by decide +kernel
def tbX7_isOne_0 : List (Nat × Instr × Nat × Nat) := [(0, .iload_n 1, 1, 1), (1, .iconst 0, 1, 2), (2, .aload_n 0, 1, 3), (3, .getfield 13, 3, 6), (6, .iconst 2, 1, 7), (7, .iaload, 1, 8), (8, .iconst 1, 1, 9), (9, .isub, 1, 10), (10, .invokestatic 60, 3, 13), (13, .ireturn, 1, 14)]
theorem dtX7_isOne_0 : dtOK cX7_isOne tbX7_isOne_0 = true := by decide +kernel
def tbX7_isKind_0 : List (Nat × Instr × Nat × Nat) := [(0, .iload_n 1, 1, 1), (1, .iconst 0, 1, 2), (2, .aload_n 0, 1, 3), (3, .getfield 13, 3, 6), (6, .iconst 0, 1, 7), (7, .iaload, 1, 8), (8, .iconst 1, 1, 9), (9, .isub, 1, 10), (10, .invokestatic 60, 3, 13), (13, .ireturn, 1, 14)]
theorem dtX7_isKind_0 : dtOK cX7_isKind tbX7_isKind_0 = true := by decide +kernel
def tbX7_isPlace_0 : List (Nat × Instr × Nat × Nat) := [(0, .iload_n 1, 1, 1), (1, .iconst 0, 1, 2), (2, .aload_n 0, 1, 3), (3, .getfield 13, 3, 6), (6, .iconst 1, 1, 7), (7, .iaload, 1, 8), (8, .iconst 1, 1, 9), (9, .isub, 1, 10), (10, .invokestatic 60, 3, 13), (13, .ireturn, 1, 14)]
theorem dtX7_isPlace_0 : dtOK cX7_isPlace tbX7_isPlace_0 = true := by decide +kernel
def tbX7_allSeen_0 : List (Nat × Instr × Nat × Nat) := [(0, .iconst 0, 1, 1), (1, .istore_n 3, 1, 2), (2, .iconst 0, 1, 3), (3, .istore 4, 2, 5), (5, .iload 4, 2, 7), (7, .iconst 4, 1, 8), (8, .if_icmp .ge 22, 3, 11), (11, .iload_n 3, 1, 12), (12, .aload_n 1, 1, 13), (13, .iconst 5, 1, 14), (14, .iconst 4, 1, 15), (15, .iload_n 2, 1, 16), (16, .imul, 1, 17), (17, .iadd, 1, 18), (18, .iload 4, 2, 20), (20, .iadd, 1, 21), (21, .iaload, 1, 22), (22, .iadd, 1, 23), (23, .istore_n 3, 1, 24), (24, .iinc 4 1, 3, 27), (27, .goto (-22), 3, 30), (30, .iload_n 3, 1, 31), (31, .ireturn, 1, 32)]
theorem dtX7_allSeen_0 : dtOK cX7_allSeen tbX7_allSeen_0 = true := by decide +kernel
def tbX7_surpriseOf_0 : List (Nat × Instr × Nat × Nat) := [(0, .bipush 100, 2, 2), (2, .bipush 100, 2, 4), (4, .aload_n 1, 1, 5), (5, .iconst 5, 1, 6), (6, .iconst 4, 1, 7), (7, .iload_n 2, 1, 8), (8, .imul, 1, 9), (9, .iadd, 1, 10), (10, .iload_n 3, 1, 11), (11, .iadd, 1, 12), (12, .iaload, 1, 13), (13, .iconst 1, 1, 14), (14, .iadd, 1, 15), (15, .imul, 1, 16), (16, .aload_n 0, 1, 17), (17, .aload_n 1, 1, 18), (18, .iload_n 2, 1, 19), (19, .invokevirtual 125, 3, 22), (22, .aload_n 0, 1, 23), (23, .getfield 13, 3, 26), (26, .iconst 0, 1, 27), (27, .iaload, 1, 28), (28, .iadd, 1, 29), (29, .idiv, 1, 30), (30, .isub, 1, 31), (31, .ireturn, 1, 32)]
theorem dtX7_surpriseOf_0 : dtOK cX7_surpriseOf tbX7_surpriseOf_0 = true := by decide +kernel
def tbX7_person_0 : List (Nat × Instr × Nat × Nat) := [(0, .aload_n 0, 1, 1), (1, .iconst 0, 1, 2), (2, .putfield 56, 3, 5), (5, .aload_n 0, 1, 6), (6, .iload_n 1, 1, 7), (7, .invokevirtual 129, 3, 10), (10, .ifCond .eq 12, 3, 13), (13, .iload_n 2, 1, 14), (14, .iconst 0, 1, 15), (15, .iconst 3, 1, 16), (16, .invokestatic 60, 3, 19), (19, .ifCond .ne 5, 3, 22), (22, .iconst (-1), 1, 23), (23, .ireturn, 1, 24), (24, .iload_n 2, 1, 25), (25, .ifCond .ne 12, 3, 28), (28, .aload_n 0, 1, 29), (29, .getfield 16, 3, 32), (32, .iload_n 1, 1, 33), (33, .iaload, 1, 34), (34, .goto 45, 3, 37), (37, .iload_n 2, 1, 38), (38, .iconst 1, 1, 39), (39, .if_icmp .ne 14, 3, 42), (42, .aload_n 0, 1, 43), (43, .getfield 22, 3, 46), (46, .iconst 0, 1, 47), (47, .iload_n 1, 1, 48), (48, .iadd, 1, 49), (49, .iaload, 1, 50), (50, .goto 29, 3, 53), (53, .iload_n 2, 1, 54), (54, .iconst 2, 1, 55), (55, .if_icmp .ne 15, 3, 58), (58, .aload_n 0, 1, 59), (59, .getfield 22, 3, 62), (62, .bipush 25, 2, 64), (64, .iload_n 1, 1, 65), (65, .iadd, 1, 66), (66, .iaload, 1, 67), (67, .goto 12, 3, 70), (70, .aload_n 0, 1, 71), (71, .aload_n 0, 1, 72), (72, .getfield 22, 3, 75), (75, .iload_n 1, 1, 76), (76, .invokevirtual 125, 3, 79), (79, .ireturn, 1, 80)]
theorem dtX7_person_0 : dtOK cX7_person tbX7_person_0 = true := by decide +kernel
def tbX7_seen_0 : List (Nat × Instr × Nat × Nat) := [(0, .aload_n 0, 1, 1), (1, .iconst 0, 1, 2), (2, .putfield 56, 3, 5), (5, .aload_n 0, 1, 6), (6, .iload_n 1, 1, 7), (7, .invokevirtual 129, 3, 10), (10, .ifCond .eq 26, 3, 13), (13, .aload_n 0, 1, 14), (14, .iload_n 2, 1, 15), (15, .invokevirtual 132, 3, 18), (18, .ifCond .eq 18, 3, 21), (21, .aload_n 0, 1, 22), (22, .getfield 22, 3, 25), (25, .iconst 5, 1, 26), (26, .iconst 4, 1, 27), (27, .iload_n 1, 1, 28), (28, .imul, 1, 29), (29, .iadd, 1, 30), (30, .iload_n 2, 1, 31), (31, .iadd, 1, 32), (32, .iaload, 1, 33), (33, .goto 4, 3, 36), (36, .iconst (-1), 1, 37), (37, .ireturn, 1, 38)]
theorem dtX7_seen_0 : dtOK cX7_seen tbX7_seen_0 = true := by decide +kernel
def tbX7_surprise_0 : List (Nat × Instr × Nat × Nat) := [(0, .aload_n 0, 1, 1), (1, .iconst 0, 1, 2), (2, .putfield 56, 3, 5), (5, .aload_n 0, 1, 6), (6, .iload_n 1, 1, 7), (7, .invokevirtual 129, 3, 10), (10, .ifCond .eq 24, 3, 13), (13, .aload_n 0, 1, 14), (14, .iload_n 2, 1, 15), (15, .invokevirtual 132, 3, 18), (18, .ifCond .eq 16, 3, 21), (21, .aload_n 0, 1, 22), (22, .aload_n 0, 1, 23), (23, .getfield 22, 3, 26), (26, .iload_n 1, 1, 27), (27, .iload_n 2, 1, 28), (28, .invokevirtual 135, 3, 31), (31, .goto 4, 3, 34), (34, .iconst (-1), 1, 35), (35, .ireturn, 1, 36)]
theorem dtX7_surprise_0 : dtOK cX7_surprise tbX7_surprise_0 = true := by decide +kernel
def tbX7_allTerms_0 : List (Nat × Instr × Nat × Nat) := [(0, .iconst 0, 1, 1), (1, .istore_n 1, 1, 2), (2, .iconst 0, 1, 3), (3, .istore_n 2, 1, 4), (4, .iload_n 2, 1, 5), (5, .aload_n 0, 1, 6), (6, .getfield 13, 3, 9), (9, .iconst 2, 1, 10), (10, .iaload, 1, 11), (11, .if_icmp .ge 21, 3, 14), (14, .iload_n 1, 1, 15), (15, .aload_n 0, 1, 16), (16, .getfield 22, 3, 19), (19, .bipush 25, 2, 21), (21, .iload_n 2, 1, 22), (22, .iadd, 1, 23), (23, .iaload, 1, 24), (24, .iadd, 1, 25), (25, .istore_n 1, 1, 26), (26, .iinc 2 1, 3, 29), (29, .goto (-25), 3, 32), (32, .iload_n 1, 1, 33), (33, .ireturn, 1, 34)]
theorem dtX7_allTerms_0 : dtOK cX7_allTerms tbX7_allTerms_0 = true := by decide +kernel
def tbX7_mostSurprise_0 : List (Nat × Instr × Nat × Nat) := [(0, .iconst (-1), 1, 1), (1, .istore_n 1, 1, 2), (2, .iconst 0, 1, 3), (3, .istore_n 2, 1, 4), (4, .iload_n 2, 1, 5), (5, .aload_n 0, 1, 6), (6, .getfield 13, 3, 9), (9, .iconst 2, 1, 10), (10, .iaload, 1, 11), (11, .if_icmp .ge 52, 3, 14), (14, .iconst 0, 1, 15), (15, .istore_n 3, 1, 16), (16, .iload_n 3, 1, 17), (17, .aload_n 0, 1, 18), (18, .getfield 13, 3, 21), (21, .iconst 0, 1, 22), (22, .iaload, 1, 23), (23, .if_icmp .ge 34, 3, 26), (26, .aload_n 0, 1, 27), (27, .aload_n 0, 1, 28), (28, .getfield 22, 3, 31), (31, .iload_n 2, 1, 32), (32, .iload_n 3, 1, 33), (33, .invokevirtual 135, 3, 36), (36, .istore 4, 2, 38), (38, .iload 4, 2, 40), (40, .iload_n 1, 1, 41), (41, .if_icmp .le 8, 3, 44), (44, .iload 4, 2, 46), (46, .goto 4, 3, 49), (49, .iload_n 1, 1, 50), (50, .istore_n 1, 1, 51), (51, .iinc 3 1, 3, 54), (54, .goto (-38), 3, 57), (57, .iinc 2 1, 3, 60), (60, .goto (-56), 3, 63), (63, .iload_n 1, 1, 64), (64, .ireturn, 1, 65)]
theorem dtX7_mostSurprise_0 : dtOK cX7_mostSurprise tbX7_mostSurprise_0 = true := by decide +kernel
def tbX7_mayorOf_0 : List (Nat × Instr × Nat × Nat) := [(0, .aload_n 0, 1, 1), (1, .bipush 30, 2, 3), (3, .iaload, 1, 4), (4, .ifCond .ne 8, 3, 7), (7, .bipush (-9), 2, 9), (9, .goto 9, 3, 12), (12, .aload_n 0, 1, 13), (13, .bipush 30, 2, 15), (15, .iaload, 1, 16), (16, .iconst 1, 1, 17), (17, .isub, 1, 18), (18, .ireturn, 1, 19)]
theorem dtX7_mayorOf_0 : dtOK cX7_mayorOf tbX7_mayorOf_0 = true := by decide +kernel
def tbX7_now_0 : List (Nat × Instr × Nat × Nat) := [(0, .aload_n 0, 1, 1), (1, .iconst 0, 1, 2), (2, .putfield 56, 3, 5), (5, .iload_n 1, 1, 6), (6, .iconst 0, 1, 7), (7, .iconst 3, 1, 8), (8, .invokestatic 60, 3, 11), (11, .ifCond .ne 6, 3, 14), (14, .ldc 139, 2, 16), (16, .ireturn, 1, 17), (17, .iload_n 1, 1, 18), (18, .ifCond .ne 13, 3, 21), (21, .aload_n 0, 1, 22), (22, .getfield 22, 3, 25), (25, .invokestatic 140, 3, 28), (28, .goto 31, 3, 31), (31, .iload_n 1, 1, 32), (32, .iconst 1, 1, 33), (33, .if_icmp .ne 10, 3, 36), (36, .aload_n 0, 1, 37), (37, .invokevirtual 144, 3, 40), (40, .goto 19, 3, 43), (43, .iload_n 1, 1, 44), (44, .iconst 2, 1, 45), (45, .if_icmp .ne 10, 3, 48), (48, .aload_n 0, 1, 49), (49, .invokevirtual 148, 3, 52), (52, .goto 7, 3, 55), (55, .aload_n 0, 1, 56), (56, .getfield 122, 3, 59), (59, .ireturn, 1, 60)]
theorem dtX7_now_0 : dtOK cX7_now tbX7_now_0 = true := by decide +kernel
def tbX7_keepsBefore_0 : List (Nat × Instr × Nat × Nat) := [(0, .aload_n 0, 1, 1), (1, .getfield 122, 3, 4), (4, .bipush 10, 2, 6), (6, .if_icmp .ne 39, 3, 9), (9, .iconst 0, 1, 10), (10, .istore_n 1, 1, 11), (11, .iload_n 1, 1, 12), (12, .sipush 279, 3, 15), (15, .if_icmp .ge 24, 3, 18), (18, .aload_n 0, 1, 19), (19, .getfield 35, 3, 22), (22, .iload_n 1, 1, 23), (23, .aload_n 0, 1, 24), (24, .getfield 35, 3, 27), (27, .iload_n 1, 1, 28), (28, .bipush 31, 2, 30), (30, .iadd, 1, 31), (31, .iaload, 1, 32), (32, .iastore, 1, 33), (33, .iinc 1 1, 3, 36), (36, .goto (-25), 3, 39), (39, .aload_n 0, 1, 40), (40, .bipush 9, 2, 42), (42, .putfield 122, 3, 45), (45, .iconst 0, 1, 46), (46, .istore_n 1, 1, 47), (47, .iload_n 1, 1, 48), (48, .bipush 31, 2, 50), (50, .if_icmp .ge 29, 3, 53), (53, .aload_n 0, 1, 54), (54, .getfield 35, 3, 57), (57, .bipush 31, 2, 59), (59, .aload_n 0, 1, 60), (60, .getfield 122, 3, 63), (63, .imul, 1, 64), (64, .iload_n 1, 1, 65), (65, .iadd, 1, 66), (66, .aload_n 0, 1, 67), (67, .getfield 22, 3, 70), (70, .iload_n 1, 1, 71), (71, .iaload, 1, 72), (72, .iastore, 1, 73), (73, .iinc 1 1, 3, 76), (76, .goto (-29), 3, 79), (79, .aload_n 0, 1, 80), (80, .dup, 1, 81), (81, .getfield 122, 3, 84), (84, .iconst 1, 1, 85), (85, .iadd, 1, 86), (86, .putfield 122, 3, 89), (89, .return_, 1, 90)]
theorem dtX7_keepsBefore_0 : dtOK cX7_keepsBefore tbX7_keepsBefore_0 = true := by decide +kernel
def tbX7_event_0 : List (Nat × Instr × Nat × Nat) := [(0, .iconst 0, 1, 1), (1, .istore 4, 2, 3), (3, .bipush (-9), 2, 5), (5, .istore 5, 2, 7), (7, .iconst (-1), 1, 8), (8, .istore 6, 2, 10), (10, .iconst 0, 1, 11), (11, .istore 7, 2, 13), (13, .iload 7, 2, 15), (15, .aload_n 0, 1, 16), (16, .getfield 13, 3, 19), (19, .iconst 2, 1, 20), (20, .iaload, 1, 21), (21, .if_icmp .ge 82, 3, 24), (24, .aload_n 0, 1, 25), (25, .aload_n 1, 1, 26), (26, .iload 7, 2, 28), (28, .iload_n 2, 1, 29), (29, .invokevirtual 135, 3, 32), (32, .istore 8, 2, 34), (34, .aload_n 1, 1, 35), (35, .iconst 0, 1, 36), (36, .iload 7, 2, 38), (38, .iadd, 1, 39), (39, .iaload, 1, 40), (40, .iload_n 3, 1, 41), (41, .if_icmp .ne 56, 3, 44), (44, .iload 8, 2, 46), (46, .aload_n 0, 1, 47), (47, .getfield 16, 3, 50), (50, .iload 7, 2, 52), (52, .iaload, 1, 53), (53, .if_icmp .lt 44, 3, 56), (56, .iload 4, 2, 58), (58, .iconst 1, 1, 59), (59, .iload 7, 2, 61), (61, .ishl, 1, 62), (62, .ior, 1, 63), (63, .istore 4, 2, 65), (65, .iload 8, 2, 67), (67, .iload 6, 2, 69), (69, .if_icmp .le 8, 3, 72), (72, .iload 7, 2, 74), (74, .goto 5, 3, 77), (77, .iload 5, 2, 79), (79, .istore 5, 2, 81), (81, .iload 8, 2, 83), (83, .iload 6, 2, 85), (85, .if_icmp .le 8, 3, 88), (88, .iload 8, 2, 90), (90, .goto 5, 3, 93), (93, .iload 6, 2, 95), (95, .istore 6, 2, 97), (97, .iinc 7 1, 3, 100), (100, .goto (-87), 3, 103), (103, .iload 5, 2, 105), (105, .bipush (-9), 2, 107), (107, .if_icmp .eq 33, 3, 110), (110, .aload_n 1, 1, 111), (111, .bipush 30, 2, 113)]
theorem dtX7_event_0 : dtOK cX7_event tbX7_event_0 = true := by decide +kernel
def tbX7_event_1 : List (Nat × Instr × Nat × Nat) := [(113, .iaload, 1, 114), (114, .iload 5, 2, 116), (116, .iconst 1, 1, 117), (117, .iadd, 1, 118), (118, .if_icmp .eq 22, 3, 121), (121, .aload_n 1, 1, 122), (122, .bipush 30, 2, 124), (124, .iload 5, 2, 126), (126, .iconst 1, 1, 127), (127, .iadd, 1, 128), (128, .iastore, 1, 129), (129, .aload_n 1, 1, 130), (130, .bipush 25, 2, 132), (132, .iload 5, 2, 134), (134, .iadd, 1, 135), (135, .dup2, 1, 136), (136, .iaload, 1, 137), (137, .iconst 1, 1, 138), (138, .iadd, 1, 139), (139, .iastore, 1, 140), (140, .iconst 0, 1, 141), (141, .istore 7, 2, 143), (143, .iload 7, 2, 145), (145, .aload_n 0, 1, 146), (146, .getfield 13, 3, 149), (149, .iconst 2, 1, 150), (150, .iaload, 1, 151), (151, .if_icmp .ge 51, 3, 154), (154, .iconst 5, 1, 155), (155, .iconst 4, 1, 156), (156, .iload 7, 2, 158), (158, .imul, 1, 159), (159, .iadd, 1, 160), (160, .iload_n 2, 1, 161), (161, .iadd, 1, 162), (162, .istore 8, 2, 164), (164, .aload_n 1, 1, 165), (165, .iload 8, 2, 167), (167, .dup2, 1, 168), (168, .iaload, 1, 169), (169, .aload_n 1, 1, 170), (170, .iconst 0, 1, 171), (171, .iload 7, 2, 173), (173, .iadd, 1, 174), (174, .iaload, 1, 175), (175, .iload_n 3, 1, 176), (176, .if_icmp .ne 17, 3, 179), (179, .aload_n 1, 1, 180), (180, .iload 8, 2, 182), (182, .iaload, 1, 183), (183, .sipush 999, 3, 186), (186, .if_icmp .ge 7, 3, 189), (189, .iconst 1, 1, 190), (190, .goto 4, 3, 193), (193, .iconst 0, 1, 194), (194, .iadd, 1, 195), (195, .iastore, 1, 196), (196, .iinc 7 1, 3, 199), (199, .goto (-56), 3, 202), (202, .iload 4, 2, 204)]
theorem dtX7_event_1 : dtOK cX7_event tbX7_event_1 = true := by decide +kernel
def tbX7_event_2 : List (Nat × Instr × Nat × Nat) := [(204, .ireturn, 1, 205)]
theorem dtX7_event_2 : dtOK cX7_event tbX7_event_2 = true := by decide +kernel
def tbX7_happens_0 : List (Nat × Instr × Nat × Nat) := [(0, .aload_n 0, 1, 1), (1, .iconst 0, 1, 2), (2, .putfield 56, 3, 5), (5, .aload_n 0, 1, 6), (6, .iload_n 1, 1, 7), (7, .invokevirtual 132, 3, 10), (10, .ifCond .eq 11, 3, 13), (13, .aload_n 0, 1, 14), (14, .iload_n 2, 1, 15), (15, .invokevirtual 151, 3, 18), (18, .ifCond .ne 5, 3, 21), (21, .iconst (-1), 1, 22), (22, .ireturn, 1, 23), (23, .aload_n 0, 1, 24), (24, .invokevirtual 154, 3, 27), (27, .aload_n 0, 1, 28), (28, .aload_n 0, 1, 29), (29, .getfield 22, 3, 32), (32, .iload_n 1, 1, 33), (33, .iload_n 2, 1, 34), (34, .invokevirtual 157, 3, 37), (37, .ireturn, 1, 38)]
theorem dtX7_happens_0 : dtOK cX7_happens tbX7_happens_0 = true := by decide +kernel
def tbX7_walks_0 : List (Nat × Instr × Nat × Nat) := [(0, .aload_n 0, 1, 1), (1, .iconst 0, 1, 2), (2, .putfield 56, 3, 5), (5, .aload_n 0, 1, 6), (6, .iload_n 1, 1, 7), (7, .invokevirtual 129, 3, 10), (10, .ifCond .eq 11, 3, 13), (13, .aload_n 0, 1, 14), (14, .iload_n 2, 1, 15), (15, .invokevirtual 151, 3, 18), (18, .ifCond .ne 5, 3, 21), (21, .iconst (-1), 1, 22), (22, .ireturn, 1, 23), (23, .aload_n 0, 1, 24), (24, .getfield 22, 3, 27), (27, .iconst 0, 1, 28), (28, .iload_n 1, 1, 29), (29, .iadd, 1, 30), (30, .iaload, 1, 31), (31, .istore_n 3, 1, 32), (32, .iload_n 3, 1, 33), (33, .iload_n 2, 1, 34), (34, .if_icmp .ne 6, 3, 37), (37, .bipush (-2), 2, 39), (39, .ireturn, 1, 40), (40, .aload_n 0, 1, 41), (41, .invokevirtual 154, 3, 44), (44, .aload_n 0, 1, 45), (45, .getfield 22, 3, 48), (48, .iconst 0, 1, 49), (49, .iload_n 1, 1, 50), (50, .iadd, 1, 51), (51, .iload_n 2, 1, 52), (52, .iastore, 1, 53), (53, .iload_n 3, 1, 54), (54, .ireturn, 1, 55)]
theorem dtX7_walks_0 : dtOK cX7_walks tbX7_walks_0 = true := by decide +kernel
def tbX7_tells_0 : List (Nat × Instr × Nat × Nat) := [(0, .aload_n 0, 1, 1), (1, .iconst 0, 1, 2), (2, .putfield 56, 3, 5), (5, .aload_n 0, 1, 6), (6, .iload_n 1, 1, 7), (7, .invokevirtual 129, 3, 10), (10, .ifCond .eq 11, 3, 13), (13, .aload_n 0, 1, 14), (14, .iload_n 2, 1, 15), (15, .invokevirtual 132, 3, 18), (18, .ifCond .ne 5, 3, 21), (21, .iconst (-1), 1, 22), (22, .ireturn, 1, 23), (23, .aload_n 0, 1, 24), (24, .invokevirtual 154, 3, 27), (27, .iconst 5, 1, 28), (28, .iconst 4, 1, 29), (29, .iload_n 1, 1, 30), (30, .imul, 1, 31), (31, .iadd, 1, 32), (32, .iload_n 2, 1, 33), (33, .iadd, 1, 34), (34, .istore_n 3, 1, 35), (35, .aload_n 0, 1, 36), (36, .getfield 22, 3, 39), (39, .iload_n 3, 1, 40), (40, .dup2, 1, 41), (41, .iaload, 1, 42), (42, .aload_n 0, 1, 43), (43, .getfield 22, 3, 46), (46, .iload_n 3, 1, 47), (47, .iaload, 1, 48), (48, .sipush 999, 3, 51), (51, .if_icmp .ge 7, 3, 54), (54, .iconst 1, 1, 55), (55, .goto 4, 3, 58), (58, .iconst 0, 1, 59), (59, .iadd, 1, 60), (60, .iastore, 1, 61), (61, .aload_n 0, 1, 62), (62, .getfield 22, 3, 65), (65, .iload_n 3, 1, 66), (66, .iaload, 1, 67), (67, .ireturn, 1, 68)]
theorem dtX7_tells_0 : dtOK cX7_tells tbX7_tells_0 = true := by decide +kernel
def tbX7_abdicates_0 : List (Nat × Instr × Nat × Nat) := [(0, .aload_n 0, 1, 1), (1, .iconst 0, 1, 2), (2, .putfield 56, 3, 5), (5, .aload_n 0, 1, 6), (6, .getfield 22, 3, 9), (9, .bipush 30, 2, 11), (11, .iaload, 1, 12), (12, .ifCond .ne 6, 3, 15), (15, .bipush (-2), 2, 17), (17, .ireturn, 1, 18), (18, .aload_n 0, 1, 19), (19, .invokevirtual 154, 3, 22), (22, .aload_n 0, 1, 23), (23, .getfield 22, 3, 26), (26, .bipush 30, 2, 28), (28, .iaload, 1, 29), (29, .iconst 1, 1, 30), (30, .isub, 1, 31), (31, .istore_n 1, 1, 32), (32, .aload_n 0, 1, 33), (33, .getfield 22, 3, 36), (36, .bipush 30, 2, 38), (38, .iconst 0, 1, 39), (39, .iastore, 1, 40), (40, .iload_n 1, 1, 41), (41, .ireturn, 1, 42)]
theorem dtX7_abdicates_0 : dtOK cX7_abdicates tbX7_abdicates_0 = true := by decide +kernel
def tbX7_undo_0 : List (Nat × Instr × Nat × Nat) := [(0, .aload_n 0, 1, 1), (1, .iconst 0, 1, 2), (2, .putfield 56, 3, 5), (5, .aload_n 0, 1, 6), (6, .getfield 122, 3, 9), (9, .ifCond .ne 6, 3, 12), (12, .bipush (-2), 2, 14), (14, .ireturn, 1, 15), (15, .aload_n 0, 1, 16), (16, .dup, 1, 17), (17, .getfield 122, 3, 20), (20, .iconst 1, 1, 21), (21, .isub, 1, 22), (22, .putfield 122, 3, 25), (25, .iconst 0, 1, 26), (26, .istore_n 1, 1, 27), (27, .iload_n 1, 1, 28), (28, .bipush 31, 2, 30), (30, .if_icmp .ge 29, 3, 33), (33, .aload_n 0, 1, 34), (34, .getfield 22, 3, 37), (37, .iload_n 1, 1, 38), (38, .aload_n 0, 1, 39), (39, .getfield 35, 3, 42), (42, .bipush 31, 2, 44), (44, .aload_n 0, 1, 45), (45, .getfield 122, 3, 48), (48, .imul, 1, 49), (49, .iload_n 1, 1, 50), (50, .iadd, 1, 51), (51, .iaload, 1, 52), (52, .iastore, 1, 53), (53, .iinc 1 1, 3, 56), (56, .goto (-29), 3, 59), (59, .aload_n 0, 1, 60), (60, .getfield 122, 3, 63), (63, .ireturn, 1, 64)]
theorem dtX7_undo_0 : dtOK cX7_undo tbX7_undo_0 = true := by decide +kernel
def tbX7_who_0 : List (Nat × Instr × Nat × Nat) := [(0, .aload_n 0, 1, 1), (1, .iconst 0, 1, 2), (2, .putfield 56, 3, 5), (5, .aload_n 0, 1, 6), (6, .iload_n 1, 1, 7), (7, .invokevirtual 132, 3, 10), (10, .ifCond .eq 11, 3, 13), (13, .aload_n 0, 1, 14), (14, .iload_n 2, 1, 15), (15, .invokevirtual 151, 3, 18), (18, .ifCond .ne 5, 3, 21), (21, .iconst (-1), 1, 22), (22, .ireturn, 1, 23), (23, .aload_n 0, 1, 24), (24, .getfield 22, 3, 27), (27, .aload_n 0, 1, 28), (28, .getfield 25, 3, 31), (31, .invokestatic 115, 3, 34), (34, .aload_n 0, 1, 35), (35, .aload_n 0, 1, 36), (36, .getfield 25, 3, 39), (39, .iload_n 1, 1, 40), (40, .iload_n 2, 1, 41), (41, .invokevirtual 157, 3, 44), (44, .pop, 1, 45), (45, .aload_n 0, 1, 46), (46, .getfield 25, 3, 49), (49, .invokestatic 140, 3, 52), (52, .ireturn, 1, 53)]
theorem dtX7_who_0 : dtOK cX7_who tbX7_who_0 = true := by decide +kernel
def tbX7_events_0 : List (Nat × Instr × Nat × Nat) := [(0, .aload_n 0, 1, 1), (1, .getfield 13, 3, 4), (4, .iconst 0, 1, 5), (5, .iaload, 1, 6), (6, .aload_n 0, 1, 7), (7, .getfield 13, 3, 10), (10, .iconst 1, 1, 11), (11, .iaload, 1, 12), (12, .imul, 1, 13), (13, .ireturn, 1, 14)]
theorem dtX7_events_0 : dtOK cX7_events tbX7_events_0 = true := by decide +kernel
def tbX7_power_0 : List (Nat × Instr × Nat × Nat) := [(0, .iconst 1, 1, 1), (1, .istore_n 2, 1, 2), (2, .iconst 0, 1, 3), (3, .istore_n 3, 1, 4), (4, .iload_n 3, 1, 5), (5, .iload_n 1, 1, 6), (6, .if_icmp .ge 13, 3, 9), (9, .iload_n 2, 1, 10), (10, .iload_n 0, 1, 11), (11, .imul, 1, 12), (12, .istore_n 2, 1, 13), (13, .iinc 3 1, 3, 16), (16, .goto (-12), 3, 19), (19, .iload_n 2, 1, 20), (20, .ireturn, 1, 21)]
theorem dtX7_power_0 : dtOK cX7_power tbX7_power_0 = true := by decide +kernel
def tbX7_eventAt_0 : List (Nat × Instr × Nat × Nat) := [(0, .iload_n 1, 1, 1), (1, .aload_n 0, 1, 2), (2, .invokevirtual 160, 3, 5), (5, .iload_n 2, 1, 6), (6, .iconst 1, 1, 7), (7, .isub, 1, 8), (8, .iload_n 3, 1, 9), (9, .isub, 1, 10), (10, .invokestatic 163, 3, 13), (13, .idiv, 1, 14), (14, .aload_n 0, 1, 15), (15, .invokevirtual 160, 3, 18), (18, .irem, 1, 19), (19, .ireturn, 1, 20)]
theorem dtX7_eventAt_0 : dtOK cX7_eventAt tbX7_eventAt_0 = true := by decide +kernel
def tbX7_mayorBy_0 : List (Nat × Instr × Nat × Nat) := [(0, .aload_n 0, 1, 1), (1, .getfield 22, 3, 4), (4, .aload_n 0, 1, 5), (5, .getfield 25, 3, 8), (8, .invokestatic 115, 3, 11), (11, .iconst 0, 1, 12), (12, .istore_n 3, 1, 13), (13, .iload_n 3, 1, 14), (14, .iload_n 2, 1, 15), (15, .if_icmp .ge 45, 3, 18), (18, .aload_n 0, 1, 19), (19, .iload_n 1, 1, 20), (20, .iload_n 2, 1, 21), (21, .iload_n 3, 1, 22), (22, .invokevirtual 166, 3, 25), (25, .istore 4, 2, 27), (27, .aload_n 0, 1, 28), (28, .aload_n 0, 1, 29), (29, .getfield 25, 3, 32), (32, .iload 4, 2, 34), (34, .aload_n 0, 1, 35), (35, .getfield 13, 3, 38), (38, .iconst 1, 1, 39), (39, .iaload, 1, 40), (40, .idiv, 1, 41), (41, .iload 4, 2, 43), (43, .aload_n 0, 1, 44), (44, .getfield 13, 3, 47), (47, .iconst 1, 1, 48), (48, .iaload, 1, 49), (49, .irem, 1, 50), (50, .invokevirtual 157, 3, 53), (53, .pop, 1, 54), (54, .iinc 3 1, 3, 57), (57, .goto (-44), 3, 60), (60, .aload_n 0, 1, 61), (61, .getfield 25, 3, 64), (64, .invokestatic 140, 3, 67), (67, .ireturn, 1, 68)]
theorem dtX7_mayorBy_0 : dtOK cX7_mayorBy tbX7_mayorBy_0 = true := by decide +kernel
def tbX7_saysOf_0 : List (Nat × Instr × Nat × Nat) := [(0, .bipush 10, 2, 2), (2, .iload_n 1, 1, 3), (3, .aload_n 0, 1, 4), (4, .getfield 13, 3, 7), (7, .iconst 1, 1, 8), (8, .iaload, 1, 9), (9, .idiv, 1, 10), (10, .imul, 1, 11), (11, .iload_n 1, 1, 12), (12, .aload_n 0, 1, 13), (13, .getfield 13, 3, 16), (16, .iconst 1, 1, 17), (17, .iaload, 1, 18), (18, .irem, 1, 19), (19, .iadd, 1, 20), (20, .ireturn, 1, 21)]
theorem dtX7_saysOf_0 : dtOK cX7_saysOf tbX7_saysOf_0 = true := by decide +kernel
def tbX7_plan_0 : List (Nat × Instr × Nat × Nat) := [(0, .aload_n 0, 1, 1), (1, .iconst 0, 1, 2), (2, .putfield 56, 3, 5), (5, .aload_n 0, 1, 6), (6, .iload_n 1, 1, 7), (7, .invokevirtual 129, 3, 10), (10, .ifCond .eq 12, 3, 13), (13, .iload_n 2, 1, 14), (14, .iconst (-1), 1, 15), (15, .iconst 2, 1, 16), (16, .invokestatic 60, 3, 19), (19, .ifCond .ne 5, 3, 22), (22, .iconst (-1), 1, 23), (23, .ireturn, 1, 24), (24, .iconst 0, 1, 25), (25, .istore_n 3, 1, 26), (26, .iload_n 3, 1, 27), (27, .iconst 3, 1, 28), (28, .if_icmp .gt 74, 3, 31), (31, .iconst 0, 1, 32), (32, .istore 4, 2, 34), (34, .iload 4, 2, 36), (36, .aload_n 0, 1, 37), (37, .invokevirtual 160, 3, 40), (40, .iload_n 3, 1, 41), (41, .invokestatic 163, 3, 44), (44, .if_icmp .ge 52, 3, 47), (47, .aload_n 0, 1, 48), (48, .iload 4, 2, 50), (50, .iload_n 3, 1, 51), (51, .invokevirtual 170, 3, 54), (54, .iload_n 1, 1, 55), (55, .if_icmp .ne 35, 3, 58), (58, .iload_n 2, 1, 59), (59, .iconst (-1), 1, 60), (60, .if_icmp .ne 7, 3, 63), (63, .iload_n 3, 1, 64), (64, .goto 25, 3, 67), (67, .iload_n 2, 1, 68), (68, .iload_n 3, 1, 69), (69, .if_icmp .ge 18, 3, 72), (72, .aload_n 0, 1, 73), (73, .aload_n 0, 1, 74), (74, .iload 4, 2, 76), (76, .iload_n 3, 1, 77), (77, .iload_n 2, 1, 78), (78, .invokevirtual 166, 3, 81), (81, .invokevirtual 173, 3, 84), (84, .goto 5, 3, 87), (87, .bipush (-9), 2, 89), (89, .ireturn, 1, 90), (90, .iinc 4 1, 3, 93), (93, .goto (-59), 3, 96), (96, .iinc 3 1, 3, 99), (99, .goto (-73), 3, 102), (102, .bipush (-9), 2, 104), (104, .ireturn, 1, 105)]
theorem dtX7_plan_0 : dtOK cX7_plan tbX7_plan_0 = true := by decide +kernel
def tbX7_duel_0 : List (Nat × Instr × Nat × Nat) := [(0, .aload_n 0, 1, 1), (1, .iconst 0, 1, 2), (2, .putfield 56, 3, 5), (5, .aload_n 0, 1, 6), (6, .iload_n 1, 1, 7), (7, .invokevirtual 129, 3, 10), (10, .ifCond .eq 21, 3, 13), (13, .iload_n 2, 1, 14), (14, .iconst 0, 1, 15), (15, .iconst 3, 1, 16), (16, .invokestatic 60, 3, 19), (19, .ifCond .eq 12, 3, 22), (22, .iload_n 3, 1, 23), (23, .iconst 0, 1, 24), (24, .iconst 1, 1, 25), (25, .invokestatic 60, 3, 28), (28, .ifCond .ne 5, 3, 31), (31, .iconst (-1), 1, 32), (32, .ireturn, 1, 33), (33, .aload_n 0, 1, 34), (34, .invokevirtual 160, 3, 37), (37, .istore 4, 2, 39), (39, .iconst 0, 1, 40), (40, .istore 5, 2, 42), (42, .iload 5, 2, 44), (44, .iload 4, 2, 46), (46, .iload_n 2, 1, 47), (47, .invokestatic 163, 3, 50), (50, .if_icmp .ge 32, 3, 53), (53, .aload_n 0, 1, 54), (54, .getfield 47, 3, 57), (57, .iload 5, 2, 59), (59, .aload_n 0, 1, 60), (60, .iload 5, 2, 62), (62, .iload_n 2, 1, 63), (63, .invokevirtual 170, 3, 66), (66, .iload_n 1, 1, 67), (67, .if_icmp .ne 7, 3, 70), (70, .iconst 1, 1, 71), (71, .goto 4, 3, 74), (74, .iconst 0, 1, 75), (75, .iastore, 1, 76), (76, .iinc 5 1, 3, 79), (79, .goto (-37), 3, 82), (82, .bipush (-9), 2, 84), (84, .istore 5, 2, 86), (86, .iload_n 2, 1, 87), (87, .iconst 1, 1, 88), (88, .isub, 1, 89), (89, .istore 6, 2, 91), (91, .iload 6, 2, 93), (93, .ifCond .lt 145, 3, 96), (96, .iconst 0, 1, 97), (97, .istore 7, 2, 99), (99, .iload 7, 2, 101), (101, .iload 4, 2, 103), (103, .iload 6, 2, 105), (105, .invokestatic 163, 3, 108), (108, .if_icmp .ge 124, 3, 111), (111, .iconst 0, 1, 112)]
theorem dtX7_duel_0 : dtOK cX7_duel tbX7_duel_0 = true := by decide +kernel
def tbX7_duel_1 : List (Nat × Instr × Nat × Nat) := [(112, .istore 8, 2, 114), (114, .iconst 1, 1, 115), (115, .istore 9, 2, 117), (117, .iload 4, 2, 119), (119, .iconst 1, 1, 120), (120, .isub, 1, 121), (121, .istore 10, 2, 123), (123, .iload 10, 2, 125), (125, .ifCond .lt 80, 3, 128), (128, .aload_n 0, 1, 129), (129, .getfield 47, 3, 132), (132, .iload 4, 2, 134), (134, .iload 7, 2, 136), (136, .imul, 1, 137), (137, .iload 10, 2, 139), (139, .iadd, 1, 140), (140, .iaload, 1, 141), (141, .istore 11, 2, 143), (143, .iload 6, 2, 145), (145, .ifCond .ne 18, 3, 148), (148, .iload 11, 2, 150), (150, .iconst 1, 1, 151), (151, .if_icmp .ne 12, 3, 154), (154, .aload_n 0, 1, 155), (155, .iload 10, 2, 157), (157, .invokevirtual 173, 3, 160), (160, .goto 5, 3, 163), (163, .iload 5, 2, 165), (165, .istore 5, 2, 167), (167, .iload 11, 2, 169), (169, .iload 8, 2, 171), (171, .if_icmp .le 8, 3, 174), (174, .iload 11, 2, 176), (176, .goto 5, 3, 179), (179, .iload 8, 2, 181), (181, .istore 8, 2, 183), (183, .iload 11, 2, 185), (185, .iload 9, 2, 187), (187, .if_icmp .ge 8, 3, 190), (190, .iload 11, 2, 192), (192, .goto 5, 3, 195), (195, .iload 9, 2, 197), (197, .istore 9, 2, 199), (199, .iinc 10 (-1), 3, 202), (202, .goto (-79), 3, 205), (205, .aload_n 0, 1, 206), (206, .getfield 47, 3, 209), (209, .iload 7, 2, 211), (211, .iload 6, 2, 213), (213, .iconst 2, 1, 214), (214, .irem, 1, 215), (215, .ifCond .ne 8, 3, 218), (218, .iload 8, 2, 220), (220, .goto 5, 3, 223), (223, .iload 9, 2, 225), (225, .iastore, 1, 226), (226, .iinc 7 1, 3, 229), (229, .goto (-130), 3, 232), (232, .iinc 6 (-1), 3, 235), (235, .goto (-144), 3, 238)]
theorem dtX7_duel_1 : dtOK cX7_duel tbX7_duel_1 = true := by decide +kernel
def tbX7_duel_2 : List (Nat × Instr × Nat × Nat) := [(238, .iload_n 3, 1, 239), (239, .ifCond .ne 12, 3, 242), (242, .aload_n 0, 1, 243), (243, .getfield 47, 3, 246), (246, .iconst 0, 1, 247), (247, .iaload, 1, 248), (248, .goto 5, 3, 251), (251, .iload 5, 2, 253), (253, .ireturn, 1, 254)]
theorem dtX7_duel_2 : dtOK cX7_duel tbX7_duel_2 = true := by decide +kernel
def tbX7_stale_0 : List (Nat × Instr × Nat × Nat) := [(0, .aload_n 0, 1, 1), (1, .iconst 0, 1, 2), (2, .putfield 56, 3, 5), (5, .aload_n 0, 1, 6), (6, .iload_n 1, 1, 7), (7, .invokevirtual 132, 3, 10), (10, .ifCond .eq 11, 3, 13), (13, .aload_n 0, 1, 14), (14, .iload_n 2, 1, 15), (15, .invokevirtual 151, 3, 18), (18, .ifCond .ne 5, 3, 21), (21, .iconst (-1), 1, 22), (22, .ireturn, 1, 23), (23, .aload_n 0, 1, 24), (24, .getfield 22, 3, 27), (27, .aload_n 0, 1, 28), (28, .getfield 25, 3, 31), (31, .invokestatic 115, 3, 34), (34, .iconst 0, 1, 35), (35, .istore_n 3, 1, 36), (36, .iload_n 3, 1, 37), (37, .bipush 100, 2, 39), (39, .if_icmp .ge 24, 3, 42), (42, .aload_n 0, 1, 43), (43, .aload_n 0, 1, 44), (44, .getfield 25, 3, 47), (47, .iload_n 1, 1, 48), (48, .iload_n 2, 1, 49), (49, .invokevirtual 157, 3, 52), (52, .ifCond .ne 5, 3, 55), (55, .iload_n 3, 1, 56), (56, .ireturn, 1, 57), (57, .iinc 3 1, 3, 60), (60, .goto (-24), 3, 63), (63, .bipush (-9), 2, 65), (65, .ireturn, 1, 66)]
theorem dtX7_stale_0 : dtOK cX7_stale tbX7_stale_0 = true := by decide +kernel
def tbX7_gcd_0 : List (Nat × Instr × Nat × Nat) := [(0, .iload_n 0, 1, 1), (1, .istore_n 2, 1, 2), (2, .iload_n 1, 1, 3), (3, .istore_n 3, 1, 4), (4, .iload_n 3, 1, 5), (5, .ifCond .eq 16, 3, 8), (8, .iload_n 2, 1, 9), (9, .iload_n 3, 1, 10), (10, .irem, 1, 11), (11, .istore 4, 2, 13), (13, .iload_n 3, 1, 14), (14, .istore_n 2, 1, 15), (15, .iload 4, 2, 17), (17, .istore_n 3, 1, 18), (18, .goto (-14), 3, 21), (21, .iload_n 2, 1, 22), (22, .ireturn, 1, 23)]
theorem dtX7_gcd_0 : dtOK cX7_gcd tbX7_gcd_0 = true := by decide +kernel
def tbX7_odds_0 : List (Nat × Instr × Nat × Nat) := [(0, .aload_n 0, 1, 1), (1, .iconst 0, 1, 2), (2, .putfield 56, 3, 5), (5, .aload_n 0, 1, 6), (6, .iload_n 1, 1, 7), (7, .invokevirtual 129, 3, 10), (10, .ifCond .eq 30, 3, 13), (13, .aload_n 0, 1, 14), (14, .iload_n 2, 1, 15), (15, .invokevirtual 151, 3, 18), (18, .ifCond .eq 22, 3, 21), (21, .iload_n 3, 1, 22), (22, .iconst 0, 1, 23), (23, .iconst 4, 1, 24), (24, .invokestatic 60, 3, 27), (27, .ifCond .eq 13, 3, 30), (30, .iload 4, 2, 32), (32, .iconst 0, 1, 33), (33, .iconst 1, 1, 34), (34, .invokestatic 60, 3, 37), (37, .ifCond .ne 5, 3, 40), (40, .iconst (-1), 1, 41), (41, .ireturn, 1, 42), (42, .aload_n 0, 1, 43), (43, .getfield 13, 3, 46), (46, .iconst 0, 1, 47), (47, .iaload, 1, 48), (48, .iload_n 3, 1, 49), (49, .invokestatic 163, 3, 52), (52, .istore 5, 2, 54), (54, .iconst 0, 1, 55), (55, .istore 6, 2, 57), (57, .iconst 0, 1, 58), (58, .istore 7, 2, 60), (60, .iload 7, 2, 62), (62, .iload 5, 2, 64), (64, .if_icmp .ge 90, 3, 67), (67, .aload_n 0, 1, 68), (68, .getfield 22, 3, 71), (71, .aload_n 0, 1, 72), (72, .getfield 25, 3, 75), (75, .invokestatic 115, 3, 78), (78, .iload 7, 2, 80), (80, .istore 8, 2, 82), (82, .iconst 0, 1, 83), (83, .istore 9, 2, 85), (85, .iload 9, 2, 87), (87, .iload_n 3, 1, 88), (88, .if_icmp .ge 39, 3, 91), (91, .aload_n 0, 1, 92), (92, .aload_n 0, 1, 93), (93, .getfield 25, 3, 96), (96, .iload 8, 2, 98), (98, .aload_n 0, 1, 99), (99, .getfield 13, 3, 102), (102, .iconst 0, 1, 103), (103, .iaload, 1, 104), (104, .irem, 1, 105), (105, .iload_n 2, 1, 106), (106, .invokevirtual 157, 3, 109)]
theorem dtX7_odds_0 : dtOK cX7_odds tbX7_odds_0 = true := by decide +kernel
def tbX7_odds_1 : List (Nat × Instr × Nat × Nat) := [(109, .pop, 1, 110), (110, .iload 8, 2, 112), (112, .aload_n 0, 1, 113), (113, .getfield 13, 3, 116), (116, .iconst 0, 1, 117), (117, .iaload, 1, 118), (118, .idiv, 1, 119), (119, .istore 8, 2, 121), (121, .iinc 9 1, 3, 124), (124, .goto (-39), 3, 127), (127, .iload 6, 2, 129), (129, .aload_n 0, 1, 130), (130, .getfield 25, 3, 133), (133, .invokestatic 140, 3, 136), (136, .iload_n 1, 1, 137), (137, .if_icmp .ne 7, 3, 140), (140, .iconst 1, 1, 141), (141, .goto 4, 3, 144), (144, .iconst 0, 1, 145), (145, .iadd, 1, 146), (146, .istore 6, 2, 148), (148, .iinc 7 1, 3, 151), (151, .goto (-91), 3, 154), (154, .iload 6, 2, 156), (156, .iload 5, 2, 158), (158, .invokestatic 176, 3, 161), (161, .istore 7, 2, 163), (163, .iload 4, 2, 165), (165, .ifCond .ne 11, 3, 168), (168, .iload 6, 2, 170), (170, .iload 7, 2, 172), (172, .idiv, 1, 173), (173, .goto 8, 3, 176), (176, .iload 5, 2, 178), (178, .iload 7, 2, 180), (180, .idiv, 1, 181), (181, .ireturn, 1, 182)]
theorem dtX7_odds_1 : dtOK cX7_odds tbX7_odds_1 = true := by decide +kernel
def tbX7_notes_0 : List (Nat × Instr × Nat × Nat) := [(0, .aload_n 0, 1, 1), (1, .iconst 0, 1, 2), (2, .putfield 56, 3, 5), (5, .aload_n 0, 1, 6), (6, .iload_n 1, 1, 7), (7, .invokevirtual 129, 3, 10), (10, .ifCond .eq 20, 3, 13), (13, .aload_n 0, 1, 14), (14, .iload_n 2, 1, 15), (15, .invokevirtual 132, 3, 18), (18, .ifCond .eq 12, 3, 21), (21, .iload_n 3, 1, 22), (22, .iconst 0, 1, 23), (23, .iconst 1, 1, 24), (24, .invokestatic 60, 3, 27), (27, .ifCond .ne 5, 3, 30), (30, .iconst (-1), 1, 31), (31, .ireturn, 1, 32), (32, .aload_n 0, 1, 33), (33, .getfield 119, 3, 36), (36, .bipush 6, 2, 38), (38, .if_icmp .ne 6, 3, 41), (41, .bipush (-3), 2, 43), (43, .ireturn, 1, 44), (44, .aload_n 0, 1, 45), (45, .getfield 38, 3, 48), (48, .aload_n 0, 1, 49), (49, .getfield 119, 3, 52), (52, .iload_n 1, 1, 53), (53, .iastore, 1, 54), (54, .aload_n 0, 1, 55), (55, .getfield 41, 3, 58), (58, .aload_n 0, 1, 59), (59, .getfield 119, 3, 62), (62, .iload_n 2, 1, 63), (63, .iastore, 1, 64), (64, .aload_n 0, 1, 65), (65, .getfield 44, 3, 68), (68, .aload_n 0, 1, 69), (69, .getfield 119, 3, 72), (72, .iload_n 3, 1, 73), (73, .iastore, 1, 74), (74, .aload_n 0, 1, 75), (75, .dup, 1, 76), (76, .getfield 119, 3, 79), (79, .iconst 1, 1, 80), (80, .iadd, 1, 81), (81, .putfield 119, 3, 84), (84, .aload_n 0, 1, 85), (85, .getfield 119, 3, 88), (88, .ireturn, 1, 89)]
theorem dtX7_notes_0 : dtOK cX7_notes tbX7_notes_0 = true := by decide +kernel
def tbX7_forget_0 : List (Nat × Instr × Nat × Nat) := [(0, .aload_n 0, 1, 1), (1, .iconst 0, 1, 2), (2, .putfield 56, 3, 5), (5, .aload_n 0, 1, 6), (6, .getfield 119, 3, 9), (9, .istore_n 1, 1, 10), (10, .aload_n 0, 1, 11), (11, .iconst 0, 1, 12), (12, .putfield 119, 3, 15), (15, .iload_n 1, 1, 16), (16, .ireturn, 1, 17)]
theorem dtX7_forget_0 : dtOK cX7_forget tbX7_forget_0 = true := by decide +kernel
def tbX7_canBe_0 : List (Nat × Instr × Nat × Nat) := [(0, .iconst 1, 1, 1), (1, .istore_n 3, 1, 2), (2, .iconst 0, 1, 3), (3, .istore 4, 2, 5), (5, .iload 4, 2, 7), (7, .aload_n 0, 1, 8), (8, .getfield 119, 3, 11), (11, .if_icmp .ge 74, 3, 14), (14, .iload_n 3, 1, 15), (15, .ifCond .eq 62, 3, 18), (18, .aload_n 0, 1, 19), (19, .getfield 38, 3, 22), (22, .iload 4, 2, 24), (24, .iaload, 1, 25), (25, .iload_n 1, 1, 26), (26, .if_icmp .ne 47, 3, 29), (29, .iload_n 2, 1, 30), (30, .aload_n 0, 1, 31), (31, .aload_n 0, 1, 32), (32, .getfield 22, 3, 35), (35, .iload_n 1, 1, 36), (36, .aload_n 0, 1, 37), (37, .getfield 41, 3, 40), (40, .iload 4, 2, 42), (42, .iaload, 1, 43), (43, .invokevirtual 135, 3, 46), (46, .if_icmp .gt 7, 3, 49), (49, .iconst 1, 1, 50), (50, .goto 4, 3, 53), (53, .iconst 0, 1, 54), (54, .aload_n 0, 1, 55), (55, .getfield 44, 3, 58), (58, .iload 4, 2, 60), (60, .iaload, 1, 61), (61, .iconst 1, 1, 62), (62, .if_icmp .ne 7, 3, 65), (65, .iconst 1, 1, 66), (66, .goto 4, 3, 69), (69, .iconst 0, 1, 70), (70, .if_icmp .ne 7, 3, 73), (73, .iconst 1, 1, 74), (74, .goto 4, 3, 77), (77, .iconst 0, 1, 78), (78, .istore_n 3, 1, 79), (79, .iinc 4 1, 3, 82), (82, .goto (-77), 3, 85), (85, .iload_n 3, 1, 86), (86, .ireturn, 1, 87)]
theorem dtX7_canBe_0 : dtOK cX7_canBe tbX7_canBe_0 = true := by decide +kernel
def tbX7_nerves_0 : List (Nat × Instr × Nat × Nat) := [(0, .aload_n 0, 1, 1), (1, .iconst 0, 1, 2), (2, .putfield 56, 3, 5), (5, .aload_n 0, 1, 6), (6, .iload_n 1, 1, 7), (7, .invokevirtual 129, 3, 10), (10, .ifCond .eq 12, 3, 13), (13, .iload_n 2, 1, 14), (14, .iconst 0, 1, 15), (15, .iconst 2, 1, 16), (16, .invokestatic 60, 3, 19), (19, .ifCond .ne 5, 3, 22), (22, .iconst (-1), 1, 23), (23, .ireturn, 1, 24), (24, .iconst 0, 1, 25), (25, .istore_n 3, 1, 26), (26, .bipush (-9), 2, 28), (28, .istore 4, 2, 30), (30, .bipush (-9), 2, 32), (32, .istore 5, 2, 34), (34, .iconst 0, 1, 35), (35, .istore 6, 2, 37), (37, .iload 6, 2, 39), (39, .bipush 100, 2, 41), (41, .if_icmp .ge 39, 3, 44), (44, .aload_n 0, 1, 45), (45, .iload_n 1, 1, 46), (46, .iload 6, 2, 48), (48, .invokevirtual 179, 3, 51), (51, .ifCond .eq 23, 3, 54), (54, .iload_n 3, 1, 55), (55, .ifCond .ne 8, 3, 58), (58, .iload 6, 2, 60), (60, .goto 5, 3, 63), (63, .iload 4, 2, 65), (65, .istore 4, 2, 67), (67, .iload 6, 2, 69), (69, .istore 5, 2, 71), (71, .iinc 3 1, 3, 74), (74, .iinc 6 1, 3, 77), (77, .goto (-40), 3, 80), (80, .iload_n 2, 1, 81), (81, .ifCond .ne 7, 3, 84), (84, .iload_n 3, 1, 85), (85, .goto 15, 3, 88), (88, .iload_n 2, 1, 89), (89, .iconst 1, 1, 90), (90, .if_icmp .ne 8, 3, 93), (93, .iload 4, 2, 95), (95, .goto 5, 3, 98), (98, .iload 5, 2, 100), (100, .ireturn, 1, 101)]
theorem dtX7_nerves_0 : dtOK cX7_nerves tbX7_nerves_0 = true := by decide +kernel
def tbX7_test_0 : List (Nat × Instr × Nat × Nat) := [(0, .aload_n 0, 1, 1), (1, .iconst 0, 1, 2), (2, .putfield 56, 3, 5), (5, .aload_n 0, 1, 6), (6, .iload_n 1, 1, 7), (7, .invokevirtual 129, 3, 10), (10, .ifCond .ne 5, 3, 13), (13, .iconst (-1), 1, 14), (14, .ireturn, 1, 15), (15, .bipush (-9), 2, 17), (17, .istore_n 2, 1, 18), (18, .bipush 101, 2, 20), (20, .istore_n 3, 1, 21), (21, .iconst 0, 1, 22), (22, .istore 4, 2, 24), (24, .iconst 0, 1, 25), (25, .istore 5, 2, 27), (27, .iload 5, 2, 29), (29, .aload_n 0, 1, 30), (30, .getfield 13, 3, 33), (33, .iconst 0, 1, 34), (34, .iaload, 1, 35), (35, .if_icmp .ge 135, 3, 38), (38, .iconst 0, 1, 39), (39, .istore 6, 2, 41), (41, .iconst 0, 1, 42), (42, .istore 4, 2, 44), (44, .iconst 0, 1, 45), (45, .istore 7, 2, 47), (47, .iload 7, 2, 49), (49, .bipush 100, 2, 51), (51, .if_icmp .ge 65, 3, 54), (54, .iload 4, 2, 56), (56, .aload_n 0, 1, 57), (57, .iload_n 1, 1, 58), (58, .iload 7, 2, 60), (60, .invokevirtual 179, 3, 63), (63, .ifCond .eq 7, 3, 66), (66, .iconst 1, 1, 67), (67, .goto 4, 3, 70), (70, .iconst 0, 1, 71), (71, .iadd, 1, 72), (72, .istore 4, 2, 74), (74, .iload 6, 2, 76), (76, .aload_n 0, 1, 77), (77, .iload_n 1, 1, 78), (78, .iload 7, 2, 80), (80, .invokevirtual 179, 3, 83), (83, .ifCond .eq 23, 3, 86), (86, .iload 7, 2, 88), (88, .aload_n 0, 1, 89), (89, .aload_n 0, 1, 90), (90, .getfield 22, 3, 93), (93, .iload_n 1, 1, 94), (94, .iload 5, 2, 96), (96, .invokevirtual 135, 3, 99), (99, .if_icmp .gt 7, 3, 102), (102, .iconst 1, 1, 103), (103, .goto 4, 3, 106), (106, .iconst 0, 1, 107)]
theorem dtX7_test_0 : dtOK cX7_test tbX7_test_0 = true := by decide +kernel
def tbX7_test_1 : List (Nat × Instr × Nat × Nat) := [(107, .iadd, 1, 108), (108, .istore 6, 2, 110), (110, .iinc 7 1, 3, 113), (113, .goto (-66), 3, 116), (116, .iload 6, 2, 118), (118, .iload 4, 2, 120), (120, .iload 6, 2, 122), (122, .isub, 1, 123), (123, .if_icmp .le 8, 3, 126), (126, .iload 6, 2, 128), (128, .goto 8, 3, 131), (131, .iload 4, 2, 133), (133, .iload 6, 2, 135), (135, .isub, 1, 136), (136, .istore 7, 2, 138), (138, .iload 7, 2, 140), (140, .iload_n 3, 1, 141), (141, .if_icmp .ge 8, 3, 144), (144, .iload 5, 2, 146), (146, .goto 4, 3, 149), (149, .iload_n 2, 1, 150), (150, .istore_n 2, 1, 151), (151, .iload 7, 2, 153), (153, .iload_n 3, 1, 154), (154, .if_icmp .ge 8, 3, 157), (157, .iload 7, 2, 159), (159, .goto 4, 3, 162), (162, .iload_n 3, 1, 163), (163, .istore_n 3, 1, 164), (164, .iinc 5 1, 3, 167), (167, .goto (-140), 3, 170), (170, .iload 4, 2, 172), (172, .iconst 2, 1, 173), (173, .if_icmp .ge 8, 3, 176), (176, .bipush (-9), 2, 178), (178, .goto 4, 3, 181), (181, .iload_n 2, 1, 182), (182, .ireturn, 1, 183)]
theorem dtX7_test_1 : dtOK cX7_test tbX7_test_1 = true := by decide +kernel
def tbX7_rate_0 : List (Nat × Instr × Nat × Nat) := [(0, .aload_n 0, 1, 1), (1, .iconst 0, 1, 2), (2, .putfield 56, 3, 5), (5, .iload_n 1, 1, 6), (6, .iconst 0, 1, 7), (7, .iconst 5, 1, 8), (8, .invokestatic 60, 3, 11), (11, .ifCond .eq 11, 3, 14), (14, .aload_n 0, 1, 15), (15, .iload_n 2, 1, 16), (16, .invokevirtual 129, 3, 19), (19, .ifCond .ne 6, 3, 22), (22, .ldc 139, 2, 24), (24, .ireturn, 1, 25), (25, .aload_n 0, 1, 26), (26, .getfield 16, 3, 29), (29, .iload_n 2, 1, 30), (30, .iaload, 1, 31), (31, .istore_n 3, 1, 32), (32, .iload_n 3, 1, 33), (33, .aload_n 0, 1, 34), (34, .getfield 22, 3, 37), (37, .bipush 25, 2, 39), (39, .iload_n 2, 1, 40), (40, .iadd, 1, 41), (41, .iaload, 1, 42), (42, .iadd, 1, 43), (43, .istore 4, 2, 45), (45, .iload_n 3, 1, 46), (46, .aload_n 0, 1, 47), (47, .aload_n 0, 1, 48), (48, .getfield 22, 3, 51), (51, .iload_n 2, 1, 52), (52, .invokevirtual 125, 3, 55), (55, .isub, 1, 56), (56, .istore 5, 2, 58), (58, .aload_n 0, 1, 59), (59, .dup, 1, 60), (60, .getfield 183, 3, 63), (63, .iload_n 1, 1, 64), (64, .ifCond .ne 7, 3, 67), (67, .lconst 1, 1, 68), (68, .goto 50, 3, 71), (71, .iload_n 1, 1, 72), (72, .iconst 1, 1, 73), (73, .if_icmp .ne 9, 3, 76), (76, .ldc2_w 187, 3, 79), (79, .goto 39, 3, 82), (82, .iload_n 1, 1, 83), (83, .iconst 2, 1, 84), (84, .if_icmp .ne 9, 3, 87), (87, .ldc2_w 189, 3, 90), (90, .goto 28, 3, 93), (93, .iload_n 1, 1, 94), (94, .iconst 3, 1, 95), (95, .if_icmp .ne 9, 3, 98), (98, .ldc2_w 191, 3, 101), (101, .goto 17, 3, 104), (104, .iload_n 1, 1, 105), (105, .iconst 4, 1, 106)]
theorem dtX7_rate_0 : dtOK cX7_rate tbX7_rate_0 = true := by decide +kernel
def tbX7_rate_1 : List (Nat × Instr × Nat × Nat) := [(106, .if_icmp .ne 9, 3, 109), (109, .ldc2_w 193, 3, 112), (112, .goto 6, 3, 115), (115, .ldc2_w 195, 3, 118), (118, .ladd, 1, 119), (119, .putfield 183, 3, 122), (122, .iload_n 1, 1, 123), (123, .ifCond .ne 7, 3, 126), (126, .iload_n 3, 1, 127), (127, .goto 57, 3, 130), (130, .iload_n 1, 1, 131), (131, .iconst 1, 1, 132), (132, .if_icmp .ne 8, 3, 135), (135, .iload 4, 2, 137), (137, .goto 47, 3, 140), (140, .iload_n 1, 1, 141), (141, .iconst 2, 1, 142), (142, .if_icmp .ne 8, 3, 145), (145, .iload 5, 2, 147), (147, .goto 37, 3, 150), (150, .iload_n 1, 1, 151), (151, .iconst 3, 1, 152), (152, .if_icmp .ne 10, 3, 155), (155, .iconst 2, 1, 156), (156, .iload 4, 2, 158), (158, .imul, 1, 159), (159, .goto 25, 3, 162), (162, .iload_n 1, 1, 163), (163, .iconst 4, 1, 164), (164, .if_icmp .ne 10, 3, 167), (167, .iload 5, 2, 169), (169, .iload_n 2, 1, 170), (170, .iadd, 1, 171), (171, .goto 13, 3, 174), (174, .iload_n 3, 1, 175), (175, .aload_n 0, 1, 176), (176, .getfield 22, 3, 179), (179, .iconst 0, 1, 180), (180, .iload_n 2, 1, 181), (181, .iadd, 1, 182), (182, .iaload, 1, 183), (183, .iadd, 1, 184), (184, .ireturn, 1, 185)]
theorem dtX7_rate_1 : dtOK cX7_rate tbX7_rate_1 = true := by decide +kernel
def tbX7_withTerms_0 : List (Nat × Instr × Nat × Nat) := [(0, .iconst 0, 1, 1), (1, .istore_n 1, 1, 2), (2, .iconst 0, 1, 3), (3, .istore_n 2, 1, 4), (4, .iload_n 2, 1, 5), (5, .aload_n 0, 1, 6), (6, .getfield 13, 3, 9), (9, .iconst 2, 1, 10), (10, .iaload, 1, 11), (11, .if_icmp .ge 29, 3, 14), (14, .iload_n 1, 1, 15), (15, .aload_n 0, 1, 16), (16, .getfield 22, 3, 19), (19, .bipush 25, 2, 21), (21, .iload_n 2, 1, 22), (22, .iadd, 1, 23), (23, .iaload, 1, 24), (24, .ifCond .le 7, 3, 27), (27, .iconst 1, 1, 28), (28, .goto 4, 3, 31), (31, .iconst 0, 1, 32), (32, .iadd, 1, 33), (33, .istore_n 1, 1, 34), (34, .iinc 2 1, 3, 37), (37, .goto (-33), 3, 40), (40, .iload_n 1, 1, 41), (41, .ireturn, 1, 42)]
theorem dtX7_withTerms_0 : dtOK cX7_withTerms tbX7_withTerms_0 = true := by decide +kernel
def tbX7_keep_0 : List (Nat × Instr × Nat × Nat) := [(0, .aload_n 0, 1, 1), (1, .iconst 0, 1, 2), (2, .putfield 56, 3, 5), (5, .iload_n 1, 1, 6), (6, .iconst 0, 1, 7), (7, .iconst 1, 1, 8), (8, .invokestatic 60, 3, 11), (11, .ifCond .ne 5, 3, 14), (14, .iconst (-1), 1, 15), (15, .ireturn, 1, 16), (16, .iconst 0, 1, 17), (17, .istore_n 2, 1, 18), (18, .iload_n 2, 1, 19), (19, .bipush 31, 2, 21), (21, .if_icmp .ge 26, 3, 24), (24, .aload_n 0, 1, 25), (25, .getfield 28, 3, 28), (28, .bipush 31, 2, 30), (30, .iload_n 1, 1, 31), (31, .imul, 1, 32), (32, .iload_n 2, 1, 33), (33, .iadd, 1, 34), (34, .aload_n 0, 1, 35), (35, .getfield 22, 3, 38), (38, .iload_n 2, 1, 39), (39, .iaload, 1, 40), (40, .iastore, 1, 41), (41, .iinc 2 1, 3, 44), (44, .goto (-26), 3, 47), (47, .aload_n 0, 1, 48), (48, .getfield 31, 3, 51), (51, .iload_n 1, 1, 52), (52, .iconst 1, 1, 53), (53, .bastore, 1, 54), (54, .aload_n 0, 1, 55), (55, .invokevirtual 197, 3, 58), (58, .ireturn, 1, 59)]
theorem dtX7_keep_0 : dtOK cX7_keep tbX7_keep_0 = true := by decide +kernel
def tbX7_back_0 : List (Nat × Instr × Nat × Nat) := [(0, .aload_n 0, 1, 1), (1, .iconst 0, 1, 2), (2, .putfield 56, 3, 5), (5, .iload_n 1, 1, 6), (6, .iconst 0, 1, 7), (7, .iconst 1, 1, 8), (8, .invokestatic 60, 3, 11), (11, .ifCond .ne 5, 3, 14), (14, .iconst (-1), 1, 15), (15, .ireturn, 1, 16), (16, .aload_n 0, 1, 17), (17, .getfield 31, 3, 20), (20, .iload_n 1, 1, 21), (21, .baload, 1, 22), (22, .ifCond .ne 6, 3, 25), (25, .bipush (-2), 2, 27), (27, .ireturn, 1, 28), (28, .iconst 0, 1, 29), (29, .istore_n 2, 1, 30), (30, .iload_n 2, 1, 31), (31, .bipush 31, 2, 33), (33, .if_icmp .ge 26, 3, 36), (36, .aload_n 0, 1, 37), (37, .getfield 22, 3, 40), (40, .iload_n 2, 1, 41), (41, .aload_n 0, 1, 42), (42, .getfield 28, 3, 45), (45, .bipush 31, 2, 47), (47, .iload_n 1, 1, 48), (48, .imul, 1, 49), (49, .iload_n 2, 1, 50), (50, .iadd, 1, 51), (51, .iaload, 1, 52), (52, .iastore, 1, 53), (53, .iinc 2 1, 3, 56), (56, .goto (-26), 3, 59), (59, .aload_n 0, 1, 60), (60, .iconst 0, 1, 61), (61, .putfield 122, 3, 64), (64, .aload_n 0, 1, 65), (65, .invokevirtual 197, 3, 68), (68, .ireturn, 1, 69)]
theorem dtX7_back_0 : dtOK cX7_back tbX7_back_0 = true := by decide +kernel
def tbX7_count_0 : List (Nat × Instr × Nat × Nat) := [(0, .aload_n 0, 1, 1), (1, .iconst 0, 1, 2), (2, .putfield 56, 3, 5), (5, .iload_n 1, 1, 6), (6, .iconst 0, 1, 7), (7, .iconst 2, 1, 8), (8, .invokestatic 60, 3, 11), (11, .ifCond .eq 12, 3, 14), (14, .aload_n 0, 1, 15), (15, .getfield 13, 3, 18), (18, .iload_n 1, 1, 19), (19, .iaload, 1, 20), (20, .goto 28, 3, 23), (23, .iload_n 1, 1, 24), (24, .iconst 3, 1, 25), (25, .if_icmp .ne 10, 3, 28), (28, .aload_n 0, 1, 29), (29, .getfield 119, 3, 32), (32, .goto 16, 3, 35), (35, .iload_n 1, 1, 36), (36, .iconst 4, 1, 37), (37, .if_icmp .ne 10, 3, 40), (40, .aload_n 0, 1, 41), (41, .getfield 64, 3, 44), (44, .goto 4, 3, 47), (47, .iconst (-1), 1, 48), (48, .ireturn, 1, 49)]
theorem dtX7_count_0 : dtOK cX7_count tbX7_count_0 = true := by decide +kernel
def tbX7_trace_0 : List (Nat × Instr × Nat × Nat) := [(0, .aload_n 0, 1, 1), (1, .iconst 0, 1, 2), (2, .putfield 56, 3, 5), (5, .aload_n 0, 1, 6), (6, .getfield 183, 3, 9), (9, .lreturn, 1, 10)]
theorem dtX7_trace_0 : dtOK cX7_trace tbX7_trace_0 = true := by decide +kernel
def tbJ9_max_7cf53_0 : List (Nat × Instr × Nat × Nat) := [(0, .iload_n 0, 1, 1), (1, .iload_n 1, 1, 2), (2, .if_icmp .lt 7, 3, 5), (5, .iload_n 0, 1, 6), (6, .goto 4, 3, 9), (9, .iload_n 1, 1, 10), (10, .ireturn, 1, 11)]
theorem dtJ9_max_7cf53_0 : dtOK cJ9_max_7cf53 tbJ9_max_7cf53_0 = true := by decide +kernel
def tbJ9_min_7cf53_0 : List (Nat × Instr × Nat × Nat) := [(0, .iload_n 0, 1, 1), (1, .iload_n 1, 1, 2), (2, .if_icmp .gt 7, 3, 5), (5, .iload_n 0, 1, 6), (6, .goto 4, 3, 9), (9, .iload_n 1, 1, 10), (10, .ireturn, 1, 11)]
theorem dtJ9_min_7cf53_0 : dtOK cJ9_min_7cf53 tbJ9_min_7cf53_0 = true := by decide +kernel
def tbJ7_fill_53178_0 : List (Nat × Instr × Nat × Nat) := [(0, .iconst 0, 1, 1), (1, .istore_n 2, 1, 2), (2, .aload_n 0, 1, 3), (3, .arraylength, 1, 4), (4, .istore_n 3, 1, 5), (5, .iload_n 2, 1, 6), (6, .iload_n 3, 1, 7), (7, .if_icmp .ge 13, 3, 10), (10, .aload_n 0, 1, 11), (11, .iload_n 2, 1, 12), (12, .iload_n 1, 1, 13), (13, .iastore, 1, 14), (14, .iinc 2 1, 3, 17), (17, .goto (-12), 3, 20), (20, .return_, 1, 21)]
theorem dtJ7_fill_53178_0 : dtOK cJ7_fill_53178 tbJ7_fill_53178_0 = true := by decide +kernel
def tbL_law_0 : List (Nat × Instr × Nat × Nat) := [(0, .new 7, 3, 3), (3, .dup, 1, 4), (4, .invokespecial 9, 3, 7), (7, .astore_n 1, 1, 8), (8, .new 10, 3, 11), (11, .dup, 1, 12), (12, .invokespecial 12, 3, 15), (15, .astore_n 2, 1, 16), (16, .iconst 0, 1, 17), (17, .istore_n 3, 1, 18), (18, .iload_n 3, 1, 19), (19, .aload_n 0, 1, 20), (20, .arraylength, 1, 21), (21, .iconst 5, 1, 22), (22, .isub, 1, 23), (23, .if_icmp .gt 854, 3, 26), (26, .aload_n 0, 1, 27), (27, .iload_n 3, 1, 28), (28, .iaload, 1, 29), (29, .bipush 31, 2, 31), (31, .iand, 1, 32), (32, .tableswitch 839 0 25 #[120, 143, 156, 169, 202, 235, 268, 291, 324, 357, 390, 403, 416, 449, 482, 525, 558, 611, 654, 667, 700, 723, 756, 779, 802, 825], 120, 152), (152, .aload_n 1, 1, 153), (153, .aload_n 0, 1, 154), (154, .iload_n 3, 1, 155), (155, .iconst 1, 1, 156), (156, .iadd, 1, 157), (157, .iaload, 1, 158), (158, .invokevirtual 13, 3, 161), (161, .aload_n 2, 1, 162), (162, .aload_n 0, 1, 163), (163, .iload_n 3, 1, 164), (164, .iconst 1, 1, 165), (165, .iadd, 1, 166), (166, .iaload, 1, 167), (167, .invokevirtual 17, 3, 170), (170, .if_icmp .eq 701, 3, 173), (173, .iconst 0, 1, 174), (174, .ireturn, 1, 175), (175, .aload_n 1, 1, 176), (176, .invokevirtual 18, 3, 179), (179, .aload_n 2, 1, 180), (180, .invokevirtual 22, 3, 183), (183, .if_icmp .eq 688, 3, 186), (186, .iconst 0, 1, 187), (187, .ireturn, 1, 188), (188, .aload_n 1, 1, 189), (189, .invokevirtual 23, 3, 192), (192, .aload_n 2, 1, 193), (193, .invokevirtual 26, 3, 196), (196, .if_icmp .eq 675, 3, 199), (199, .iconst 0, 1, 200), (200, .ireturn, 1, 201), (201, .aload_n 1, 1, 202), (202, .aload_n 0, 1, 203), (203, .iload_n 3, 1, 204), (204, .iconst 1, 1, 205), (205, .iadd, 1, 206), (206, .iaload, 1, 207), (207, .aload_n 0, 1, 208)]
theorem dtL_law_0 : dtOK cL_law tbL_law_0 = true := by decide +kernel
def tbL_law_1 : List (Nat × Instr × Nat × Nat) := [(208, .iload_n 3, 1, 209), (209, .iconst 2, 1, 210), (210, .iadd, 1, 211), (211, .iaload, 1, 212), (212, .invokevirtual 27, 3, 215), (215, .aload_n 2, 1, 216), (216, .aload_n 0, 1, 217), (217, .iload_n 3, 1, 218), (218, .iconst 1, 1, 219), (219, .iadd, 1, 220), (220, .iaload, 1, 221), (221, .aload_n 0, 1, 222), (222, .iload_n 3, 1, 223), (223, .iconst 2, 1, 224), (224, .iadd, 1, 225), (225, .iaload, 1, 226), (226, .invokevirtual 31, 3, 229), (229, .if_icmp .eq 642, 3, 232), (232, .iconst 0, 1, 233), (233, .ireturn, 1, 234), (234, .aload_n 1, 1, 235), (235, .aload_n 0, 1, 236), (236, .iload_n 3, 1, 237), (237, .iconst 1, 1, 238), (238, .iadd, 1, 239), (239, .iaload, 1, 240), (240, .aload_n 0, 1, 241), (241, .iload_n 3, 1, 242), (242, .iconst 2, 1, 243), (243, .iadd, 1, 244), (244, .iaload, 1, 245), (245, .invokevirtual 32, 3, 248), (248, .aload_n 2, 1, 249), (249, .aload_n 0, 1, 250), (250, .iload_n 3, 1, 251), (251, .iconst 1, 1, 252), (252, .iadd, 1, 253), (253, .iaload, 1, 254), (254, .aload_n 0, 1, 255), (255, .iload_n 3, 1, 256), (256, .iconst 2, 1, 257), (257, .iadd, 1, 258), (258, .iaload, 1, 259), (259, .invokevirtual 35, 3, 262), (262, .if_icmp .eq 609, 3, 265), (265, .iconst 0, 1, 266), (266, .ireturn, 1, 267), (267, .aload_n 1, 1, 268), (268, .aload_n 0, 1, 269), (269, .iload_n 3, 1, 270), (270, .iconst 1, 1, 271), (271, .iadd, 1, 272), (272, .iaload, 1, 273), (273, .aload_n 0, 1, 274), (274, .iload_n 3, 1, 275), (275, .iconst 2, 1, 276), (276, .iadd, 1, 277), (277, .iaload, 1, 278), (278, .invokevirtual 36, 3, 281), (281, .aload_n 2, 1, 282)]
theorem dtL_law_1 : dtOK cL_law tbL_law_1 = true := by decide +kernel
def tbL_law_2 : List (Nat × Instr × Nat × Nat) := [(282, .aload_n 0, 1, 283), (283, .iload_n 3, 1, 284), (284, .iconst 1, 1, 285), (285, .iadd, 1, 286), (286, .iaload, 1, 287), (287, .aload_n 0, 1, 288), (288, .iload_n 3, 1, 289), (289, .iconst 2, 1, 290), (290, .iadd, 1, 291), (291, .iaload, 1, 292), (292, .invokevirtual 39, 3, 295), (295, .if_icmp .eq 576, 3, 298), (298, .iconst 0, 1, 299), (299, .ireturn, 1, 300), (300, .aload_n 1, 1, 301), (301, .aload_n 0, 1, 302), (302, .iload_n 3, 1, 303), (303, .iconst 1, 1, 304), (304, .iadd, 1, 305), (305, .iaload, 1, 306), (306, .invokevirtual 40, 3, 309), (309, .aload_n 2, 1, 310), (310, .aload_n 0, 1, 311), (311, .iload_n 3, 1, 312), (312, .iconst 1, 1, 313), (313, .iadd, 1, 314), (314, .iaload, 1, 315), (315, .invokevirtual 43, 3, 318), (318, .if_icmp .eq 553, 3, 321), (321, .iconst 0, 1, 322), (322, .ireturn, 1, 323), (323, .aload_n 1, 1, 324), (324, .aload_n 0, 1, 325), (325, .iload_n 3, 1, 326), (326, .iconst 1, 1, 327), (327, .iadd, 1, 328), (328, .iaload, 1, 329), (329, .aload_n 0, 1, 330), (330, .iload_n 3, 1, 331), (331, .iconst 2, 1, 332), (332, .iadd, 1, 333), (333, .iaload, 1, 334), (334, .invokevirtual 44, 3, 337), (337, .aload_n 2, 1, 338), (338, .aload_n 0, 1, 339), (339, .iload_n 3, 1, 340), (340, .iconst 1, 1, 341), (341, .iadd, 1, 342), (342, .iaload, 1, 343), (343, .aload_n 0, 1, 344), (344, .iload_n 3, 1, 345), (345, .iconst 2, 1, 346), (346, .iadd, 1, 347), (347, .iaload, 1, 348), (348, .invokevirtual 47, 3, 351), (351, .if_icmp .eq 520, 3, 354), (354, .iconst 0, 1, 355), (355, .ireturn, 1, 356), (356, .aload_n 1, 1, 357), (357, .aload_n 0, 1, 358)]
theorem dtL_law_2 : dtOK cL_law tbL_law_2 = true := by decide +kernel
def tbL_law_3 : List (Nat × Instr × Nat × Nat) := [(358, .iload_n 3, 1, 359), (359, .iconst 1, 1, 360), (360, .iadd, 1, 361), (361, .iaload, 1, 362), (362, .aload_n 0, 1, 363), (363, .iload_n 3, 1, 364), (364, .iconst 2, 1, 365), (365, .iadd, 1, 366), (366, .iaload, 1, 367), (367, .invokevirtual 48, 3, 370), (370, .aload_n 2, 1, 371), (371, .aload_n 0, 1, 372), (372, .iload_n 3, 1, 373), (373, .iconst 1, 1, 374), (374, .iadd, 1, 375), (375, .iaload, 1, 376), (376, .aload_n 0, 1, 377), (377, .iload_n 3, 1, 378), (378, .iconst 2, 1, 379), (379, .iadd, 1, 380), (380, .iaload, 1, 381), (381, .invokevirtual 51, 3, 384), (384, .if_icmp .eq 487, 3, 387), (387, .iconst 0, 1, 388), (388, .ireturn, 1, 389), (389, .aload_n 1, 1, 390), (390, .aload_n 0, 1, 391), (391, .iload_n 3, 1, 392), (392, .iconst 1, 1, 393), (393, .iadd, 1, 394), (394, .iaload, 1, 395), (395, .aload_n 0, 1, 396), (396, .iload_n 3, 1, 397), (397, .iconst 2, 1, 398), (398, .iadd, 1, 399), (399, .iaload, 1, 400), (400, .invokevirtual 52, 3, 403), (403, .aload_n 2, 1, 404), (404, .aload_n 0, 1, 405), (405, .iload_n 3, 1, 406), (406, .iconst 1, 1, 407), (407, .iadd, 1, 408), (408, .iaload, 1, 409), (409, .aload_n 0, 1, 410), (410, .iload_n 3, 1, 411), (411, .iconst 2, 1, 412), (412, .iadd, 1, 413), (413, .iaload, 1, 414), (414, .invokevirtual 55, 3, 417), (417, .if_icmp .eq 454, 3, 420), (420, .iconst 0, 1, 421), (421, .ireturn, 1, 422), (422, .aload_n 1, 1, 423), (423, .invokevirtual 56, 3, 426), (426, .aload_n 2, 1, 427), (427, .invokevirtual 59, 3, 430), (430, .if_icmp .eq 441, 3, 433), (433, .iconst 0, 1, 434), (434, .ireturn, 1, 435), (435, .aload_n 1, 1, 436)]
theorem dtL_law_3 : dtOK cL_law tbL_law_3 = true := by decide +kernel
def tbL_law_4 : List (Nat × Instr × Nat × Nat) := [(436, .invokevirtual 60, 3, 439), (439, .aload_n 2, 1, 440), (440, .invokevirtual 63, 3, 443), (443, .if_icmp .eq 428, 3, 446), (446, .iconst 0, 1, 447), (447, .ireturn, 1, 448), (448, .aload_n 1, 1, 449), (449, .aload_n 0, 1, 450), (450, .iload_n 3, 1, 451), (451, .iconst 1, 1, 452), (452, .iadd, 1, 453), (453, .iaload, 1, 454), (454, .aload_n 0, 1, 455), (455, .iload_n 3, 1, 456), (456, .iconst 2, 1, 457), (457, .iadd, 1, 458), (458, .iaload, 1, 459), (459, .invokevirtual 64, 3, 462), (462, .aload_n 2, 1, 463), (463, .aload_n 0, 1, 464), (464, .iload_n 3, 1, 465), (465, .iconst 1, 1, 466), (466, .iadd, 1, 467), (467, .iaload, 1, 468), (468, .aload_n 0, 1, 469), (469, .iload_n 3, 1, 470), (470, .iconst 2, 1, 471), (471, .iadd, 1, 472), (472, .iaload, 1, 473), (473, .invokevirtual 67, 3, 476), (476, .if_icmp .eq 395, 3, 479), (479, .iconst 0, 1, 480), (480, .ireturn, 1, 481), (481, .aload_n 1, 1, 482), (482, .aload_n 0, 1, 483), (483, .iload_n 3, 1, 484), (484, .iconst 1, 1, 485), (485, .iadd, 1, 486), (486, .iaload, 1, 487), (487, .aload_n 0, 1, 488), (488, .iload_n 3, 1, 489), (489, .iconst 2, 1, 490), (490, .iadd, 1, 491), (491, .iaload, 1, 492), (492, .invokevirtual 68, 3, 495), (495, .aload_n 2, 1, 496), (496, .aload_n 0, 1, 497), (497, .iload_n 3, 1, 498), (498, .iconst 1, 1, 499), (499, .iadd, 1, 500), (500, .iaload, 1, 501), (501, .aload_n 0, 1, 502), (502, .iload_n 3, 1, 503), (503, .iconst 2, 1, 504), (504, .iadd, 1, 505), (505, .iaload, 1, 506), (506, .invokevirtual 71, 3, 509), (509, .if_icmp .eq 362, 3, 512), (512, .iconst 0, 1, 513), (513, .ireturn, 1, 514)]
theorem dtL_law_4 : dtOK cL_law tbL_law_4 = true := by decide +kernel
def tbL_law_5 : List (Nat × Instr × Nat × Nat) := [(514, .aload_n 1, 1, 515), (515, .aload_n 0, 1, 516), (516, .iload_n 3, 1, 517), (517, .iconst 1, 1, 518), (518, .iadd, 1, 519), (519, .iaload, 1, 520), (520, .aload_n 0, 1, 521), (521, .iload_n 3, 1, 522), (522, .iconst 2, 1, 523), (523, .iadd, 1, 524), (524, .iaload, 1, 525), (525, .aload_n 0, 1, 526), (526, .iload_n 3, 1, 527), (527, .iconst 3, 1, 528), (528, .iadd, 1, 529), (529, .iaload, 1, 530), (530, .invokevirtual 72, 3, 533), (533, .aload_n 2, 1, 534), (534, .aload_n 0, 1, 535), (535, .iload_n 3, 1, 536), (536, .iconst 1, 1, 537), (537, .iadd, 1, 538), (538, .iaload, 1, 539), (539, .aload_n 0, 1, 540), (540, .iload_n 3, 1, 541), (541, .iconst 2, 1, 542), (542, .iadd, 1, 543), (543, .iaload, 1, 544), (544, .aload_n 0, 1, 545), (545, .iload_n 3, 1, 546), (546, .iconst 3, 1, 547), (547, .iadd, 1, 548), (548, .iaload, 1, 549), (549, .invokevirtual 76, 3, 552), (552, .if_icmp .eq 319, 3, 555), (555, .iconst 0, 1, 556), (556, .ireturn, 1, 557), (557, .aload_n 1, 1, 558), (558, .aload_n 0, 1, 559), (559, .iload_n 3, 1, 560), (560, .iconst 1, 1, 561), (561, .iadd, 1, 562), (562, .iaload, 1, 563), (563, .aload_n 0, 1, 564), (564, .iload_n 3, 1, 565), (565, .iconst 2, 1, 566), (566, .iadd, 1, 567), (567, .iaload, 1, 568), (568, .invokevirtual 77, 3, 571), (571, .aload_n 2, 1, 572), (572, .aload_n 0, 1, 573), (573, .iload_n 3, 1, 574), (574, .iconst 1, 1, 575), (575, .iadd, 1, 576), (576, .iaload, 1, 577), (577, .aload_n 0, 1, 578), (578, .iload_n 3, 1, 579), (579, .iconst 2, 1, 580), (580, .iadd, 1, 581), (581, .iaload, 1, 582)]
theorem dtL_law_5 : dtOK cL_law tbL_law_5 = true := by decide +kernel
def tbL_law_6 : List (Nat × Instr × Nat × Nat) := [(582, .invokevirtual 80, 3, 585), (585, .if_icmp .eq 286, 3, 588), (588, .iconst 0, 1, 589), (589, .ireturn, 1, 590), (590, .aload_n 1, 1, 591), (591, .aload_n 0, 1, 592), (592, .iload_n 3, 1, 593), (593, .iconst 1, 1, 594), (594, .iadd, 1, 595), (595, .iaload, 1, 596), (596, .aload_n 0, 1, 597), (597, .iload_n 3, 1, 598), (598, .iconst 2, 1, 599), (599, .iadd, 1, 600), (600, .iaload, 1, 601), (601, .aload_n 0, 1, 602), (602, .iload_n 3, 1, 603), (603, .iconst 3, 1, 604), (604, .iadd, 1, 605), (605, .iaload, 1, 606), (606, .aload_n 0, 1, 607), (607, .iload_n 3, 1, 608), (608, .iconst 4, 1, 609), (609, .iadd, 1, 610), (610, .iaload, 1, 611), (611, .invokevirtual 81, 3, 614), (614, .aload_n 2, 1, 615), (615, .aload_n 0, 1, 616), (616, .iload_n 3, 1, 617), (617, .iconst 1, 1, 618), (618, .iadd, 1, 619), (619, .iaload, 1, 620), (620, .aload_n 0, 1, 621), (621, .iload_n 3, 1, 622), (622, .iconst 2, 1, 623), (623, .iadd, 1, 624), (624, .iaload, 1, 625), (625, .aload_n 0, 1, 626), (626, .iload_n 3, 1, 627), (627, .iconst 3, 1, 628), (628, .iadd, 1, 629), (629, .iaload, 1, 630), (630, .aload_n 0, 1, 631), (631, .iload_n 3, 1, 632), (632, .iconst 4, 1, 633), (633, .iadd, 1, 634), (634, .iaload, 1, 635), (635, .invokevirtual 85, 3, 638), (638, .if_icmp .eq 233, 3, 641), (641, .iconst 0, 1, 642), (642, .ireturn, 1, 643), (643, .aload_n 1, 1, 644), (644, .aload_n 0, 1, 645), (645, .iload_n 3, 1, 646), (646, .iconst 1, 1, 647), (647, .iadd, 1, 648), (648, .iaload, 1, 649), (649, .aload_n 0, 1, 650), (650, .iload_n 3, 1, 651), (651, .iconst 2, 1, 652)]
theorem dtL_law_6 : dtOK cL_law tbL_law_6 = true := by decide +kernel
def tbL_law_7 : List (Nat × Instr × Nat × Nat) := [(652, .iadd, 1, 653), (653, .iaload, 1, 654), (654, .aload_n 0, 1, 655), (655, .iload_n 3, 1, 656), (656, .iconst 3, 1, 657), (657, .iadd, 1, 658), (658, .iaload, 1, 659), (659, .invokevirtual 86, 3, 662), (662, .aload_n 2, 1, 663), (663, .aload_n 0, 1, 664), (664, .iload_n 3, 1, 665), (665, .iconst 1, 1, 666), (666, .iadd, 1, 667), (667, .iaload, 1, 668), (668, .aload_n 0, 1, 669), (669, .iload_n 3, 1, 670), (670, .iconst 2, 1, 671), (671, .iadd, 1, 672), (672, .iaload, 1, 673), (673, .aload_n 0, 1, 674), (674, .iload_n 3, 1, 675), (675, .iconst 3, 1, 676), (676, .iadd, 1, 677), (677, .iaload, 1, 678), (678, .invokevirtual 89, 3, 681), (681, .if_icmp .eq 190, 3, 684), (684, .iconst 0, 1, 685), (685, .ireturn, 1, 686), (686, .aload_n 1, 1, 687), (687, .invokevirtual 90, 3, 690), (690, .aload_n 2, 1, 691), (691, .invokevirtual 93, 3, 694), (694, .if_icmp .eq 177, 3, 697), (697, .iconst 0, 1, 698), (698, .ireturn, 1, 699), (699, .aload_n 1, 1, 700), (700, .aload_n 0, 1, 701), (701, .iload_n 3, 1, 702), (702, .iconst 1, 1, 703), (703, .iadd, 1, 704), (704, .iaload, 1, 705), (705, .aload_n 0, 1, 706), (706, .iload_n 3, 1, 707), (707, .iconst 2, 1, 708), (708, .iadd, 1, 709), (709, .iaload, 1, 710), (710, .invokevirtual 94, 3, 713), (713, .aload_n 2, 1, 714), (714, .aload_n 0, 1, 715), (715, .iload_n 3, 1, 716), (716, .iconst 1, 1, 717), (717, .iadd, 1, 718), (718, .iaload, 1, 719), (719, .aload_n 0, 1, 720), (720, .iload_n 3, 1, 721), (721, .iconst 2, 1, 722), (722, .iadd, 1, 723), (723, .iaload, 1, 724), (724, .invokevirtual 97, 3, 727), (727, .if_icmp .eq 144, 3, 730)]
theorem dtL_law_7 : dtOK cL_law tbL_law_7 = true := by decide +kernel
def tbL_law_8 : List (Nat × Instr × Nat × Nat) := [(730, .iconst 0, 1, 731), (731, .ireturn, 1, 732), (732, .aload_n 1, 1, 733), (733, .aload_n 0, 1, 734), (734, .iload_n 3, 1, 735), (735, .iconst 1, 1, 736), (736, .iadd, 1, 737), (737, .iaload, 1, 738), (738, .invokevirtual 98, 3, 741), (741, .aload_n 2, 1, 742), (742, .aload_n 0, 1, 743), (743, .iload_n 3, 1, 744), (744, .iconst 1, 1, 745), (745, .iadd, 1, 746), (746, .iaload, 1, 747), (747, .invokevirtual 101, 3, 750), (750, .if_icmp .eq 121, 3, 753), (753, .iconst 0, 1, 754), (754, .ireturn, 1, 755), (755, .aload_n 1, 1, 756), (756, .aload_n 0, 1, 757), (757, .iload_n 3, 1, 758), (758, .iconst 1, 1, 759), (759, .iadd, 1, 760), (760, .iaload, 1, 761), (761, .aload_n 0, 1, 762), (762, .iload_n 3, 1, 763), (763, .iconst 2, 1, 764), (764, .iadd, 1, 765), (765, .iaload, 1, 766), (766, .invokevirtual 102, 3, 769), (769, .aload_n 2, 1, 770), (770, .aload_n 0, 1, 771), (771, .iload_n 3, 1, 772), (772, .iconst 1, 1, 773), (773, .iadd, 1, 774), (774, .iaload, 1, 775), (775, .aload_n 0, 1, 776), (776, .iload_n 3, 1, 777), (777, .iconst 2, 1, 778), (778, .iadd, 1, 779), (779, .iaload, 1, 780), (780, .invokevirtual 105, 3, 783), (783, .if_icmp .eq 88, 3, 786), (786, .iconst 0, 1, 787), (787, .ireturn, 1, 788), (788, .aload_n 1, 1, 789), (789, .aload_n 0, 1, 790), (790, .iload_n 3, 1, 791), (791, .iconst 1, 1, 792), (792, .iadd, 1, 793), (793, .iaload, 1, 794), (794, .invokevirtual 106, 3, 797), (797, .aload_n 2, 1, 798), (798, .aload_n 0, 1, 799), (799, .iload_n 3, 1, 800), (800, .iconst 1, 1, 801), (801, .iadd, 1, 802), (802, .iaload, 1, 803), (803, .invokevirtual 109, 3, 806)]
theorem dtL_law_8 : dtOK cL_law tbL_law_8 = true := by decide +kernel
def tbL_law_9 : List (Nat × Instr × Nat × Nat) := [(806, .if_icmp .eq 65, 3, 809), (809, .iconst 0, 1, 810), (810, .ireturn, 1, 811), (811, .aload_n 1, 1, 812), (812, .aload_n 0, 1, 813), (813, .iload_n 3, 1, 814), (814, .iconst 1, 1, 815), (815, .iadd, 1, 816), (816, .iaload, 1, 817), (817, .invokevirtual 110, 3, 820), (820, .aload_n 2, 1, 821), (821, .aload_n 0, 1, 822), (822, .iload_n 3, 1, 823), (823, .iconst 1, 1, 824), (824, .iadd, 1, 825), (825, .iaload, 1, 826), (826, .invokevirtual 113, 3, 829), (829, .if_icmp .eq 42, 3, 832), (832, .iconst 0, 1, 833), (833, .ireturn, 1, 834), (834, .aload_n 1, 1, 835), (835, .aload_n 0, 1, 836), (836, .iload_n 3, 1, 837), (837, .iconst 1, 1, 838), (838, .iadd, 1, 839), (839, .iaload, 1, 840), (840, .invokevirtual 114, 3, 843), (843, .aload_n 2, 1, 844), (844, .aload_n 0, 1, 845), (845, .iload_n 3, 1, 846), (846, .iconst 1, 1, 847), (847, .iadd, 1, 848), (848, .iaload, 1, 849), (849, .invokevirtual 117, 3, 852), (852, .if_icmp .eq 19, 3, 855), (855, .iconst 0, 1, 856), (856, .ireturn, 1, 857), (857, .aload_n 1, 1, 858), (858, .invokevirtual 118, 3, 861), (861, .aload_n 2, 1, 862), (862, .invokevirtual 122, 3, 865), (865, .lcmp, 1, 866), (866, .ifCond .eq 5, 3, 869), (869, .iconst 0, 1, 870), (870, .ireturn, 1, 871), (871, .iinc 3 5, 3, 874), (874, .goto (-856), 3, 877), (877, .iconst 1, 1, 878), (878, .ireturn, 1, 879)]
theorem dtL_law_9 : dtOK cL_law tbL_law_9 = true := by decide +kernel
end
section
abbrev DX : Type := va_G × ClassId × ClassId × ClassId
abbrev Mem : Type := Nat → Nat → Int32
abbrev Cel : Type := Int64 → Nat → (Nat → Int32) → va_E
def Fr (B N : Nat) : Nat → Prop := fun q => B ≤ q ∧ q < B + N
def wl (B N : Nat) (cel : Cel) (T : Int64) (M : Mem) : va_W := (List.range N).map (fun k => (B + k, cel T k (M k)))
def KK (D : DX) (U : State) : Prop := va_K D.1 vwCl [(D.2.1, .int), (D.2.2.1, .boolean), (D.2.2.2, .object RX2)] U
def setR (M : Mem) (k : Nat) (r : Nat → Int32) : Mem := fun i => if i = k then r else M i
def up2 (M : Mem) (k j : Nat) (v : Int32) : Mem := setR M k (upd (M k) j v)
theorem setR_self (M : Mem) (k : Nat) (r : Nat → Int32) : setR M k r k = r := by simp [setR]
theorem setR_ne (M : Mem) {k i : Nat} (r : Nat → Int32) (h : i ≠ k) : setR M k r i = M i := by simp [setR, h]
theorem up2_ne (M : Mem) {k i j : Nat} (v : Int32) (h : i ≠ k) : up2 M k j v i = M i := by simp [up2, setR, h]
theorem up2_self (M : Mem) (k j : Nat) (v : Int32) : up2 M k j v k = upd (M k) j v := by simp [up2, setR]
theorem wl_len {B N : Nat} {cel : Cel} {T : Int64} {M : Mem} : (wl B N cel T M).length = N := by simp [wl]
theorem wl_get {B N : Nat} {cel : Cel} {T : Int64} {M : Mem} {k : Nat} (h : k < N) : (wl B N cel T M)[k]? = some (B + k, cel T k (M k)) := by simp [wl, h]
theorem wl_at {B N : Nat} {cel : Cel} {T : Int64} {M : Mem} {k : Nat} {e : va_E} (h : k < N) (he : cel T k (M k) = e) : (wl B N cel T M)[k]? = some (B + k, e) := by rw [wl_get h, he]
theorem wl_setT {B N : Nat} {cel : Cel} {T T1 : Int64} {M : Mem} {k : Nat} {r : Nat → Int32} {e : va_E} (h : k < N) (he : cel T1 k r = e) (ho : ∀ i, i ≠ k → ∀ r, cel T1 i r = cel T i r) : (wl B N cel T M).set k (B + k, e) = wl B N cel T1 (setR M k r) := by
  subst he
  apply List.ext_getElem?
  intro i
  by_cases hi : i < N
  · rw [wl_get hi, List.getElem?_set]
    by_cases hk : k = i
    · subst hk
      rw [if_pos rfl, if_pos (by rw [wl_len]; exact h), setR_self]
    · rw [if_neg hk, wl_get hi, setR_ne _ _ (Ne.symm hk), ho i (Ne.symm hk)]
  · rw [List.getElem?_eq_none (by rw [List.length_set, wl_len]; omega), List.getElem?_eq_none (by rw [wl_len]; omega)]
theorem wl_set {B N : Nat} {cel : Cel} {T : Int64} {M : Mem} {k : Nat} {r : Nat → Int32} {e : va_E} (h : k < N) (he : cel T k r = e) : (wl B N cel T M).set k (B + k, e) = wl B N cel T (setR M k r) := wl_setT h he (fun _ _ _ => rfl)
theorem wl_inv {B N : Nat} {cel : Cel} {T : Int64} {M : Mem} {k : Nat} {q : Nat × va_E} (h : (wl B N cel T M)[k]? = some q) : k < N ∧ q = (B + k, cel T k (M k)) := by
  have hk : k < N := by
    have := (List.getElem?_eq_some_iff.mp h).1
    rwa [wl_len] at this
  rw [wl_get hk] at h
  exact ⟨hk, (Option.some.inj h).symm⟩
theorem wl_D {B N : Nat} {cel : Cel} {T : Int64} {M : Mem} : va_D (Fr B N) (wl B N cel T M) := by
  refine ⟨fun i j p q hp hq he => ?_, fun k q hk => ?_⟩
  · obtain ⟨-, rfl⟩ := wl_inv hp
    obtain ⟨-, rfl⟩ := wl_inv hq
    simp at he
    omega
  · obtain ⟨h, rfl⟩ := wl_inv hk
    exact ⟨Nat.le_add_right _ _, Nat.add_lt_add_left h _⟩
def Fx (p : Program) (m : MethodId) (meth : Method) (c : Code) (cc : ByteArray) (nL : Nat) (rt : Option FieldType) (s : State) (args : Array Value) (own : String) (D : DX) : Prop := p.tables.exec = Jvm.exec ∧ c.code = cc ∧ c.maxLocals = nL ∧ s.vm.findClass own = some m.cls ∧ (∀ w ∈ gtb, w.before args s = true) ∧ KK D s ∧ meth.sig.returnType = rt ∧ meth.locks = false
def G (p : Program) (l : Launch) (e : Env) (R : Room) (s : State) (m : MethodId) (args : Array Value) (below : List Frame) (meth : Method) (c : Code) (nL : Nat) (D : DX) (B N : Nat) (cel : Cel) (Q : State → Prop) (T : Int64) (M : Mem) (pc : Nat) (L : List (Nat × Value)) (st : List Value) : Prop := ∀ (H : Heap) (locs : List Loc) (ls : Array Slot), va_P D.1 vwCl (wl B N cel T M) H → va_S (Fr B N) s.heap H locs → lv_has ls nL L → W p l e R s m args below meth c H locs 0 0 Q (F0 m pc ls st)
def Pw3 {α : Type} (post : α → Int64 → Mem → Prop) : α → (Int64 × Mem) → Prop := fun r u => post r u.1 u.2
def Pw2 (post : Int64 → Mem → Prop) : (Int64 × Mem) → Prop := fun u => post u.1 u.2
def Bw (D : DX) (B N : Nat) (cel : Cel) : (Int64 × Mem) → State → Prop := fun u t => va_P D.1 vwCl (wl B N cel u.1 u.2) t.heap ∧ KK D t
def Bw1 (D : DX) (B N : Nat) (cel : Cel) (a : Nat) : (Int64 × Mem) → Nat → State → Prop := fun u b t => b = a ∧ va_P D.1 vwCl (wl B N cel u.1 u.2) t.heap ∧ KK D t
/-- a method's contract: from the world (T, M), with the arguments av, it answers r, and leaves (T1, M1), with post r T1 M1 -/
def Ci (l : Launch) (D : DX) (B N : Nat) (cel : Cel) (y : MethodName) (cc : ByteArray) (mL : Nat) (rt : Option FieldType) (d : Nat) (av : List Value) (T : Int64) (M : Mem) (post : Int32 → Int64 → Mem → Prop) : Prop := Met l y (Cond.code y cc mL rt :: gtb) { frames := d, cells := 0, slots := 0, locals := 40 * d } (va_Pc av (fun U => va_P D.1 vwCl (wl B N cel T M) U.heap ∧ KK D U)) (va_Qi (Pw3 post) (Bw D B N cel) (Fr B N)) 0 0 (Fr B N)
def Cl (l : Launch) (D : DX) (B N : Nat) (cel : Cel) (y : MethodName) (cc : ByteArray) (mL : Nat) (rt : Option FieldType) (d : Nat) (av : List Value) (T : Int64) (M : Mem) (post : Int64 → Int64 → Mem → Prop) : Prop := Met l y (Cond.code y cc mL rt :: gtb) { frames := d, cells := 0, slots := 0, locals := 40 * d } (va_Pc av (fun U => va_P D.1 vwCl (wl B N cel T M) U.heap ∧ KK D U)) (va_Ql (Pw3 post) (Bw D B N cel) (Fr B N)) 0 0 (Fr B N)
def Cv (l : Launch) (D : DX) (B N : Nat) (cel : Cel) (y : MethodName) (cc : ByteArray) (mL : Nat) (rt : Option FieldType) (d : Nat) (av : List Value) (T : Int64) (M : Mem) (post : Int64 → Mem → Prop) : Prop := Met l y (Cond.code y cc mL rt :: gtb) { frames := d, cells := 0, slots := 0, locals := 40 * d } (va_Pc av (fun U => va_P D.1 vwCl (wl B N cel T M) U.heap ∧ KK D U)) (va_Qv (Pw2 post) (Bw D B N cel) (Fr B N)) 0 0 (Fr B N)
def Cr (l : Launch) (D : DX) (B N : Nat) (cel : Cel) (y : MethodName) (cc : ByteArray) (mL : Nat) (rt : Option FieldType) (d : Nat) (av : List Value) (T : Int64) (M : Mem) (a : Nat) (post : Int64 → Mem → Prop) : Prop := Met l y (Cond.code y cc mL rt :: gtb) { frames := d, cells := 0, slots := 0, locals := 40 * d } (va_Pc av (fun U => va_P D.1 vwCl (wl B N cel T M) U.heap ∧ KK D U)) (va_Qr (Pw2 post) (Bw1 D B N cel a) (Fr B N)) 0 0 (Fr B N)
theorem gtbSub {ws : List Cond} : GoodIn (gtb) gtb := fun w h => ⟨h, good_of_word (gtbGood h)⟩
theorem gtbCode {y : MethodName} {cc : ByteArray} {mL : Nat} {rt : Option FieldType} (h : Cond.code y cc mL rt ∈ gtb) : GoodIn gtb (Cond.code y cc mL rt :: gtb) := fun w hw => by
  have hw' : w ∈ gtb := by
    rcases List.mem_cons.mp hw with rfl | h1
    · exact h
    · exact h1
  exact ⟨hw', good_of_word (gtbGood hw')⟩
def bI (P : Prop) [Decidable P] : Int32 := if P then nI 1 else nI 0
theorem bI_t {P : Prop} [Decidable P] (h : P) : bI P = nI 1 := if_pos h
theorem bI_f {P : Prop} [Decidable P] (h : ¬ P) : bI P = nI 0 := if_neg h
theorem bI_0 {P : Prop} [Decidable P] : bI P = 0 ↔ ¬ P := by
  by_cases h : P
  · rw [bI_t h]; exact ⟨fun e => absurd e (by decide), fun e => absurd h e⟩
  · rw [bI_f h]; exact ⟨fun _ => h, fun _ => by decide⟩
theorem bI_nar {P : Prop} [Decidable P] : narrow .boolean (.int (bI P)) = .int (bI P) := by
  by_cases h : P <;> simp only [bI, h, if_true, if_false] <;> rfl
theorem setR_same (M : Mem) (k : Nat) : setR M k (M k) = M := by
  funext i
  by_cases h : i = k <;> simp [setR, h]
theorem sw4 (x : Int32) : (x.toInt < 0 ∨ 3 < x.toInt) ∨ x = nI 0 ∨ x = nI 1 ∨ x = nI 2 ∨ x = nI 3 := by
  by_cases h : x.toInt < 0 ∨ 3 < x.toInt
  · exact Or.inl h
  · refine Or.inr ?_
    rcases (show x.toInt = 0 ∨ x.toInt = 1 ∨ x.toInt = 2 ∨ x.toInt = 3 by omega) with e | e | e | e <;> simp [← Int32.toInt_inj, e, nI]
theorem sw5 (x : Int32) : (x.toInt < 0 ∨ 4 < x.toInt) ∨ x = nI 0 ∨ x = nI 1 ∨ x = nI 2 ∨ x = nI 3 ∨ x = nI 4 := by
  by_cases h : x.toInt < 0 ∨ 4 < x.toInt
  · exact Or.inl h
  · refine Or.inr ?_
    rcases (show x.toInt = 0 ∨ x.toInt = 1 ∨ x.toInt = 2 ∨ x.toInt = 3 ∨ x.toInt = 4 by omega) with e | e | e | e | e <;> simp [← Int32.toInt_inj, e, nI]
theorem sw6 (x : Int32) : (x.toInt < 0 ∨ 5 < x.toInt) ∨ x = nI 0 ∨ x = nI 1 ∨ x = nI 2 ∨ x = nI 3 ∨ x = nI 4 ∨ x = nI 5 := by
  by_cases h : x.toInt < 0 ∨ 5 < x.toInt
  · exact Or.inl h
  · refine Or.inr ?_
    rcases (show x.toInt = 0 ∨ x.toInt = 1 ∨ x.toInt = 2 ∨ x.toInt = 3 ∨ x.toInt = 4 ∨ x.toInt = 5 by omega) with e | e | e | e | e | e <;> simp [← Int32.toInt_inj, e, nI]
section GR
variable {p : Program} {l : Launch} {e : Env} {R : Room} {s : State} {m : MethodId} {args : Array Value} {below : List Frame} {meth : Method} {c : Code} {cc : ByteArray} {nL : Nat} {rt : Option FieldType} {own : String} {D : DX} {B N : Nat} {cel : Cel} {Q : State → Prop} {T : Int64} {M : Mem} {pc pc1 : Nat} {L : List (Nat × Value)} {st : List Value}
theorem g_iconst (F : Fx p m meth c cc nL rt s args own D) {n : Int} (v : Int32) (hd : De cc pc (.iconst n) 1 pc1) (hv : Int32.ofInt n = v) (k : G p l e R s m args below meth c nL D B N cel Q T M pc1 L (.int v :: st)) : G p l e R s m args below meth c nL D B N cel Q T M pc L st := by
  obtain ⟨hd, rfl⟩ := hd
  exact fun H locs ls hP hS hl => lv_iconst F.1 F.2.1 hd hv (k H locs ls hP hS hl)
theorem g_bipush (F : Fx p m meth c cc nL rt s args own D) {n : Int} (v : Int32) (hd : De cc pc (.bipush n) 2 pc1) (hv : (Int8.ofInt n).toInt32 = v) (k : G p l e R s m args below meth c nL D B N cel Q T M pc1 L (.int v :: st)) : G p l e R s m args below meth c nL D B N cel Q T M pc L st := by
  obtain ⟨hd, rfl⟩ := hd
  exact fun H locs ls hP hS hl => lv_bipush F.1 F.2.1 hd hv (k H locs ls hP hS hl)
theorem g_sipush (F : Fx p m meth c cc nL rt s args own D) {n : Int} (v : Int32) (hd : De cc pc (.sipush n) 3 pc1) (hv : (Int16.ofInt n).toInt32 = v) (k : G p l e R s m args below meth c nL D B N cel Q T M pc1 L (.int v :: st)) : G p l e R s m args below meth c nL D B N cel Q T M pc L st := by
  obtain ⟨hd, rfl⟩ := hd
  exact fun H locs ls hP hS hl => lv_sipush F.1 F.2.1 hd hv (k H locs ls hP hS hl)
theorem g_lconst (F : Fx p m meth c cc nL rt s args own D) {n : Fin 2} (v : Int64) (hd : De cc pc (.lconst n) 1 pc1) (hv : Int64.ofNat (n : Nat) = v) (k : G p l e R s m args below meth c nL D B N cel Q T M pc1 L (.long v :: st)) : G p l e R s m args below meth c nL D B N cel Q T M pc L st := by
  obtain ⟨hd, rfl⟩ := hd
  exact fun H locs ls hP hS hl => lv_lconst F.1 F.2.1 hd hv (k H locs ls hP hS hl)
theorem g_ldc (F : Fx p m meth c cc nL rt s args own D) {ix : Nat} {v : Int32} (hd : De cc pc (.ldc ix) 2 pc1) (hw : Cond.constant own ix v ∈ gtb) (k : G p l e R s m args below meth c nL D B N cel Q T M pc1 L (.int v :: st)) : G p l e R s m args below meth c nL D B N cel Q T M pc L st := by
  obtain ⟨hd, rfl⟩ := hd
  exact fun H locs ls hP hS hl => lv_ldc F.1 F.2.1 F.2.2.2.1 (F.2.2.2.2.1 _ hw) hd (k H locs ls hP hS hl)
theorem g_ldc2 (F : Fx p m meth c cc nL rt s args own D) {ix : Nat} {v : Int64} (hd : De cc pc (.ldc2_w ix) 3 pc1) (hw : Cond.constantLong own ix v ∈ gtb) (k : G p l e R s m args below meth c nL D B N cel Q T M pc1 L (.long v :: st)) : G p l e R s m args below meth c nL D B N cel Q T M pc L st := by
  obtain ⟨hd, rfl⟩ := hd
  exact fun H locs ls hP hS hl => lv_ldc2 F.1 F.2.1 F.2.2.2.1 (F.2.2.2.2.1 _ hw) hd (k H locs ls hP hS hl)
theorem g_iload_n (F : Fx p m meth c cc nL rt s args own D) {i : Fin 4} {x : Int32} (q : Nat) (hd : De cc pc (.iload_n i) 1 pc1) (hq : L[q]? = some ((i : Nat), .int x)) (k : G p l e R s m args below meth c nL D B N cel Q T M pc1 L (.int x :: st)) : G p l e R s m args below meth c nL D B N cel Q T M pc L st := by
  obtain ⟨hd, rfl⟩ := hd
  exact fun H locs ls hP hS hl => lv_iload_n F.1 F.2.1 hd rfl (lv_at hl q hq) (k H locs ls hP hS hl)
theorem g_iload (F : Fx p m meth c cc nL rt s args own D) {i : Nat} {x : Int32} (q : Nat) (hd : De cc pc (.iload i) 2 pc1) (hq : L[q]? = some (i, .int x)) (k : G p l e R s m args below meth c nL D B N cel Q T M pc1 L (.int x :: st)) : G p l e R s m args below meth c nL D B N cel Q T M pc L st := by
  obtain ⟨hd, rfl⟩ := hd
  exact fun H locs ls hP hS hl => lv_iload F.1 F.2.1 hd (lv_at hl q hq) (k H locs ls hP hS hl)
theorem g_istore_n (F : Fx p m meth c cc nL rt s args own D) {i : Fin 4} {x : Int32} (L1 : List (Nat × Value)) (hd : De cc pc (.istore_n i) 1 pc1) (hn : (i : Nat) < nL) (hL : ((i : Nat), Value.int x) :: L.filter (fun q => !(q.1 == (i : Nat)) && !(q.1 + 1 == (i : Nat) && q.2.category == 2)) = L1) (k : G p l e R s m args below meth c nL D B N cel Q T M pc1 L1 st) : G p l e R s m args below meth c nL D B N cel Q T M pc L (.int x :: st) := by
  obtain ⟨hd, rfl⟩ := hd
  exact fun H locs ls hP hS hl => lv_istore_n F.1 F.2.1 hd rfl hl hn hL (fun ls hl => k H locs ls hP hS hl)
theorem g_istore (F : Fx p m meth c cc nL rt s args own D) {i : Nat} {x : Int32} (L1 : List (Nat × Value)) (hd : De cc pc (.istore i) 2 pc1) (hn : i < nL) (hL : (i, Value.int x) :: L.filter (fun q => !(q.1 == i) && !(q.1 + 1 == i && q.2.category == 2)) = L1) (k : G p l e R s m args below meth c nL D B N cel Q T M pc1 L1 st) : G p l e R s m args below meth c nL D B N cel Q T M pc L (.int x :: st) := by
  obtain ⟨hd, rfl⟩ := hd
  exact fun H locs ls hP hS hl => lv_istore F.1 F.2.1 hd hl hn hL (fun ls hl => k H locs ls hP hS hl)
theorem g_aload_n (F : Fx p m meth c cc nL rt s args own D) {i : Fin 4} {x : Nat} (q : Nat) (hd : De cc pc (.aload_n i) 1 pc1) (hq : L[q]? = some ((i : Nat), .ref x)) (k : G p l e R s m args below meth c nL D B N cel Q T M pc1 L (.ref x :: st)) : G p l e R s m args below meth c nL D B N cel Q T M pc L st := by
  obtain ⟨hd, rfl⟩ := hd
  exact fun H locs ls hP hS hl => lv_aload_n F.1 F.2.1 hd rfl (lv_at hl q hq) (k H locs ls hP hS hl)
theorem g_aload (F : Fx p m meth c cc nL rt s args own D) {i : Nat} {x : Nat} (q : Nat) (hd : De cc pc (.aload i) 2 pc1) (hq : L[q]? = some (i, .ref x)) (k : G p l e R s m args below meth c nL D B N cel Q T M pc1 L (.ref x :: st)) : G p l e R s m args below meth c nL D B N cel Q T M pc L st := by
  obtain ⟨hd, rfl⟩ := hd
  exact fun H locs ls hP hS hl => lv_aload F.1 F.2.1 hd (lv_at hl q hq) (k H locs ls hP hS hl)
theorem g_astore_n (F : Fx p m meth c cc nL rt s args own D) {i : Fin 4} {x : Nat} (L1 : List (Nat × Value)) (hd : De cc pc (.astore_n i) 1 pc1) (hn : (i : Nat) < nL) (hL : ((i : Nat), Value.ref x) :: L.filter (fun q => !(q.1 == (i : Nat)) && !(q.1 + 1 == (i : Nat) && q.2.category == 2)) = L1) (k : G p l e R s m args below meth c nL D B N cel Q T M pc1 L1 st) : G p l e R s m args below meth c nL D B N cel Q T M pc L (.ref x :: st) := by
  obtain ⟨hd, rfl⟩ := hd
  exact fun H locs ls hP hS hl => lv_astore_n F.1 F.2.1 hd rfl hl hn hL (fun ls hl => k H locs ls hP hS hl)
theorem g_astore (F : Fx p m meth c cc nL rt s args own D) {i : Nat} {x : Nat} (L1 : List (Nat × Value)) (hd : De cc pc (.astore i) 2 pc1) (hn : i < nL) (hL : (i, Value.ref x) :: L.filter (fun q => !(q.1 == i) && !(q.1 + 1 == i && q.2.category == 2)) = L1) (k : G p l e R s m args below meth c nL D B N cel Q T M pc1 L1 st) : G p l e R s m args below meth c nL D B N cel Q T M pc L (.ref x :: st) := by
  obtain ⟨hd, rfl⟩ := hd
  exact fun H locs ls hP hS hl => lv_astore F.1 F.2.1 hd hl hn hL (fun ls hl => k H locs ls hP hS hl)
theorem g_iinc (F : Fx p m meth c cc nL rt s args own D) {i : Nat} {n : Int} {x : Int32} (q : Nat) (v : Int32) (L1 : List (Nat × Value)) (hd : De cc pc (.iinc i n) 3 pc1) (hq : L[q]? = some (i, .int x)) (hv : x + Int32.ofInt n = v) (hn : i < nL) (hL : (i, Value.int v) :: L.filter (fun q => !(q.1 == i) && !(q.1 + 1 == i && q.2.category == 2)) = L1) (k : G p l e R s m args below meth c nL D B N cel Q T M pc1 L1 st) : G p l e R s m args below meth c nL D B N cel Q T M pc L st := by
  obtain ⟨hd, rfl⟩ := hd
  exact fun H locs ls hP hS hl => lv_iinc F.1 F.2.1 hd hl hq hv hn hL (fun ls hl => k H locs ls hP hS hl)
theorem g_iadd (F : Fx p m meth c cc nL rt s args own D) {x y : Int32} (hd : De cc pc (.iadd) 1 pc1) (k : G p l e R s m args below meth c nL D B N cel Q T M pc1 L (.int (x + y) :: st)) : G p l e R s m args below meth c nL D B N cel Q T M pc L (.int y :: .int x :: st) := by
  obtain ⟨hd, rfl⟩ := hd
  exact fun H locs ls hP hS hl => lv_iadd F.1 F.2.1 hd (k H locs ls hP hS hl)
theorem g_iaddE (F : Fx p m meth c cc nL rt s args own D) {x y : Int32} (z : Int32) (hd : De cc pc (.iadd) 1 pc1) (hz : z = x + y) (k : G p l e R s m args below meth c nL D B N cel Q T M pc1 L (.int z :: st)) : G p l e R s m args below meth c nL D B N cel Q T M pc L (.int y :: .int x :: st) := by
  obtain ⟨hd, rfl⟩ := hd
  exact fun H locs ls hP hS hl => lv_iadd F.1 F.2.1 hd (hz ▸ (k H locs ls hP hS hl))
theorem g_isub (F : Fx p m meth c cc nL rt s args own D) {x y : Int32} (hd : De cc pc (.isub) 1 pc1) (k : G p l e R s m args below meth c nL D B N cel Q T M pc1 L (.int (x - y) :: st)) : G p l e R s m args below meth c nL D B N cel Q T M pc L (.int y :: .int x :: st) := by
  obtain ⟨hd, rfl⟩ := hd
  exact fun H locs ls hP hS hl => lv_isub F.1 F.2.1 hd (k H locs ls hP hS hl)
theorem g_isubE (F : Fx p m meth c cc nL rt s args own D) {x y : Int32} (z : Int32) (hd : De cc pc (.isub) 1 pc1) (hz : z = x - y) (k : G p l e R s m args below meth c nL D B N cel Q T M pc1 L (.int z :: st)) : G p l e R s m args below meth c nL D B N cel Q T M pc L (.int y :: .int x :: st) := by
  obtain ⟨hd, rfl⟩ := hd
  exact fun H locs ls hP hS hl => lv_isub F.1 F.2.1 hd (hz ▸ (k H locs ls hP hS hl))
theorem g_imul (F : Fx p m meth c cc nL rt s args own D) {x y : Int32} (hd : De cc pc (.imul) 1 pc1) (k : G p l e R s m args below meth c nL D B N cel Q T M pc1 L (.int (x * y) :: st)) : G p l e R s m args below meth c nL D B N cel Q T M pc L (.int y :: .int x :: st) := by
  obtain ⟨hd, rfl⟩ := hd
  exact fun H locs ls hP hS hl => lv_imul F.1 F.2.1 hd (k H locs ls hP hS hl)
theorem g_imulE (F : Fx p m meth c cc nL rt s args own D) {x y : Int32} (z : Int32) (hd : De cc pc (.imul) 1 pc1) (hz : z = x * y) (k : G p l e R s m args below meth c nL D B N cel Q T M pc1 L (.int z :: st)) : G p l e R s m args below meth c nL D B N cel Q T M pc L (.int y :: .int x :: st) := by
  obtain ⟨hd, rfl⟩ := hd
  exact fun H locs ls hP hS hl => lv_imul F.1 F.2.1 hd (hz ▸ (k H locs ls hP hS hl))
theorem g_iand (F : Fx p m meth c cc nL rt s args own D) {x y : Int32} (hd : De cc pc (.iand) 1 pc1) (k : G p l e R s m args below meth c nL D B N cel Q T M pc1 L (.int (x &&& y) :: st)) : G p l e R s m args below meth c nL D B N cel Q T M pc L (.int y :: .int x :: st) := by
  obtain ⟨hd, rfl⟩ := hd
  exact fun H locs ls hP hS hl => lv_iand F.1 F.2.1 hd (k H locs ls hP hS hl)
theorem g_iandE (F : Fx p m meth c cc nL rt s args own D) {x y : Int32} (z : Int32) (hd : De cc pc (.iand) 1 pc1) (hz : z = x &&& y) (k : G p l e R s m args below meth c nL D B N cel Q T M pc1 L (.int z :: st)) : G p l e R s m args below meth c nL D B N cel Q T M pc L (.int y :: .int x :: st) := by
  obtain ⟨hd, rfl⟩ := hd
  exact fun H locs ls hP hS hl => lv_iand F.1 F.2.1 hd (hz ▸ (k H locs ls hP hS hl))
theorem g_ior (F : Fx p m meth c cc nL rt s args own D) {x y : Int32} (hd : De cc pc (.ior) 1 pc1) (k : G p l e R s m args below meth c nL D B N cel Q T M pc1 L (.int (x ||| y) :: st)) : G p l e R s m args below meth c nL D B N cel Q T M pc L (.int y :: .int x :: st) := by
  obtain ⟨hd, rfl⟩ := hd
  exact fun H locs ls hP hS hl => lv_ior F.1 F.2.1 hd (k H locs ls hP hS hl)
theorem g_iorE (F : Fx p m meth c cc nL rt s args own D) {x y : Int32} (z : Int32) (hd : De cc pc (.ior) 1 pc1) (hz : z = x ||| y) (k : G p l e R s m args below meth c nL D B N cel Q T M pc1 L (.int z :: st)) : G p l e R s m args below meth c nL D B N cel Q T M pc L (.int y :: .int x :: st) := by
  obtain ⟨hd, rfl⟩ := hd
  exact fun H locs ls hP hS hl => lv_ior F.1 F.2.1 hd (hz ▸ (k H locs ls hP hS hl))
theorem g_ishl (F : Fx p m meth c cc nL rt s args own D) {x y : Int32} (hd : De cc pc (.ishl) 1 pc1) (k : G p l e R s m args below meth c nL D B N cel Q T M pc1 L (.int (x <<< (y &&& 31)) :: st)) : G p l e R s m args below meth c nL D B N cel Q T M pc L (.int y :: .int x :: st) := by
  obtain ⟨hd, rfl⟩ := hd
  exact fun H locs ls hP hS hl => lv_ishl F.1 F.2.1 hd (k H locs ls hP hS hl)
theorem g_ishlE (F : Fx p m meth c cc nL rt s args own D) {x y : Int32} (z : Int32) (hd : De cc pc (.ishl) 1 pc1) (hz : z = x <<< (y &&& 31)) (k : G p l e R s m args below meth c nL D B N cel Q T M pc1 L (.int z :: st)) : G p l e R s m args below meth c nL D B N cel Q T M pc L (.int y :: .int x :: st) := by
  obtain ⟨hd, rfl⟩ := hd
  exact fun H locs ls hP hS hl => lv_ishl F.1 F.2.1 hd (hz ▸ (k H locs ls hP hS hl))
theorem g_ladd (F : Fx p m meth c cc nL rt s args own D) {x y : Int64} (hd : De cc pc (.ladd) 1 pc1) (k : G p l e R s m args below meth c nL D B N cel Q T M pc1 L (.long (x + y) :: st)) : G p l e R s m args below meth c nL D B N cel Q T M pc L (.long y :: .long x :: st) := by
  obtain ⟨hd, rfl⟩ := hd
  exact fun H locs ls hP hS hl => lv_ladd F.1 F.2.1 hd (k H locs ls hP hS hl)
theorem g_idiv (F : Fx p m meth c cc nL rt s args own D) {x y : Int32} (hd : De cc pc (.idiv) 1 pc1) (hne : ¬ y = 0) (k : G p l e R s m args below meth c nL D B N cel Q T M pc1 L (.int (x / y) :: st)) : G p l e R s m args below meth c nL D B N cel Q T M pc L (.int y :: .int x :: st) := by
  obtain ⟨hd, rfl⟩ := hd
  exact fun H locs ls hP hS hl => lv_idiv F.1 F.2.1 hd hne (k H locs ls hP hS hl)
theorem g_idivE (F : Fx p m meth c cc nL rt s args own D) {x y : Int32} (z : Int32) (hd : De cc pc (.idiv) 1 pc1) (hne : ¬ y = 0) (hz : z = x / y) (k : G p l e R s m args below meth c nL D B N cel Q T M pc1 L (.int z :: st)) : G p l e R s m args below meth c nL D B N cel Q T M pc L (.int y :: .int x :: st) := by
  obtain ⟨hd, rfl⟩ := hd
  exact fun H locs ls hP hS hl => lv_idiv F.1 F.2.1 hd hne (hz ▸ (k H locs ls hP hS hl))
theorem g_irem (F : Fx p m meth c cc nL rt s args own D) {x y : Int32} (hd : De cc pc (.irem) 1 pc1) (hne : ¬ y = 0) (k : G p l e R s m args below meth c nL D B N cel Q T M pc1 L (.int (x - x / y * y) :: st)) : G p l e R s m args below meth c nL D B N cel Q T M pc L (.int y :: .int x :: st) := by
  obtain ⟨hd, rfl⟩ := hd
  exact fun H locs ls hP hS hl => lv_irem F.1 F.2.1 hd hne (k H locs ls hP hS hl)
theorem g_iremE (F : Fx p m meth c cc nL rt s args own D) {x y : Int32} (z : Int32) (hd : De cc pc (.irem) 1 pc1) (hne : ¬ y = 0) (hz : z = x - x / y * y) (k : G p l e R s m args below meth c nL D B N cel Q T M pc1 L (.int z :: st)) : G p l e R s m args below meth c nL D B N cel Q T M pc L (.int y :: .int x :: st) := by
  obtain ⟨hd, rfl⟩ := hd
  exact fun H locs ls hP hS hl => lv_irem F.1 F.2.1 hd hne (hz ▸ (k H locs ls hP hS hl))
theorem g_iaddN (F : Fx p m meth c cc nL rt s args own D) {a b : Nat} (hd : De cc pc (.iadd) 1 pc1) (k : G p l e R s m args below meth c nL D B N cel Q T M pc1 L (.int (nI (a + b)) :: st)) : G p l e R s m args below meth c nL D B N cel Q T M pc L (.int (nI b) :: .int (nI a) :: st) := g_iaddE F (nI (a + b)) hd (nI_add a b).symm k
theorem g_iadd0 (F : Fx p m meth c cc nL rt s args own D) {b : Nat} (hd : De cc pc (.iadd) 1 pc1) (k : G p l e R s m args below meth c nL D B N cel Q T M pc1 L (.int (nI b) :: st)) : G p l e R s m args below meth c nL D B N cel Q T M pc L (.int (nI b) :: .int (nI 0) :: st) := g_iaddE F (nI b) hd (by rw [nI_add, Nat.zero_add]) k
theorem g_imulN (F : Fx p m meth c cc nL rt s args own D) {a b : Nat} (hd : De cc pc (.imul) 1 pc1) (k : G p l e R s m args below meth c nL D B N cel Q T M pc1 L (.int (nI (a * b)) :: st)) : G p l e R s m args below meth c nL D B N cel Q T M pc L (.int (nI b) :: .int (nI a) :: st) := g_imulE F (nI (a * b)) hd (pk_mul a b).symm k
theorem g_isubN (F : Fx p m meth c cc nL rt s args own D) {a b : Nat} (hd : De cc pc (.isub) 1 pc1) (h : b ≤ a) (k : G p l e R s m args below meth c nL D B N cel Q T M pc1 L (.int (nI (a - b)) :: st)) : G p l e R s m args below meth c nL D B N cel Q T M pc L (.int (nI b) :: .int (nI a) :: st) := g_isubE F (nI (a - b)) hd (pk_sub h).symm k
theorem g_idivN (F : Fx p m meth c cc nL rt s args own D) {a b : Nat} (hd : De cc pc (.idiv) 1 pc1) (ha : a < 2 ^ 31) (h0 : 0 < b) (hb : b < 2 ^ 31) (k : G p l e R s m args below meth c nL D B N cel Q T M pc1 L (.int (nI (a / b)) :: st)) : G p l e R s m args below meth c nL D B N cel Q T M pc L (.int (nI b) :: .int (nI a) :: st) := g_idivE F (nI (a / b)) hd (nI_ne0 h0 hb) (pk_div ha h0 hb).symm k
theorem g_iremN (F : Fx p m meth c cc nL rt s args own D) {a b : Nat} (hd : De cc pc (.irem) 1 pc1) (ha : a < 2 ^ 31) (h0 : 0 < b) (hb : b < 2 ^ 31) (k : G p l e R s m args below meth c nL D B N cel Q T M pc1 L (.int (nI (a % b)) :: st)) : G p l e R s m args below meth c nL D B N cel Q T M pc L (.int (nI b) :: .int (nI a) :: st) := g_iremE F (nI (a % b)) hd (nI_ne0 h0 hb) (pk_rem ha h0 hb).symm k
theorem g_dup (F : Fx p m meth c cc nL rt s args own D) {v : Value} (hd : De cc pc (.dup) 1 pc1) (hv : v.category = 1) (k : G p l e R s m args below meth c nL D B N cel Q T M pc1 L (v :: v :: st)) : G p l e R s m args below meth c nL D B N cel Q T M pc L (v :: st) := by
  obtain ⟨hd, rfl⟩ := hd
  exact fun H locs ls hP hS hl => lv_dup F.1 F.2.1 hd hv (k H locs ls hP hS hl)
theorem g_pop (F : Fx p m meth c cc nL rt s args own D) {v : Value} (hd : De cc pc (.pop) 1 pc1) (hv : v.category = 1) (k : G p l e R s m args below meth c nL D B N cel Q T M pc1 L st) : G p l e R s m args below meth c nL D B N cel Q T M pc L (v :: st) := by
  obtain ⟨hd, rfl⟩ := hd
  exact fun H locs ls hP hS hl => lv_pop F.1 F.2.1 hd hv (k H locs ls hP hS hl)
theorem g_dup2 (F : Fx p m meth c cc nL rt s args own D) {v w : Value} (hd : De cc pc (.dup2) 1 pc1) (hv : v.category = 1) (hw : w.category = 1) (k : G p l e R s m args below meth c nL D B N cel Q T M pc1 L (v :: w :: v :: w :: st)) : G p l e R s m args below meth c nL D B N cel Q T M pc L (v :: w :: st) := by
  obtain ⟨hd, rfl⟩ := hd
  exact fun H locs ls hP hS hl => lv_dup2_11 F.1 F.2.1 hd hv hw (k H locs ls hP hS hl)
theorem g_if_eq (F : Fx p m meth c cc nL rt s args own D) {x : Int32} {off : Int} (tgt : Nat) (hd : De cc pc (.ifCond .eq off) 3 pc1) (ht : (pc : Int) + off = (tgt : Int)) (kt : x = 0 → G p l e R s m args below meth c nL D B N cel Q T M tgt L st) (kf : ¬ x = 0 → G p l e R s m args below meth c nL D B N cel Q T M pc1 L st) : G p l e R s m args below meth c nL D B N cel Q T M pc L (.int x :: st) := by
  obtain ⟨hd, rfl⟩ := hd
  exact fun H locs ls hP hS hl => lv_if_eq F.1 F.2.1 hd ht (fun h => kt h H locs ls hP hS hl) (fun h => kf h H locs ls hP hS hl)
theorem g_icmp_eq (F : Fx p m meth c cc nL rt s args own D) {x y : Int32} {off : Int} (tgt : Nat) (hd : De cc pc (.if_icmp .eq off) 3 pc1) (ht : (pc : Int) + off = (tgt : Int)) (kt : x = y → G p l e R s m args below meth c nL D B N cel Q T M tgt L st) (kf : ¬ x = y → G p l e R s m args below meth c nL D B N cel Q T M pc1 L st) : G p l e R s m args below meth c nL D B N cel Q T M pc L (.int y :: .int x :: st) := by
  obtain ⟨hd, rfl⟩ := hd
  exact fun H locs ls hP hS hl => lv_icmp_eq F.1 F.2.1 hd ht (fun h => kt h H locs ls hP hS hl) (fun h => kf h H locs ls hP hS hl)
theorem g_if_ne (F : Fx p m meth c cc nL rt s args own D) {x : Int32} {off : Int} (tgt : Nat) (hd : De cc pc (.ifCond .ne off) 3 pc1) (ht : (pc : Int) + off = (tgt : Int)) (kt : ¬ x = 0 → G p l e R s m args below meth c nL D B N cel Q T M tgt L st) (kf : x = 0 → G p l e R s m args below meth c nL D B N cel Q T M pc1 L st) : G p l e R s m args below meth c nL D B N cel Q T M pc L (.int x :: st) := by
  obtain ⟨hd, rfl⟩ := hd
  exact fun H locs ls hP hS hl => lv_if_ne F.1 F.2.1 hd ht (fun h => kt h H locs ls hP hS hl) (fun h => kf h H locs ls hP hS hl)
theorem g_icmp_ne (F : Fx p m meth c cc nL rt s args own D) {x y : Int32} {off : Int} (tgt : Nat) (hd : De cc pc (.if_icmp .ne off) 3 pc1) (ht : (pc : Int) + off = (tgt : Int)) (kt : ¬ x = y → G p l e R s m args below meth c nL D B N cel Q T M tgt L st) (kf : x = y → G p l e R s m args below meth c nL D B N cel Q T M pc1 L st) : G p l e R s m args below meth c nL D B N cel Q T M pc L (.int y :: .int x :: st) := by
  obtain ⟨hd, rfl⟩ := hd
  exact fun H locs ls hP hS hl => lv_icmp_ne F.1 F.2.1 hd ht (fun h => kt h H locs ls hP hS hl) (fun h => kf h H locs ls hP hS hl)
theorem g_if_lt (F : Fx p m meth c cc nL rt s args own D) {x : Int32} {off : Int} (tgt : Nat) (hd : De cc pc (.ifCond .lt off) 3 pc1) (ht : (pc : Int) + off = (tgt : Int)) (kt : x < 0 → G p l e R s m args below meth c nL D B N cel Q T M tgt L st) (kf : ¬ x < 0 → G p l e R s m args below meth c nL D B N cel Q T M pc1 L st) : G p l e R s m args below meth c nL D B N cel Q T M pc L (.int x :: st) := by
  obtain ⟨hd, rfl⟩ := hd
  exact fun H locs ls hP hS hl => lv_if_lt F.1 F.2.1 hd ht (fun h => kt h H locs ls hP hS hl) (fun h => kf h H locs ls hP hS hl)
theorem g_icmp_lt (F : Fx p m meth c cc nL rt s args own D) {x y : Int32} {off : Int} (tgt : Nat) (hd : De cc pc (.if_icmp .lt off) 3 pc1) (ht : (pc : Int) + off = (tgt : Int)) (kt : x < y → G p l e R s m args below meth c nL D B N cel Q T M tgt L st) (kf : ¬ x < y → G p l e R s m args below meth c nL D B N cel Q T M pc1 L st) : G p l e R s m args below meth c nL D B N cel Q T M pc L (.int y :: .int x :: st) := by
  obtain ⟨hd, rfl⟩ := hd
  exact fun H locs ls hP hS hl => lv_icmp_lt F.1 F.2.1 hd ht (fun h => kt h H locs ls hP hS hl) (fun h => kf h H locs ls hP hS hl)
theorem g_if_ge (F : Fx p m meth c cc nL rt s args own D) {x : Int32} {off : Int} (tgt : Nat) (hd : De cc pc (.ifCond .ge off) 3 pc1) (ht : (pc : Int) + off = (tgt : Int)) (kt : 0 ≤ x → G p l e R s m args below meth c nL D B N cel Q T M tgt L st) (kf : ¬ 0 ≤ x → G p l e R s m args below meth c nL D B N cel Q T M pc1 L st) : G p l e R s m args below meth c nL D B N cel Q T M pc L (.int x :: st) := by
  obtain ⟨hd, rfl⟩ := hd
  exact fun H locs ls hP hS hl => lv_if_ge F.1 F.2.1 hd ht (fun h => kt h H locs ls hP hS hl) (fun h => kf h H locs ls hP hS hl)
theorem g_icmp_ge (F : Fx p m meth c cc nL rt s args own D) {x y : Int32} {off : Int} (tgt : Nat) (hd : De cc pc (.if_icmp .ge off) 3 pc1) (ht : (pc : Int) + off = (tgt : Int)) (kt : y ≤ x → G p l e R s m args below meth c nL D B N cel Q T M tgt L st) (kf : ¬ y ≤ x → G p l e R s m args below meth c nL D B N cel Q T M pc1 L st) : G p l e R s m args below meth c nL D B N cel Q T M pc L (.int y :: .int x :: st) := by
  obtain ⟨hd, rfl⟩ := hd
  exact fun H locs ls hP hS hl => lv_icmp_ge F.1 F.2.1 hd ht (fun h => kt h H locs ls hP hS hl) (fun h => kf h H locs ls hP hS hl)
theorem g_if_gt (F : Fx p m meth c cc nL rt s args own D) {x : Int32} {off : Int} (tgt : Nat) (hd : De cc pc (.ifCond .gt off) 3 pc1) (ht : (pc : Int) + off = (tgt : Int)) (kt : 0 < x → G p l e R s m args below meth c nL D B N cel Q T M tgt L st) (kf : ¬ 0 < x → G p l e R s m args below meth c nL D B N cel Q T M pc1 L st) : G p l e R s m args below meth c nL D B N cel Q T M pc L (.int x :: st) := by
  obtain ⟨hd, rfl⟩ := hd
  exact fun H locs ls hP hS hl => lv_if_gt F.1 F.2.1 hd ht (fun h => kt h H locs ls hP hS hl) (fun h => kf h H locs ls hP hS hl)
theorem g_icmp_gt (F : Fx p m meth c cc nL rt s args own D) {x y : Int32} {off : Int} (tgt : Nat) (hd : De cc pc (.if_icmp .gt off) 3 pc1) (ht : (pc : Int) + off = (tgt : Int)) (kt : y < x → G p l e R s m args below meth c nL D B N cel Q T M tgt L st) (kf : ¬ y < x → G p l e R s m args below meth c nL D B N cel Q T M pc1 L st) : G p l e R s m args below meth c nL D B N cel Q T M pc L (.int y :: .int x :: st) := by
  obtain ⟨hd, rfl⟩ := hd
  exact fun H locs ls hP hS hl => lv_icmp_gt F.1 F.2.1 hd ht (fun h => kt h H locs ls hP hS hl) (fun h => kf h H locs ls hP hS hl)
theorem g_if_le (F : Fx p m meth c cc nL rt s args own D) {x : Int32} {off : Int} (tgt : Nat) (hd : De cc pc (.ifCond .le off) 3 pc1) (ht : (pc : Int) + off = (tgt : Int)) (kt : x ≤ 0 → G p l e R s m args below meth c nL D B N cel Q T M tgt L st) (kf : ¬ x ≤ 0 → G p l e R s m args below meth c nL D B N cel Q T M pc1 L st) : G p l e R s m args below meth c nL D B N cel Q T M pc L (.int x :: st) := by
  obtain ⟨hd, rfl⟩ := hd
  exact fun H locs ls hP hS hl => lv_if_le F.1 F.2.1 hd ht (fun h => kt h H locs ls hP hS hl) (fun h => kf h H locs ls hP hS hl)
theorem g_icmp_le (F : Fx p m meth c cc nL rt s args own D) {x y : Int32} {off : Int} (tgt : Nat) (hd : De cc pc (.if_icmp .le off) 3 pc1) (ht : (pc : Int) + off = (tgt : Int)) (kt : x ≤ y → G p l e R s m args below meth c nL D B N cel Q T M tgt L st) (kf : ¬ x ≤ y → G p l e R s m args below meth c nL D B N cel Q T M pc1 L st) : G p l e R s m args below meth c nL D B N cel Q T M pc L (.int y :: .int x :: st) := by
  obtain ⟨hd, rfl⟩ := hd
  exact fun H locs ls hP hS hl => lv_icmp_le F.1 F.2.1 hd ht (fun h => kt h H locs ls hP hS hl) (fun h => kf h H locs ls hP hS hl)
theorem g_top {x y : Int32} (h : x = y) (k : G p l e R s m args below meth c nL D B N cel Q T M pc L (.int y :: st)) : G p l e R s m args below meth c nL D B N cel Q T M pc L (.int x :: st) := h ▸ k
theorem g_if_eqN (F : Fx p m meth c cc nL rt s args own D) {a : Nat} {off : Int} (tgt : Nat) (hd : De cc pc (.ifCond .eq off) 3 pc1) (ht : (pc : Int) + off = (tgt : Int)) (ha : a < 2 ^ 31) (kt : a = 0 → G p l e R s m args below meth c nL D B N cel Q T M tgt L st) (kf : ¬ a = 0 → G p l e R s m args below meth c nL D B N cel Q T M pc1 L st) : G p l e R s m args below meth c nL D B N cel Q T M pc L (.int (nI a) :: st) := g_if_eq F tgt hd ht (fun h => kt (by simpa [← nI_0, nI_eq ha (show 0 < 2 ^ 31 by decide)] using h)) (fun h => kf (by simpa [← nI_0, nI_eq ha (show 0 < 2 ^ 31 by decide)] using h))
theorem g_if_eqB (F : Fx p m meth c cc nL rt s args own D) {P : Prop} [Decidable P] {off : Int} (tgt : Nat) (hd : De cc pc (.ifCond .eq off) 3 pc1) (ht : (pc : Int) + off = (tgt : Int)) (kt : ¬ P → G p l e R s m args below meth c nL D B N cel Q T M tgt L st) (kf : P → G p l e R s m args below meth c nL D B N cel Q T M pc1 L st) : G p l e R s m args below meth c nL D B N cel Q T M pc L (.int (bI P) :: st) := g_if_eq F tgt hd ht (fun h => kt (by first | exact bI_0.mp h | exact Decidable.not_not.mp (fun q => h (bI_0.mpr q)))) (fun h => kf (by first | exact bI_0.mp h | exact Decidable.not_not.mp (fun q => h (bI_0.mpr q))))
theorem g_icmp_eqN (F : Fx p m meth c cc nL rt s args own D) {a b : Nat} {off : Int} (tgt : Nat) (hd : De cc pc (.if_icmp .eq off) 3 pc1) (ht : (pc : Int) + off = (tgt : Int)) (ha : a < 2 ^ 31) (hb : b < 2 ^ 31) (kt : a = b → G p l e R s m args below meth c nL D B N cel Q T M tgt L st) (kf : ¬ a = b → G p l e R s m args below meth c nL D B N cel Q T M pc1 L st) : G p l e R s m args below meth c nL D B N cel Q T M pc L (.int (nI b) :: .int (nI a) :: st) := g_icmp_eq F tgt hd ht (fun h => kt (by rwa [nI_eq ha hb] at h)) (fun h => kf (by rwa [nI_eq ha hb] at h))
theorem g_if_neN (F : Fx p m meth c cc nL rt s args own D) {a : Nat} {off : Int} (tgt : Nat) (hd : De cc pc (.ifCond .ne off) 3 pc1) (ht : (pc : Int) + off = (tgt : Int)) (ha : a < 2 ^ 31) (kt : ¬ a = 0 → G p l e R s m args below meth c nL D B N cel Q T M tgt L st) (kf : a = 0 → G p l e R s m args below meth c nL D B N cel Q T M pc1 L st) : G p l e R s m args below meth c nL D B N cel Q T M pc L (.int (nI a) :: st) := g_if_ne F tgt hd ht (fun h => kt (by simpa [← nI_0, nI_eq ha (show 0 < 2 ^ 31 by decide)] using h)) (fun h => kf (by simpa [← nI_0, nI_eq ha (show 0 < 2 ^ 31 by decide)] using h))
theorem g_if_neB (F : Fx p m meth c cc nL rt s args own D) {P : Prop} [Decidable P] {off : Int} (tgt : Nat) (hd : De cc pc (.ifCond .ne off) 3 pc1) (ht : (pc : Int) + off = (tgt : Int)) (kt : P → G p l e R s m args below meth c nL D B N cel Q T M tgt L st) (kf : ¬ P → G p l e R s m args below meth c nL D B N cel Q T M pc1 L st) : G p l e R s m args below meth c nL D B N cel Q T M pc L (.int (bI P) :: st) := g_if_ne F tgt hd ht (fun h => kt (by first | exact bI_0.mp h | exact Decidable.not_not.mp (fun q => h (bI_0.mpr q)))) (fun h => kf (by first | exact bI_0.mp h | exact Decidable.not_not.mp (fun q => h (bI_0.mpr q))))
theorem g_icmp_neN (F : Fx p m meth c cc nL rt s args own D) {a b : Nat} {off : Int} (tgt : Nat) (hd : De cc pc (.if_icmp .ne off) 3 pc1) (ht : (pc : Int) + off = (tgt : Int)) (ha : a < 2 ^ 31) (hb : b < 2 ^ 31) (kt : ¬ a = b → G p l e R s m args below meth c nL D B N cel Q T M tgt L st) (kf : a = b → G p l e R s m args below meth c nL D B N cel Q T M pc1 L st) : G p l e R s m args below meth c nL D B N cel Q T M pc L (.int (nI b) :: .int (nI a) :: st) := g_icmp_ne F tgt hd ht (fun h => kt (by rwa [nI_eq ha hb] at h)) (fun h => kf (by rwa [nI_eq ha hb] at h))
theorem g_icmp_ltN (F : Fx p m meth c cc nL rt s args own D) {a b : Nat} {off : Int} (tgt : Nat) (hd : De cc pc (.if_icmp .lt off) 3 pc1) (ht : (pc : Int) + off = (tgt : Int)) (ha : a < 2 ^ 31) (hb : b < 2 ^ 31) (kt : a < b → G p l e R s m args below meth c nL D B N cel Q T M tgt L st) (kf : ¬ a < b → G p l e R s m args below meth c nL D B N cel Q T M pc1 L st) : G p l e R s m args below meth c nL D B N cel Q T M pc L (.int (nI b) :: .int (nI a) :: st) := g_icmp_lt F tgt hd ht (fun h => kt (by rwa [nI_ltI ha hb] at h)) (fun h => kf (by rwa [nI_ltI ha hb] at h))
theorem g_icmp_geN (F : Fx p m meth c cc nL rt s args own D) {a b : Nat} {off : Int} (tgt : Nat) (hd : De cc pc (.if_icmp .ge off) 3 pc1) (ht : (pc : Int) + off = (tgt : Int)) (ha : a < 2 ^ 31) (hb : b < 2 ^ 31) (kt : b ≤ a → G p l e R s m args below meth c nL D B N cel Q T M tgt L st) (kf : ¬ b ≤ a → G p l e R s m args below meth c nL D B N cel Q T M pc1 L st) : G p l e R s m args below meth c nL D B N cel Q T M pc L (.int (nI b) :: .int (nI a) :: st) := g_icmp_ge F tgt hd ht (fun h => kt (by rwa [nI_leI hb ha] at h)) (fun h => kf (by rwa [nI_leI hb ha] at h))
theorem g_icmp_gtN (F : Fx p m meth c cc nL rt s args own D) {a b : Nat} {off : Int} (tgt : Nat) (hd : De cc pc (.if_icmp .gt off) 3 pc1) (ht : (pc : Int) + off = (tgt : Int)) (ha : a < 2 ^ 31) (hb : b < 2 ^ 31) (kt : b < a → G p l e R s m args below meth c nL D B N cel Q T M tgt L st) (kf : ¬ b < a → G p l e R s m args below meth c nL D B N cel Q T M pc1 L st) : G p l e R s m args below meth c nL D B N cel Q T M pc L (.int (nI b) :: .int (nI a) :: st) := g_icmp_gt F tgt hd ht (fun h => kt (by rwa [nI_ltI hb ha] at h)) (fun h => kf (by rwa [nI_ltI hb ha] at h))
theorem g_icmp_leN (F : Fx p m meth c cc nL rt s args own D) {a b : Nat} {off : Int} (tgt : Nat) (hd : De cc pc (.if_icmp .le off) 3 pc1) (ht : (pc : Int) + off = (tgt : Int)) (ha : a < 2 ^ 31) (hb : b < 2 ^ 31) (kt : a ≤ b → G p l e R s m args below meth c nL D B N cel Q T M tgt L st) (kf : ¬ a ≤ b → G p l e R s m args below meth c nL D B N cel Q T M pc1 L st) : G p l e R s m args below meth c nL D B N cel Q T M pc L (.int (nI b) :: .int (nI a) :: st) := g_icmp_le F tgt hd ht (fun h => kt (by rwa [nI_leI ha hb] at h)) (fun h => kf (by rwa [nI_leI ha hb] at h))
theorem g_goto (F : Fx p m meth c cc nL rt s args own D) {off : Int} (tgt : Nat) (hd : De cc pc (.goto off) 3 pc1) (ht : (pc : Int) + off = (tgt : Int)) (k : G p l e R s m args below meth c nL D B N cel Q T M tgt L st) : G p l e R s m args below meth c nL D B N cel Q T M pc L st := fun H locs ls hP hS hl => lv_goto F.1 F.2.1 hd.1 ht (k H locs ls hP hS hl)
theorem g_tabOut (F : Fx p m meth c cc nL rt s args own D) {dflt lo hi : Int} {offs : Array Int} {len : Nat} {x : Int32} (tgt : Nat) (hd : De cc pc (.tableswitch dflt lo hi offs) len pc1) (h : x.toInt < lo ∨ hi < x.toInt) (ht : (pc : Int) + dflt = (tgt : Int)) (k : G p l e R s m args below meth c nL D B N cel Q T M tgt L st) : G p l e R s m args below meth c nL D B N cel Q T M pc L (.int x :: st) := fun H locs ls hP hS hl => lv_tableOut F.1 F.2.1 hd.1 h ht (k H locs ls hP hS hl)
theorem g_tabIn (F : Fx p m meth c cc nL rt s args own D) {dflt lo hi off : Int} {offs : Array Int} {len : Nat} {x : Int32} (tgt : Nat) (hd : De cc pc (.tableswitch dflt lo hi offs) len pc1) (h1 : ¬ x.toInt < lo) (h2 : ¬ hi < x.toInt) (ho : offs[(x.toInt - lo).toNat]? = some off) (ht : (pc : Int) + off = (tgt : Int)) (k : G p l e R s m args below meth c nL D B N cel Q T M tgt L st) : G p l e R s m args below meth c nL D B N cel Q T M pc L (.int x :: st) := fun H locs ls hP hS hl => lv_tableIn F.1 F.2.1 hd.1 h1 h2 ho ht (k H locs ls hP hS hl)
theorem g_look (F : Fx p m meth c cc nL rt s args own D) {dflt off : Int} {ps : Array (Int × Int)} {len : Nat} {x : Int32} (tgt : Nat) (hd : De cc pc (.lookupswitch dflt ps) len pc1) (hp : (ps.toList.zip (ps.toList.drop 1)).all (fun (a, next) => a.1 < next.1) = true) (ho : Op.lookupswitch.offset ps.toList dflt x.toInt = off) (ht : (pc : Int) + off = (tgt : Int)) (k : G p l e R s m args below meth c nL D B N cel Q T M tgt L st) : G p l e R s m args below meth c nL D B N cel Q T M pc L (.int x :: st) := fun H locs ls hP hS hl => lv_lookup F.1 F.2.1 hd.1 hp ho ht (k H locs ls hP hS hl)
theorem g_sub {L1 : List (Nat × Value)} (ks : List Nat) (hL : lv_pick L ks = L1) (k : G p l e R s m args below meth c nL D B N cel Q T M pc L1 st) : G p l e R s m args below meth c nL D B N cel Q T M pc L st := fun H locs ls hP hS hl => k H locs ls hP hS (lv_sub hl ks hL)
theorem g_mem {M1 : Mem} (hM : M = M1) (k : G p l e R s m args below meth c nL D B N cel Q T M1 pc L st) : G p l e R s m args below meth c nL D B N cel Q T M pc L st := hM ▸ k
theorem g_st {L1 : List (Nat × Value)} {st1 : List Value} {M1 : Mem} (hM : M = M1) (hL : L = L1) (hs : st = st1) (k : G p l e R s m args below meth c nL D B N cel Q T M1 pc L1 st1) : G p l e R s m args below meth c nL D B N cel Q T M pc L st := by subst hM; subst hL; subst hs; exact k
theorem g_get (F : Fx p m meth c cc nL rt s args own D) {ix ci kf a : Nat} {ty : FieldType} {fin : Bool} {fs : List Value} {v : Value} (hf : FA own ix ci kf ty fin) (hd : De cc pc (.getfield ix) 3 pc1) (ha : a < N) (hc : cel T a (M a) = .inr (ci, fs)) (hv : fs[kf]? = some v) (k : G p l e R s m args below meth c nL D B N cel Q T M pc1 L (v :: st)) : G p l e R s m args below meth c nL D B N cel Q T M pc L (.ref (B + a) :: st) := by
  obtain ⟨hd, rfl⟩ := hd
  obtain ⟨C, TT, NN, ty0, h1, h2, h3, h4, h5, h6, h7, h8, h9⟩ := hf
  exact fun H locs ls hP hS hl => va_get F.1 F.2.1 F.2.2.2.2.1 h2 F.2.2.2.1 F.2.2.2.2.2.1 hP a (wl_at ha hc) h1 kf h5 (F.2.2.2.2.1 _ h6) (fun _ h => h) hv hd (k H locs ls hP hS hl)
theorem g_putG (F : Fx p m meth c cc nL rt s args own D) {ix ci kf a : Nat} {ty : FieldType} {fs : List Value} {v : Value} {T1 : Int64} (r : Nat → Int32) (hf : FA own ix ci kf ty false) (hd : De cc pc (.putfield ix) 3 pc1) (ha : a < N) (hc : cel T a (M a) = .inr (ci, fs)) (hl2 : kf < fs.length) (hn : narrow ty v = v) (hfit : fits ty v = true) (hw : cel T1 a r = .inr (ci, fs.set kf v)) (ho : ∀ i, i ≠ a → ∀ r, cel T1 i r = cel T i r) (k : G p l e R s m args below meth c nL D B N cel Q T1 (setR M a r) pc1 L st) : G p l e R s m args below meth c nL D B N cel Q T M pc L (v :: .ref (B + a) :: st) := by
  obtain ⟨hd, rfl⟩ := hd
  obtain ⟨C, TT, NN, ty0, h1, h2, h3, h4, h5, h6, h7, h8, h9⟩ := hf
  exact fun H locs ls hP hS hl => va_put F.1 F.2.1 F.2.2.2.2.1 h2 ty0 h3 h4 F.2.2.2.1 F.2.2.2.2.2.1 hP wl_D hS a (wl_at ha hc) h1 kf h5 (F.2.2.2.2.1 _ h6) (fun _ h => h) h7 h9 hn hfit hl2 hd (fun H1 locs1 hP1 _ hS1 => k H1 locs1 ls (by rw [← wl_setT ha hw ho]; exact hP1) hS1 hl)
theorem g_put (F : Fx p m meth c cc nL rt s args own D) {ix ci kf a : Nat} {ty : FieldType} {fs : List Value} {x : Int32} (hf : FA own ix ci kf ty false) (hd : De cc pc (.putfield ix) 3 pc1) (ha : a < N) (hc : cel T a (M a) = .inr (ci, fs)) (hl2 : kf < fs.length) (hn : narrow ty (.int x) = .int x) (hfit : fits ty (.int x) = true) (hw : cel T a (upd (M a) kf x) = .inr (ci, fs.set kf (.int x))) (k : G p l e R s m args below meth c nL D B N cel Q T (up2 M a kf x) pc1 L st) : G p l e R s m args below meth c nL D B N cel Q T M pc L (.int x :: .ref (B + a) :: st) := g_putG F (upd (M a) kf x) hf hd ha hc hl2 hn hfit hw (fun _ _ _ => rfl) k
theorem g_iald (F : Fx p m meth c cc nL rt s args own D) {a n : Nat} (j : Nat) (hd : De cc pc (.iaload) 1 pc1) (ha : a < N) (hc : cel T a (M a) = .inl (D.2.1, n, .inl (M a))) (hj : j < n) (hn : n < 2 ^ 31) (k : G p l e R s m args below meth c nL D B N cel Q T M pc1 L (.int (M a j) :: st)) : G p l e R s m args below meth c nL D B N cel Q T M pc L (.int (nI j) :: .ref (B + a) :: st) := by
  obtain ⟨hd, rfl⟩ := hd
  intro H locs ls hP hS hl
  refine va_iald F.1 F.2.1 F.2.2.2.2.2.1 hP a 0 (wl_at ha hc) rfl (vp_in_nI hj hn) hd ?_
  rw [nI_clamp (by omega)]
  exact k H locs ls hP hS hl
theorem g_zald (F : Fx p m meth c cc nL rt s args own D) {a n : Nat} (j : Nat) (hd : De cc pc (.baload) 1 pc1) (ha : a < N) (hc : cel T a (M a) = .inl (D.2.2.1, n, .inl (M a))) (hj : j < n) (hn : n < 2 ^ 31) (k : G p l e R s m args below meth c nL D B N cel Q T M pc1 L (.int (M a j) :: st)) : G p l e R s m args below meth c nL D B N cel Q T M pc L (.int (nI j) :: .ref (B + a) :: st) := by
  obtain ⟨hd, rfl⟩ := hd
  intro H locs ls hP hS hl
  refine va_zald F.1 F.2.1 F.2.2.2.2.2.1 hP a 1 (wl_at ha hc) rfl (vp_in_nI hj hn) hd ?_
  rw [nI_clamp (by omega)]
  exact k H locs ls hP hS hl
theorem g_iast (F : Fx p m meth c cc nL rt s args own D) {a n : Nat} {x : Int32} (j : Nat) (hd : De cc pc (.iastore) 1 pc1) (ha : a < N) (hc : ∀ r, cel T a r = .inl (D.2.1, n, .inl r)) (hj : j < n) (hn : n < 2 ^ 31) (k : G p l e R s m args below meth c nL D B N cel Q T (up2 M a j x) pc1 L st) : G p l e R s m args below meth c nL D B N cel Q T M pc L (.int x :: .int (nI j) :: .ref (B + a) :: st) := by
  obtain ⟨hd, rfl⟩ := hd
  intro H locs ls hP hS hl
  refine va_iast F.1 F.2.1 F.2.2.2.2.2.1 hP wl_D hS a 0 (wl_at ha (hc _)) rfl (vp_in_nI hj hn) hd (fun H1 locs1 hP1 _ hS1 => k H1 locs1 ls ?_ hS1 hl)
  rw [nI_clamp (by omega), wl_set ha (hc _)] at hP1
  exact hP1
theorem g_zast (F : Fx p m meth c cc nL rt s args own D) {a n : Nat} {x : Int32} (j : Nat) (hd : De cc pc (.bastore) 1 pc1) (ha : a < N) (hc : ∀ r, cel T a r = .inl (D.2.2.1, n, .inl r)) (hj : j < n) (hn : n < 2 ^ 31) (hx : vp_nar .boolean x = x) (k : G p l e R s m args below meth c nL D B N cel Q T (up2 M a j x) pc1 L st) : G p l e R s m args below meth c nL D B N cel Q T M pc L (.int x :: .int (nI j) :: .ref (B + a) :: st) := by
  obtain ⟨hd, rfl⟩ := hd
  intro H locs ls hP hS hl
  refine va_zast F.1 F.2.1 F.2.2.2.2.2.1 hP wl_D hS a 1 (wl_at ha (hc _)) rfl (vp_in_nI hj hn) hd (fun H1 locs1 hP1 _ hS1 => k H1 locs1 ls ?_ hS1 hl)
  rw [nI_clamp (by omega), hx, wl_set ha (hc _)] at hP1
  exact hP1
theorem g_aald (F : Fx p m meth c cc nL rt s args own D) {a n b : Nat} {f : Nat → Option Nat} (j : Nat) (hd : De cc pc (.aaload) 1 pc1) (ha : a < N) (hc : cel T a (M a) = .inl (D.2.2.2, n, .inr (.inr (.inr (.inr f))))) (hj : j < n) (hn : n < 2 ^ 31) (hb : f j = some b) (k : G p l e R s m args below meth c nL D B N cel Q T M pc1 L (.ref b :: st)) : G p l e R s m args below meth c nL D B N cel Q T M pc L (.int (nI j) :: .ref (B + a) :: st) := by
  obtain ⟨hd, rfl⟩ := hd
  intro H locs ls hP hS hl
  refine va_aldq F.1 F.2.1 F.2.2.2.2.2.1 hP a 2 (wl_at ha hc) rfl (vp_in_nI hj hn) hd ?_
  rw [nI_clamp (by omega), hb]
  exact k H locs ls hP hS hl
theorem g_alen (F : Fx p m meth c cc nL rt s args own D) {a n : Nat} {x : (Nat → Int32) ⊕ (Nat → Int64) ⊕ (Nat → UInt32) ⊕ (Nat → UInt64) ⊕ (Nat → Option Nat)} (hd : De cc pc (.arraylength) 1 pc1) (ha : a < N) (hc : cel T a (M a) = .inl (D.2.1, n, x)) (k : G p l e R s m args below meth c nL D B N cel Q T M pc1 L (.int (nI n) :: st)) : G p l e R s m args below meth c nL D B N cel Q T M pc L (.ref (B + a) :: st) := by
  obtain ⟨hd, rfl⟩ := hd
  exact fun H locs ls hP hS hl => va_alen F.1 F.2.1 F.2.2.2.2.2.1 hP a 0 (wl_at ha hc) rfl rfl hd (k H locs ls hP hS hl)
theorem g_iret {F : Fx p m meth c cc nL (some .int) s args own D} {r : Int32} {post : Int32 → Int64 → Mem → Prop} (hQ : Q = MQ below (va_Qi (Pw3 post) (Bw D B N cel) (Fr B N)) args s 0 0 (Fr B N)) (hd : De cc pc (.ireturn) 1 pc1) (hp : post r T M) : G p l e R s m args below meth c nL D B N cel Q T M pc L [.int r] := by
  subst hQ
  have hlk := F.2.2.2.2.2.2.2
  exact fun H locs ls hP hS hl => W.iret F.1 F.2.1 F.2.2.2.2.2.2.1 (fun t ht hW => ⟨⟨r, (T, M), rfl, hp, by rw [ht]; exact hP, va_K.moved hW.alike F.2.2.2.2.2.1⟩, hS.F ht⟩) hS.2.2 hd.1 hlk
theorem g_lret {F : Fx p m meth c cc nL (some .long) s args own D} {r : Int64} {post : Int64 → Int64 → Mem → Prop} (hQ : Q = MQ below (va_Ql (Pw3 post) (Bw D B N cel) (Fr B N)) args s 0 0 (Fr B N)) (hd : De cc pc (.lreturn) 1 pc1) (hp : post r T M) : G p l e R s m args below meth c nL D B N cel Q T M pc L [.long r] := by
  subst hQ
  have hlk := F.2.2.2.2.2.2.2
  exact fun H locs ls hP hS hl => W.lret F.1 F.2.1 F.2.2.2.2.2.2.1 (fun t ht hW => ⟨⟨r, (T, M), rfl, hp, by rw [ht]; exact hP, va_K.moved hW.alike F.2.2.2.2.2.1⟩, hS.F ht⟩) hS.2.2 hd.1 hlk
theorem g_zret {F : Fx p m meth c cc nL (some .boolean) s args own D} {r : Int32} {post : Int32 → Int64 → Mem → Prop} (hQ : Q = MQ below (va_Qi (Pw3 post) (Bw D B N cel) (Fr B N)) args s 0 0 (Fr B N)) (hd : De cc pc (.ireturn) 1 pc1) (hr : narrow .boolean (.int r) = .int r) (hp : post r T M) : G p l e R s m args below meth c nL D B N cel Q T M pc L [.int r] := by
  subst hQ
  have hlk := F.2.2.2.2.2.2.2
  exact fun H locs ls hP hS hl => W.zret F.1 F.2.1 F.2.2.2.2.2.2.1 hr (fun t ht hW => ⟨⟨r, (T, M), rfl, hp, by rw [ht]; exact hP, va_K.moved hW.alike F.2.2.2.2.2.1⟩, hS.F ht⟩) hS.2.2 hd.1 hlk
theorem g_vret {F : Fx p m meth c cc nL none s args own D} {post : Int64 → Mem → Prop} (hQ : Q = MQ below (va_Qv (Pw2 post) (Bw D B N cel) (Fr B N)) args s 0 0 (Fr B N)) (hd : De cc pc (.return_) 1 pc1) (hp : post T M) : G p l e R s m args below meth c nL D B N cel Q T M pc L [] := by
  subst hQ
  have hlk := F.2.2.2.2.2.2.2
  exact fun H locs ls hP hS hl => W.vret F.1 F.2.1 F.2.2.2.2.2.2.1 (fun t ht hW => ⟨⟨(T, M), rfl, hp, by rw [ht]; exact hP, va_K.moved hW.alike F.2.2.2.2.2.1⟩, hS.F ht⟩) hS.2.2 hd.1 hlk
theorem g_aret {C : String} {F : Fx p m meth c cc nL (some (.object C)) s args own D} {a : Nat} {post : Int64 → Mem → Prop} (hQ : Q = MQ below (va_Qr (Pw2 post) (Bw1 D B N cel a) (Fr B N)) args s 0 0 (Fr B N)) (hd : De cc pc (.areturn) 1 pc1) (hp : post T M) : G p l e R s m args below meth c nL D B N cel Q T M pc L [.ref a] := by
  subst hQ
  have hlk := F.2.2.2.2.2.2.2
  exact fun H locs ls hP hS hl => W.aret F.1 F.2.1 F.2.2.2.2.2.2.1 (Or.inl ⟨_, rfl⟩) (Or.inr ⟨_, rfl⟩) (fun t ht hW => ⟨⟨(T, M), a, rfl, hp, rfl, by rw [ht]; exact hP, va_K.moved hW.alike F.2.2.2.2.2.1⟩, hS.F ht⟩) hS.2.2 hd.1 hlk
theorem g_entryi {y : MethodName} {d : Nat} {av : List Value} {post : Int32 → Int64 → Mem → Prop} (hy : plainName y.cls = true) (hlen : (lg_sl av).length ≤ nL) (hav : lv_args 0 av = L) (k : ∀ (p : Program) (e : Env) (s : State) (m : MethodId) (below : List Frame) (meth : Method) (c : Code) (Q : State → Prop), Fx p m meth c cc nL rt s av.toArray y.cls D → Q = MQ below (va_Qi (Pw3 post) (Bw D B N cel) (Fr B N)) av.toArray s 0 0 (Fr B N) → G p l e { frames := d, cells := 0, slots := 0, locals := 40 * d } s m av.toArray below meth c nL D B N cel Q T M 0 L []) : Ci l D B N cel y cc nL rt d av T M post := by
  refine Met.ofW (cc := cc) (maxL := nL) (ret := rt) hy rfl ?_
  intro p e s m args below meth c s₁ Bd hml hv
  obtain ⟨rfl, hP, hK⟩ := hv
  have hts := atoms_spec (ws := Cond.code y cc nL rt :: gtb) Bd.pre
  have F : Fx p m meth c cc nL rt s av.toArray y.cls D := ⟨Bd.exec, Bd.bytes, hml, findClass_of_methodNamed Bd.named, fun w h => hts w (List.mem_cons_of_mem _ h), hK, Bd.returns, Bd.notSynchronized⟩
  rw [lg_entry_eq]
  have hl := lv_entry av (n := nL) hlen
  rw [hav] at hl
  exact k p e s m below meth c _ F rfl s.heap [] _ hP va_S.rf hl
theorem g_entryl {y : MethodName} {d : Nat} {av : List Value} {post : Int64 → Int64 → Mem → Prop} (hy : plainName y.cls = true) (hlen : (lg_sl av).length ≤ nL) (hav : lv_args 0 av = L) (k : ∀ (p : Program) (e : Env) (s : State) (m : MethodId) (below : List Frame) (meth : Method) (c : Code) (Q : State → Prop), Fx p m meth c cc nL rt s av.toArray y.cls D → Q = MQ below (va_Ql (Pw3 post) (Bw D B N cel) (Fr B N)) av.toArray s 0 0 (Fr B N) → G p l e { frames := d, cells := 0, slots := 0, locals := 40 * d } s m av.toArray below meth c nL D B N cel Q T M 0 L []) : Cl l D B N cel y cc nL rt d av T M post := by
  refine Met.ofW (cc := cc) (maxL := nL) (ret := rt) hy rfl ?_
  intro p e s m args below meth c s₁ Bd hml hv
  obtain ⟨rfl, hP, hK⟩ := hv
  have hts := atoms_spec (ws := Cond.code y cc nL rt :: gtb) Bd.pre
  have F : Fx p m meth c cc nL rt s av.toArray y.cls D := ⟨Bd.exec, Bd.bytes, hml, findClass_of_methodNamed Bd.named, fun w h => hts w (List.mem_cons_of_mem _ h), hK, Bd.returns, Bd.notSynchronized⟩
  rw [lg_entry_eq]
  have hl := lv_entry av (n := nL) hlen
  rw [hav] at hl
  exact k p e s m below meth c _ F rfl s.heap [] _ hP va_S.rf hl
theorem g_entryv {y : MethodName} {d : Nat} {av : List Value} {post : Int64 → Mem → Prop} (hy : plainName y.cls = true) (hlen : (lg_sl av).length ≤ nL) (hav : lv_args 0 av = L) (k : ∀ (p : Program) (e : Env) (s : State) (m : MethodId) (below : List Frame) (meth : Method) (c : Code) (Q : State → Prop), Fx p m meth c cc nL rt s av.toArray y.cls D → Q = MQ below (va_Qv (Pw2 post) (Bw D B N cel) (Fr B N)) av.toArray s 0 0 (Fr B N) → G p l e { frames := d, cells := 0, slots := 0, locals := 40 * d } s m av.toArray below meth c nL D B N cel Q T M 0 L []) : Cv l D B N cel y cc nL rt d av T M post := by
  refine Met.ofW (cc := cc) (maxL := nL) (ret := rt) hy rfl ?_
  intro p e s m args below meth c s₁ Bd hml hv
  obtain ⟨rfl, hP, hK⟩ := hv
  have hts := atoms_spec (ws := Cond.code y cc nL rt :: gtb) Bd.pre
  have F : Fx p m meth c cc nL rt s av.toArray y.cls D := ⟨Bd.exec, Bd.bytes, hml, findClass_of_methodNamed Bd.named, fun w h => hts w (List.mem_cons_of_mem _ h), hK, Bd.returns, Bd.notSynchronized⟩
  rw [lg_entry_eq]
  have hl := lv_entry av (n := nL) hlen
  rw [hav] at hl
  exact k p e s m below meth c _ F rfl s.heap [] _ hP va_S.rf hl
theorem g_entryr {y : MethodName} {d : Nat} {av : List Value} {a : Nat} {post : Int64 → Mem → Prop} (hy : plainName y.cls = true) (hlen : (lg_sl av).length ≤ nL) (hav : lv_args 0 av = L) (k : ∀ (p : Program) (e : Env) (s : State) (m : MethodId) (below : List Frame) (meth : Method) (c : Code) (Q : State → Prop), Fx p m meth c cc nL rt s av.toArray y.cls D → Q = MQ below (va_Qr (Pw2 post) (Bw1 D B N cel a) (Fr B N)) av.toArray s 0 0 (Fr B N) → G p l e { frames := d, cells := 0, slots := 0, locals := 40 * d } s m av.toArray below meth c nL D B N cel Q T M 0 L []) : Cr l D B N cel y cc nL rt d av T M a post := by
  refine Met.ofW (cc := cc) (maxL := nL) (ret := rt) hy rfl ?_
  intro p e s m args below meth c s₁ Bd hml hv
  obtain ⟨rfl, hP, hK⟩ := hv
  have hts := atoms_spec (ws := Cond.code y cc nL rt :: gtb) Bd.pre
  have F : Fx p m meth c cc nL rt s av.toArray y.cls D := ⟨Bd.exec, Bd.bytes, hml, findClass_of_methodNamed Bd.named, fun w h => hts w (List.mem_cons_of_mem _ h), hK, Bd.returns, Bd.notSynchronized⟩
  rw [lg_entry_eq]
  have hl := lv_entry av (n := nL) hlen
  rw [hav] at hl
  exact k p e s m below meth c _ F rfl s.heap [] _ hP va_S.rf hl
theorem g_callVi (F : Fx p m meth c cc nL rt s args own D) {ix ci n a d mL : Nat} {y : MethodName} {ccy : ByteArray} {rty : Option FieldType} {fs As st0 : List Value} {post : Int32 → Int64 → Mem → Prop} (hcv : CV own ix ci y ccy mL rty n) (hd : De cc pc (.invokevirtual ix) 3 pc1) (ha : a < N) (hc : cel T a (M a) = .inr (ci, fs)) (hn : As.length = n) (hst : st0 = As.reverse ++ .ref (B + a) :: st) (hcat : (st.map fun v => v.category).sum ≤ 8) (hR : d + 1 ≤ R.frames ∧ 8 + (mL + 11) + 40 * d ≤ R.locals) (hM : Ci l D B N cel y ccy mL rty d (.ref (B + a) :: As) T M post) (k : ∀ (r : Int32) (T1 : Int64) (M1 : Mem), post r T1 M1 → G p l e R s m args below meth c nL D B N cel Q T1 M1 pc1 L (.int r :: st)) : G p l e R s m args below meth c nL D B N cel Q T M pc L st0 := by
  obtain ⟨hd, rfl⟩ := hd
  subst hst
  obtain ⟨⟨q, hq, hqc⟩, h1, h2, h3, h4, h5, h6⟩ := hcv
  intro H locs ls hP hS hl
  have hb := F.2.2.2.2.1
  refine va_calli (va_runV (As := As) (rest := st) ⟨F.1, F.2.1, F.2.2.1, F.2.2.2.1, hb⟩ hM ⟨callB_of n hb (gtbCode h5) rfl rfl rfl (hb _ h4) (hb _ h1) h6 hR, hb _ h2, hb _ h3⟩ ⟨fun a U g mk q => by obtain ⟨q0, qP, qK⟩ := q; exact ⟨q0, qP, va_K.moved (u := U) (U := U.calling g mk a) (Vm.Alike.refl U.vm) qK⟩, by rw [← hqc]; exact va_recv F.2.2.2.2.2.1 hP hq (wl_at ha hc), fun U hU hW => ⟨rfl, by rw [hU]; exact hP, va_K.moved hW.alike F.2.2.2.2.2.1⟩⟩ rfl hn hl.1 rfl (lv_room hcat) hd ⟨Nat.zero_le _, Nat.zero_le _⟩) hS (fun q _ h => h) (fun q h => h) (fun r u t H1 locs1 ht hvm hw hB _ _ hS1 => k r u.1 u.2 hw H1 locs1 ls (by rw [← ht]; exact hB.1) hS1 hl)
theorem g_callVl (F : Fx p m meth c cc nL rt s args own D) {ix ci n a d mL : Nat} {y : MethodName} {ccy : ByteArray} {rty : Option FieldType} {fs As st0 : List Value} {post : Int64 → Int64 → Mem → Prop} (hcv : CV own ix ci y ccy mL rty n) (hd : De cc pc (.invokevirtual ix) 3 pc1) (ha : a < N) (hc : cel T a (M a) = .inr (ci, fs)) (hn : As.length = n) (hst : st0 = As.reverse ++ .ref (B + a) :: st) (hcat : (st.map fun v => v.category).sum ≤ 8) (hR : d + 1 ≤ R.frames ∧ 8 + (mL + 11) + 40 * d ≤ R.locals) (hM : Cl l D B N cel y ccy mL rty d (.ref (B + a) :: As) T M post) (k : ∀ (r : Int64) (T1 : Int64) (M1 : Mem), post r T1 M1 → G p l e R s m args below meth c nL D B N cel Q T1 M1 pc1 L (.long r :: st)) : G p l e R s m args below meth c nL D B N cel Q T M pc L st0 := by
  obtain ⟨hd, rfl⟩ := hd
  subst hst
  obtain ⟨⟨q, hq, hqc⟩, h1, h2, h3, h4, h5, h6⟩ := hcv
  intro H locs ls hP hS hl
  have hb := F.2.2.2.2.1
  refine va_calll (va_runV (As := As) (rest := st) ⟨F.1, F.2.1, F.2.2.1, F.2.2.2.1, hb⟩ hM ⟨callB_of n hb (gtbCode h5) rfl rfl rfl (hb _ h4) (hb _ h1) h6 hR, hb _ h2, hb _ h3⟩ ⟨fun a U g mk q => by obtain ⟨q0, qP, qK⟩ := q; exact ⟨q0, qP, va_K.moved (u := U) (U := U.calling g mk a) (Vm.Alike.refl U.vm) qK⟩, by rw [← hqc]; exact va_recv F.2.2.2.2.2.1 hP hq (wl_at ha hc), fun U hU hW => ⟨rfl, by rw [hU]; exact hP, va_K.moved hW.alike F.2.2.2.2.2.1⟩⟩ rfl hn hl.1 rfl (lv_room hcat) hd ⟨Nat.zero_le _, Nat.zero_le _⟩) hS (fun q _ h => h) (fun q h => h) (fun r u t H1 locs1 ht hvm hw hB _ _ hS1 => k r u.1 u.2 hw H1 locs1 ls (by rw [← ht]; exact hB.1) hS1 hl)
theorem g_callVv (F : Fx p m meth c cc nL rt s args own D) {ix ci n a d mL : Nat} {y : MethodName} {ccy : ByteArray} {rty : Option FieldType} {fs As st0 : List Value} {post : Int64 → Mem → Prop} (hcv : CV own ix ci y ccy mL rty n) (hd : De cc pc (.invokevirtual ix) 3 pc1) (ha : a < N) (hc : cel T a (M a) = .inr (ci, fs)) (hn : As.length = n) (hst : st0 = As.reverse ++ .ref (B + a) :: st) (hcat : (st.map fun v => v.category).sum ≤ 8) (hR : d + 1 ≤ R.frames ∧ 8 + (mL + 11) + 40 * d ≤ R.locals) (hM : Cv l D B N cel y ccy mL rty d (.ref (B + a) :: As) T M post) (k : ∀ (T1 : Int64) (M1 : Mem), post T1 M1 → G p l e R s m args below meth c nL D B N cel Q T1 M1 pc1 L st) : G p l e R s m args below meth c nL D B N cel Q T M pc L st0 := by
  obtain ⟨hd, rfl⟩ := hd
  subst hst
  obtain ⟨⟨q, hq, hqc⟩, h1, h2, h3, h4, h5, h6⟩ := hcv
  intro H locs ls hP hS hl
  have hb := F.2.2.2.2.1
  refine va_callv (va_runV (As := As) (rest := st) ⟨F.1, F.2.1, F.2.2.1, F.2.2.2.1, hb⟩ hM ⟨callB_of n hb (gtbCode h5) rfl rfl rfl (hb _ h4) (hb _ h1) h6 hR, hb _ h2, hb _ h3⟩ ⟨fun a U g mk q => by obtain ⟨q0, qP, qK⟩ := q; exact ⟨q0, qP, va_K.moved (u := U) (U := U.calling g mk a) (Vm.Alike.refl U.vm) qK⟩, by rw [← hqc]; exact va_recv F.2.2.2.2.2.1 hP hq (wl_at ha hc), fun U hU hW => ⟨rfl, by rw [hU]; exact hP, va_K.moved hW.alike F.2.2.2.2.2.1⟩⟩ rfl hn hl.1 rfl (lv_room hcat) hd ⟨Nat.zero_le _, Nat.zero_le _⟩) hS (fun q _ h => h) (fun q h => h) (fun u t H1 locs1 ht hvm hw hB _ _ hS1 => k u.1 u.2 hw H1 locs1 ls (by rw [← ht]; exact hB.1) hS1 hl)
theorem g_callVr (F : Fx p m meth c cc nL rt s args own D) {ix ci n a d mL : Nat} {y : MethodName} {ccy : ByteArray} {rty : Option FieldType} {fs As st0 : List Value} {a1 : Nat} {post : Int64 → Mem → Prop} (hcv : CV own ix ci y ccy mL rty n) (hd : De cc pc (.invokevirtual ix) 3 pc1) (ha : a < N) (hc : cel T a (M a) = .inr (ci, fs)) (hn : As.length = n) (hst : st0 = As.reverse ++ .ref (B + a) :: st) (hcat : (st.map fun v => v.category).sum ≤ 8) (hR : d + 1 ≤ R.frames ∧ 8 + (mL + 11) + 40 * d ≤ R.locals) (hM : Cr l D B N cel y ccy mL rty d (.ref (B + a) :: As) T M a1 post) (k : ∀ (T1 : Int64) (M1 : Mem), post T1 M1 → G p l e R s m args below meth c nL D B N cel Q T1 M1 pc1 L (.ref a1 :: st)) : G p l e R s m args below meth c nL D B N cel Q T M pc L st0 := by
  obtain ⟨hd, rfl⟩ := hd
  subst hst
  obtain ⟨⟨q, hq, hqc⟩, h1, h2, h3, h4, h5, h6⟩ := hcv
  intro H locs ls hP hS hl
  have hb := F.2.2.2.2.1
  refine va_callr (va_runV (As := As) (rest := st) ⟨F.1, F.2.1, F.2.2.1, F.2.2.2.1, hb⟩ hM ⟨callB_of n hb (gtbCode h5) rfl rfl rfl (hb _ h4) (hb _ h1) h6 hR, hb _ h2, hb _ h3⟩ ⟨fun a U g mk q => by obtain ⟨q0, qP, qK⟩ := q; exact ⟨q0, qP, va_K.moved (u := U) (U := U.calling g mk a) (Vm.Alike.refl U.vm) qK⟩, by rw [← hqc]; exact va_recv F.2.2.2.2.2.1 hP hq (wl_at ha hc), fun U hU hW => ⟨rfl, by rw [hU]; exact hP, va_K.moved hW.alike F.2.2.2.2.2.1⟩⟩ rfl hn hl.1 rfl (lv_room hcat) hd ⟨Nat.zero_le _, Nat.zero_le _⟩) hS (fun q _ h => h) (fun q h => h) (fun u ra t H1 locs1 ht hvm hw hB _ _ hS1 => by obtain ⟨rfl, hB1, hB2⟩ := hB; exact k u.1 u.2 hw H1 locs1 ls (by rw [← ht]; exact hB1) hS1 hl)
theorem g_callSi (F : Fx p m meth c cc nL rt s args own D) {ix n d mL : Nat} {y : MethodName} {ccy : ByteArray} {rty : Option FieldType} {As st0 : List Value} {post : Int32 → Int64 → Mem → Prop} (hcs : CS own ix y ccy mL rty n) (hd : De cc pc (.invokestatic ix) 3 pc1) (hn : As.length = n) (hst : st0 = As.reverse ++ st) (hcat : (st.map fun v => v.category).sum ≤ 8) (hR : d + 1 ≤ R.frames ∧ 8 + (mL + 11) + 40 * d ≤ R.locals) (hM : Ci l D B N cel y ccy mL rty d As T M post) (k : ∀ (r : Int32) (T1 : Int64) (M1 : Mem), post r T1 M1 → G p l e R s m args below meth c nL D B N cel Q T1 M1 pc1 L (.int r :: st)) : G p l e R s m args below meth c nL D B N cel Q T M pc L st0 := by
  obtain ⟨hd, rfl⟩ := hd
  subst hst
  obtain ⟨h1, h2, h4, h5, h6⟩ := hcs
  intro H locs ls hP hS hl
  have hb := F.2.2.2.2.1
  refine va_calli (va_runS (As := As) (rest := st) ⟨F.1, F.2.1, F.2.2.1, F.2.2.2.1, hb⟩ hM ⟨callB_of n hb (gtbCode h5) rfl rfl rfl (hb _ h4) (hb _ h1) h6 hR, hb _ h2⟩ ⟨fun a U g mk q => by obtain ⟨q0, qP, qK⟩ := q; exact ⟨q0, qP, va_K.moved (u := U) (U := U.calling g mk a) (Vm.Alike.refl U.vm) qK⟩, fun U hU hW => ⟨rfl, by rw [hU]; exact hP, va_K.moved hW.alike F.2.2.2.2.2.1⟩⟩ rfl hn hl.1 rfl (lv_room hcat) hd ⟨Nat.zero_le _, Nat.zero_le _⟩) hS (fun q _ h => h) (fun q h => h) (fun r u t H1 locs1 ht hvm hw hB _ _ hS1 => k r u.1 u.2 hw H1 locs1 ls (by rw [← ht]; exact hB.1) hS1 hl)
theorem g_callSv (F : Fx p m meth c cc nL rt s args own D) {ix n d mL : Nat} {y : MethodName} {ccy : ByteArray} {rty : Option FieldType} {As st0 : List Value} {post : Int64 → Mem → Prop} (hcs : CS own ix y ccy mL rty n) (hd : De cc pc (.invokestatic ix) 3 pc1) (hn : As.length = n) (hst : st0 = As.reverse ++ st) (hcat : (st.map fun v => v.category).sum ≤ 8) (hR : d + 1 ≤ R.frames ∧ 8 + (mL + 11) + 40 * d ≤ R.locals) (hM : Cv l D B N cel y ccy mL rty d As T M post) (k : ∀ (T1 : Int64) (M1 : Mem), post T1 M1 → G p l e R s m args below meth c nL D B N cel Q T1 M1 pc1 L st) : G p l e R s m args below meth c nL D B N cel Q T M pc L st0 := by
  obtain ⟨hd, rfl⟩ := hd
  subst hst
  obtain ⟨h1, h2, h4, h5, h6⟩ := hcs
  intro H locs ls hP hS hl
  have hb := F.2.2.2.2.1
  refine va_callv (va_runS (As := As) (rest := st) ⟨F.1, F.2.1, F.2.2.1, F.2.2.2.1, hb⟩ hM ⟨callB_of n hb (gtbCode h5) rfl rfl rfl (hb _ h4) (hb _ h1) h6 hR, hb _ h2⟩ ⟨fun a U g mk q => by obtain ⟨q0, qP, qK⟩ := q; exact ⟨q0, qP, va_K.moved (u := U) (U := U.calling g mk a) (Vm.Alike.refl U.vm) qK⟩, fun U hU hW => ⟨rfl, by rw [hU]; exact hP, va_K.moved hW.alike F.2.2.2.2.2.1⟩⟩ rfl hn hl.1 rfl (lv_room hcat) hd ⟨Nat.zero_le _, Nat.zero_le _⟩) hS (fun q _ h => h) (fun q h => h) (fun u t H1 locs1 ht hvm hw hB _ _ hS1 => k u.1 u.2 hw H1 locs1 ls (by rw [← ht]; exact hB.1) hS1 hl)
end GR
end
section
abbrev Shp : Type := Int64 → (Nat → Int32) → va_E
def sI (D : DX) (n : Nat) : Shp := fun _ r => .inl (D.2.1, n, .inl r)
def sZ (D : DX) (n : Nat) : Shp := fun _ r => .inl (D.2.2.1, n, .inl r)
def sQ (D : DX) (B n a0 : Nat) : Shp := fun _ _ => .inl (D.2.2.2, n, .inr (.inr (.inr (.inr (fun j => some (B + (a0 + 5 * j)))))))
def sNow (B a : Nat) : Shp := fun _ r => .inr (2, [.int (r 0), .ref (B + (a + 1)), .ref (B + (a + 2)), .ref (B + (a + 3)), .ref (B + (a + 4))])
def sTown (B a : Nat) : Shp := fun _ r => .inr (5, [.int (r 0), .int (r 1), .int (r 2), .ref (B + (a + 1))])
def sNowL (D : DX) (B a : Nat) : List Shp := [sNow B a, sI D 5, sI D 5, sI D 20, sI D 5]
def sMay (B : Nat) : Shp := fun T _ => .inr (6, [.ref (B + 1), .ref (B + 10), .ref (B + 12), .ref (B + 17), .ref (B + 69), .ref (B + 92), .ref (B + 96), .ref (B + 107), .long T])
def sText (B : Nat) : Shp := fun _ r => .inr (4, [.ref (B + 2), .int (r 1), .ref (B + 3), .ref (B + 5), .int (r 4), .int (r 5), .int (r 6), .int (r 7), .int (r 8), .int (r 9)])
def sPast (B : Nat) : Shp := fun _ r => .inr (3, [.ref (B + 18), .int (r 1), .int (r 2)])
def sFore (B : Nat) : Shp := fun _ _ => .inr (0, [.ref (B + 70), .ref (B + 71)])
def sNote (B : Nat) : Shp := fun _ r => .inr (1, [.ref (B + 93), .ref (B + 94), .ref (B + 95), .int (r 3), .int (r 4), .int (r 5)])
def sMod (B : Nat) : Shp := fun T r => .inr (7, [.int (r 0), .long T, .ref (B + 1), .int (r 3), .int (r 4), .int (r 5), .int (r 6), .int (r 7), .int (r 8), .int (r 9), .ref (B + 2), .ref (B + 3), .ref (B + 4), .ref (B + 5), .ref (B + 6), .ref (B + 7), .ref (B + 8), .ref (B + 9), .int (r 18), .ref (B + 10), .ref (B + 11), .ref (B + 12), .int (r 22), .ref (B + 13)])
def shC (D : DX) (B : Nat) : List Shp := [sMay B, sText B, sI D 150, sTown B 3, sI D 5, sNow B 5, sI D 5, sI D 5, sI D 20, sI D 5, sTown B 10, sI D 5, sNow B 12, sI D 5, sI D 5, sI D 20, sI D 5, sPast B, sQ D B 10 19, sNow B 19, sI D 5, sI D 5, sI D 20, sI D 5, sNow B 24, sI D 5, sI D 5, sI D 20, sI D 5, sNow B 29, sI D 5, sI D 5, sI D 20, sI D 5, sNow B 34, sI D 5, sI D 5, sI D 20, sI D 5, sNow B 39, sI D 5, sI D 5, sI D 20, sI D 5, sNow B 44, sI D 5, sI D 5, sI D 20, sI D 5, sNow B 49, sI D 5, sI D 5, sI D 20, sI D 5, sNow B 54, sI D 5, sI D 5, sI D 20, sI D 5, sNow B 59, sI D 5, sI D 5, sI D 20, sI D 5, sNow B 64, sI D 5, sI D 5, sI D 20, sI D 5, sFore B, sQ D B 4 72, sI D 3, sNow B 72, sI D 5, sI D 5, sI D 20, sI D 5, sNow B 77, sI D 5, sI D 5, sI D 20, sI D 5, sNow B 82, sI D 5, sI D 5, sI D 20, sI D 5, sNow B 87, sI D 5, sI D 5, sI D 20, sI D 5, sNote B, sI D 6, sI D 6, sZ D 6, sQ D B 2 97, sNow B 97, sI D 5, sI D 5, sI D 20, sI D 5, sNow B 102, sI D 5, sI D 5, sI D 20, sI D 5, sZ D 2]
def shM (D : DX) (B : Nat) : List Shp := [sMod B, sI D 150, sI D 6, sI D 10, sI D 31, sI D 31, sI D 31, sI D 62, sZ D 2, sI D 310, sI D 6, sI D 6, sI D 6, sI D 4096]
def celOf (l : List Shp) : Cel := fun T k r => (l.getD k (fun _ _ => .inr (0, []))) T r
def celC (D : DX) (B : Nat) : Cel := celOf (shC D B)
def celM (D : DX) (B : Nat) : Cel := celOf (shM D B)
def IsNow (D : DX) (B a : Nat) : Prop := a + 4 < 108 ∧ (∀ T r, celC D B T a r = sNow B a T r) ∧ (∀ T r, celC D B T (a + 1) r = sI D 5 T r) ∧ (∀ T r, celC D B T (a + 2) r = sI D 5 T r) ∧ (∀ T r, celC D B T (a + 3) r = sI D 20 T r) ∧ (∀ T r, celC D B T (a + 4) r = sI D 5 T r)
def IsTown (D : DX) (B a : Nat) : Prop := a + 1 < 108 ∧ (∀ T r, celC D B T a r = sTown B a T r) ∧ (∀ T r, celC D B T (a + 1) r = sI D 5 T r)
theorem cc0 (D : DX) (B : Nat) (T : Int64) (r : Nat → Int32) : celC D B T 0 r = sMay B T r := rfl
theorem cc1 (D : DX) (B : Nat) (T : Int64) (r : Nat → Int32) : celC D B T 1 r = sText B T r := rfl
theorem cc2 (D : DX) (B : Nat) (T : Int64) (r : Nat → Int32) : celC D B T 2 r = sI D 150 T r := rfl
theorem cc3 (D : DX) (B : Nat) (T : Int64) (r : Nat → Int32) : celC D B T 3 r = sTown B 3 T r := rfl
theorem cc4 (D : DX) (B : Nat) (T : Int64) (r : Nat → Int32) : celC D B T 4 r = sI D 5 T r := rfl
theorem cc5 (D : DX) (B : Nat) (T : Int64) (r : Nat → Int32) : celC D B T 5 r = sNow B 5 T r := rfl
theorem cc6 (D : DX) (B : Nat) (T : Int64) (r : Nat → Int32) : celC D B T 6 r = sI D 5 T r := rfl
theorem cc7 (D : DX) (B : Nat) (T : Int64) (r : Nat → Int32) : celC D B T 7 r = sI D 5 T r := rfl
theorem cc8 (D : DX) (B : Nat) (T : Int64) (r : Nat → Int32) : celC D B T 8 r = sI D 20 T r := rfl
theorem cc9 (D : DX) (B : Nat) (T : Int64) (r : Nat → Int32) : celC D B T 9 r = sI D 5 T r := rfl
theorem cc10 (D : DX) (B : Nat) (T : Int64) (r : Nat → Int32) : celC D B T 10 r = sTown B 10 T r := rfl
theorem cc11 (D : DX) (B : Nat) (T : Int64) (r : Nat → Int32) : celC D B T 11 r = sI D 5 T r := rfl
theorem cc12 (D : DX) (B : Nat) (T : Int64) (r : Nat → Int32) : celC D B T 12 r = sNow B 12 T r := rfl
theorem cc13 (D : DX) (B : Nat) (T : Int64) (r : Nat → Int32) : celC D B T 13 r = sI D 5 T r := rfl
theorem cc14 (D : DX) (B : Nat) (T : Int64) (r : Nat → Int32) : celC D B T 14 r = sI D 5 T r := rfl
theorem cc15 (D : DX) (B : Nat) (T : Int64) (r : Nat → Int32) : celC D B T 15 r = sI D 20 T r := rfl
theorem cc16 (D : DX) (B : Nat) (T : Int64) (r : Nat → Int32) : celC D B T 16 r = sI D 5 T r := rfl
theorem cc17 (D : DX) (B : Nat) (T : Int64) (r : Nat → Int32) : celC D B T 17 r = sPast B T r := rfl
theorem cc18 (D : DX) (B : Nat) (T : Int64) (r : Nat → Int32) : celC D B T 18 r = sQ D B 10 19 T r := rfl
theorem cc19 (D : DX) (B : Nat) (T : Int64) (r : Nat → Int32) : celC D B T 19 r = sNow B 19 T r := rfl
theorem cc20 (D : DX) (B : Nat) (T : Int64) (r : Nat → Int32) : celC D B T 20 r = sI D 5 T r := rfl
theorem cc21 (D : DX) (B : Nat) (T : Int64) (r : Nat → Int32) : celC D B T 21 r = sI D 5 T r := rfl
theorem cc22 (D : DX) (B : Nat) (T : Int64) (r : Nat → Int32) : celC D B T 22 r = sI D 20 T r := rfl
theorem cc23 (D : DX) (B : Nat) (T : Int64) (r : Nat → Int32) : celC D B T 23 r = sI D 5 T r := rfl
theorem cc24 (D : DX) (B : Nat) (T : Int64) (r : Nat → Int32) : celC D B T 24 r = sNow B 24 T r := rfl
theorem cc25 (D : DX) (B : Nat) (T : Int64) (r : Nat → Int32) : celC D B T 25 r = sI D 5 T r := rfl
theorem cc26 (D : DX) (B : Nat) (T : Int64) (r : Nat → Int32) : celC D B T 26 r = sI D 5 T r := rfl
theorem cc27 (D : DX) (B : Nat) (T : Int64) (r : Nat → Int32) : celC D B T 27 r = sI D 20 T r := rfl
theorem cc28 (D : DX) (B : Nat) (T : Int64) (r : Nat → Int32) : celC D B T 28 r = sI D 5 T r := rfl
theorem cc29 (D : DX) (B : Nat) (T : Int64) (r : Nat → Int32) : celC D B T 29 r = sNow B 29 T r := rfl
theorem cc30 (D : DX) (B : Nat) (T : Int64) (r : Nat → Int32) : celC D B T 30 r = sI D 5 T r := rfl
theorem cc31 (D : DX) (B : Nat) (T : Int64) (r : Nat → Int32) : celC D B T 31 r = sI D 5 T r := rfl
theorem cc32 (D : DX) (B : Nat) (T : Int64) (r : Nat → Int32) : celC D B T 32 r = sI D 20 T r := rfl
theorem cc33 (D : DX) (B : Nat) (T : Int64) (r : Nat → Int32) : celC D B T 33 r = sI D 5 T r := rfl
theorem cc34 (D : DX) (B : Nat) (T : Int64) (r : Nat → Int32) : celC D B T 34 r = sNow B 34 T r := rfl
theorem cc35 (D : DX) (B : Nat) (T : Int64) (r : Nat → Int32) : celC D B T 35 r = sI D 5 T r := rfl
theorem cc36 (D : DX) (B : Nat) (T : Int64) (r : Nat → Int32) : celC D B T 36 r = sI D 5 T r := rfl
theorem cc37 (D : DX) (B : Nat) (T : Int64) (r : Nat → Int32) : celC D B T 37 r = sI D 20 T r := rfl
theorem cc38 (D : DX) (B : Nat) (T : Int64) (r : Nat → Int32) : celC D B T 38 r = sI D 5 T r := rfl
theorem cc39 (D : DX) (B : Nat) (T : Int64) (r : Nat → Int32) : celC D B T 39 r = sNow B 39 T r := rfl
theorem cc40 (D : DX) (B : Nat) (T : Int64) (r : Nat → Int32) : celC D B T 40 r = sI D 5 T r := rfl
theorem cc41 (D : DX) (B : Nat) (T : Int64) (r : Nat → Int32) : celC D B T 41 r = sI D 5 T r := rfl
theorem cc42 (D : DX) (B : Nat) (T : Int64) (r : Nat → Int32) : celC D B T 42 r = sI D 20 T r := rfl
theorem cc43 (D : DX) (B : Nat) (T : Int64) (r : Nat → Int32) : celC D B T 43 r = sI D 5 T r := rfl
theorem cc44 (D : DX) (B : Nat) (T : Int64) (r : Nat → Int32) : celC D B T 44 r = sNow B 44 T r := rfl
theorem cc45 (D : DX) (B : Nat) (T : Int64) (r : Nat → Int32) : celC D B T 45 r = sI D 5 T r := rfl
theorem cc46 (D : DX) (B : Nat) (T : Int64) (r : Nat → Int32) : celC D B T 46 r = sI D 5 T r := rfl
theorem cc47 (D : DX) (B : Nat) (T : Int64) (r : Nat → Int32) : celC D B T 47 r = sI D 20 T r := rfl
theorem cc48 (D : DX) (B : Nat) (T : Int64) (r : Nat → Int32) : celC D B T 48 r = sI D 5 T r := rfl
theorem cc49 (D : DX) (B : Nat) (T : Int64) (r : Nat → Int32) : celC D B T 49 r = sNow B 49 T r := rfl
theorem cc50 (D : DX) (B : Nat) (T : Int64) (r : Nat → Int32) : celC D B T 50 r = sI D 5 T r := rfl
theorem cc51 (D : DX) (B : Nat) (T : Int64) (r : Nat → Int32) : celC D B T 51 r = sI D 5 T r := rfl
theorem cc52 (D : DX) (B : Nat) (T : Int64) (r : Nat → Int32) : celC D B T 52 r = sI D 20 T r := rfl
theorem cc53 (D : DX) (B : Nat) (T : Int64) (r : Nat → Int32) : celC D B T 53 r = sI D 5 T r := rfl
theorem cc54 (D : DX) (B : Nat) (T : Int64) (r : Nat → Int32) : celC D B T 54 r = sNow B 54 T r := rfl
theorem cc55 (D : DX) (B : Nat) (T : Int64) (r : Nat → Int32) : celC D B T 55 r = sI D 5 T r := rfl
theorem cc56 (D : DX) (B : Nat) (T : Int64) (r : Nat → Int32) : celC D B T 56 r = sI D 5 T r := rfl
theorem cc57 (D : DX) (B : Nat) (T : Int64) (r : Nat → Int32) : celC D B T 57 r = sI D 20 T r := rfl
theorem cc58 (D : DX) (B : Nat) (T : Int64) (r : Nat → Int32) : celC D B T 58 r = sI D 5 T r := rfl
theorem cc59 (D : DX) (B : Nat) (T : Int64) (r : Nat → Int32) : celC D B T 59 r = sNow B 59 T r := rfl
theorem cc60 (D : DX) (B : Nat) (T : Int64) (r : Nat → Int32) : celC D B T 60 r = sI D 5 T r := rfl
theorem cc61 (D : DX) (B : Nat) (T : Int64) (r : Nat → Int32) : celC D B T 61 r = sI D 5 T r := rfl
theorem cc62 (D : DX) (B : Nat) (T : Int64) (r : Nat → Int32) : celC D B T 62 r = sI D 20 T r := rfl
theorem cc63 (D : DX) (B : Nat) (T : Int64) (r : Nat → Int32) : celC D B T 63 r = sI D 5 T r := rfl
theorem cc64 (D : DX) (B : Nat) (T : Int64) (r : Nat → Int32) : celC D B T 64 r = sNow B 64 T r := rfl
theorem cc65 (D : DX) (B : Nat) (T : Int64) (r : Nat → Int32) : celC D B T 65 r = sI D 5 T r := rfl
theorem cc66 (D : DX) (B : Nat) (T : Int64) (r : Nat → Int32) : celC D B T 66 r = sI D 5 T r := rfl
theorem cc67 (D : DX) (B : Nat) (T : Int64) (r : Nat → Int32) : celC D B T 67 r = sI D 20 T r := rfl
theorem cc68 (D : DX) (B : Nat) (T : Int64) (r : Nat → Int32) : celC D B T 68 r = sI D 5 T r := rfl
theorem cc69 (D : DX) (B : Nat) (T : Int64) (r : Nat → Int32) : celC D B T 69 r = sFore B T r := rfl
theorem cc70 (D : DX) (B : Nat) (T : Int64) (r : Nat → Int32) : celC D B T 70 r = sQ D B 4 72 T r := rfl
theorem cc71 (D : DX) (B : Nat) (T : Int64) (r : Nat → Int32) : celC D B T 71 r = sI D 3 T r := rfl
theorem cc72 (D : DX) (B : Nat) (T : Int64) (r : Nat → Int32) : celC D B T 72 r = sNow B 72 T r := rfl
theorem cc73 (D : DX) (B : Nat) (T : Int64) (r : Nat → Int32) : celC D B T 73 r = sI D 5 T r := rfl
theorem cc74 (D : DX) (B : Nat) (T : Int64) (r : Nat → Int32) : celC D B T 74 r = sI D 5 T r := rfl
theorem cc75 (D : DX) (B : Nat) (T : Int64) (r : Nat → Int32) : celC D B T 75 r = sI D 20 T r := rfl
theorem cc76 (D : DX) (B : Nat) (T : Int64) (r : Nat → Int32) : celC D B T 76 r = sI D 5 T r := rfl
theorem cc77 (D : DX) (B : Nat) (T : Int64) (r : Nat → Int32) : celC D B T 77 r = sNow B 77 T r := rfl
theorem cc78 (D : DX) (B : Nat) (T : Int64) (r : Nat → Int32) : celC D B T 78 r = sI D 5 T r := rfl
theorem cc79 (D : DX) (B : Nat) (T : Int64) (r : Nat → Int32) : celC D B T 79 r = sI D 5 T r := rfl
theorem cc80 (D : DX) (B : Nat) (T : Int64) (r : Nat → Int32) : celC D B T 80 r = sI D 20 T r := rfl
theorem cc81 (D : DX) (B : Nat) (T : Int64) (r : Nat → Int32) : celC D B T 81 r = sI D 5 T r := rfl
theorem cc82 (D : DX) (B : Nat) (T : Int64) (r : Nat → Int32) : celC D B T 82 r = sNow B 82 T r := rfl
theorem cc83 (D : DX) (B : Nat) (T : Int64) (r : Nat → Int32) : celC D B T 83 r = sI D 5 T r := rfl
theorem cc84 (D : DX) (B : Nat) (T : Int64) (r : Nat → Int32) : celC D B T 84 r = sI D 5 T r := rfl
theorem cc85 (D : DX) (B : Nat) (T : Int64) (r : Nat → Int32) : celC D B T 85 r = sI D 20 T r := rfl
theorem cc86 (D : DX) (B : Nat) (T : Int64) (r : Nat → Int32) : celC D B T 86 r = sI D 5 T r := rfl
theorem cc87 (D : DX) (B : Nat) (T : Int64) (r : Nat → Int32) : celC D B T 87 r = sNow B 87 T r := rfl
theorem cc88 (D : DX) (B : Nat) (T : Int64) (r : Nat → Int32) : celC D B T 88 r = sI D 5 T r := rfl
theorem cc89 (D : DX) (B : Nat) (T : Int64) (r : Nat → Int32) : celC D B T 89 r = sI D 5 T r := rfl
theorem cc90 (D : DX) (B : Nat) (T : Int64) (r : Nat → Int32) : celC D B T 90 r = sI D 20 T r := rfl
theorem cc91 (D : DX) (B : Nat) (T : Int64) (r : Nat → Int32) : celC D B T 91 r = sI D 5 T r := rfl
theorem cc92 (D : DX) (B : Nat) (T : Int64) (r : Nat → Int32) : celC D B T 92 r = sNote B T r := rfl
theorem cc93 (D : DX) (B : Nat) (T : Int64) (r : Nat → Int32) : celC D B T 93 r = sI D 6 T r := rfl
theorem cc94 (D : DX) (B : Nat) (T : Int64) (r : Nat → Int32) : celC D B T 94 r = sI D 6 T r := rfl
theorem cc95 (D : DX) (B : Nat) (T : Int64) (r : Nat → Int32) : celC D B T 95 r = sZ D 6 T r := rfl
theorem cc96 (D : DX) (B : Nat) (T : Int64) (r : Nat → Int32) : celC D B T 96 r = sQ D B 2 97 T r := rfl
theorem cc97 (D : DX) (B : Nat) (T : Int64) (r : Nat → Int32) : celC D B T 97 r = sNow B 97 T r := rfl
theorem cc98 (D : DX) (B : Nat) (T : Int64) (r : Nat → Int32) : celC D B T 98 r = sI D 5 T r := rfl
theorem cc99 (D : DX) (B : Nat) (T : Int64) (r : Nat → Int32) : celC D B T 99 r = sI D 5 T r := rfl
theorem cc100 (D : DX) (B : Nat) (T : Int64) (r : Nat → Int32) : celC D B T 100 r = sI D 20 T r := rfl
theorem cc101 (D : DX) (B : Nat) (T : Int64) (r : Nat → Int32) : celC D B T 101 r = sI D 5 T r := rfl
theorem cc102 (D : DX) (B : Nat) (T : Int64) (r : Nat → Int32) : celC D B T 102 r = sNow B 102 T r := rfl
theorem cc103 (D : DX) (B : Nat) (T : Int64) (r : Nat → Int32) : celC D B T 103 r = sI D 5 T r := rfl
theorem cc104 (D : DX) (B : Nat) (T : Int64) (r : Nat → Int32) : celC D B T 104 r = sI D 5 T r := rfl
theorem cc105 (D : DX) (B : Nat) (T : Int64) (r : Nat → Int32) : celC D B T 105 r = sI D 20 T r := rfl
theorem cc106 (D : DX) (B : Nat) (T : Int64) (r : Nat → Int32) : celC D B T 106 r = sI D 5 T r := rfl
theorem cc107 (D : DX) (B : Nat) (T : Int64) (r : Nat → Int32) : celC D B T 107 r = sZ D 2 T r := rfl
theorem cm0 (D : DX) (B : Nat) (T : Int64) (r : Nat → Int32) : celM D B T 0 r = sMod B T r := rfl
theorem cm1 (D : DX) (B : Nat) (T : Int64) (r : Nat → Int32) : celM D B T 1 r = sI D 150 T r := rfl
theorem cm2 (D : DX) (B : Nat) (T : Int64) (r : Nat → Int32) : celM D B T 2 r = sI D 6 T r := rfl
theorem cm3 (D : DX) (B : Nat) (T : Int64) (r : Nat → Int32) : celM D B T 3 r = sI D 10 T r := rfl
theorem cm4 (D : DX) (B : Nat) (T : Int64) (r : Nat → Int32) : celM D B T 4 r = sI D 31 T r := rfl
theorem cm5 (D : DX) (B : Nat) (T : Int64) (r : Nat → Int32) : celM D B T 5 r = sI D 31 T r := rfl
theorem cm6 (D : DX) (B : Nat) (T : Int64) (r : Nat → Int32) : celM D B T 6 r = sI D 31 T r := rfl
theorem cm7 (D : DX) (B : Nat) (T : Int64) (r : Nat → Int32) : celM D B T 7 r = sI D 62 T r := rfl
theorem cm8 (D : DX) (B : Nat) (T : Int64) (r : Nat → Int32) : celM D B T 8 r = sZ D 2 T r := rfl
theorem cm9 (D : DX) (B : Nat) (T : Int64) (r : Nat → Int32) : celM D B T 9 r = sI D 310 T r := rfl
theorem cm10 (D : DX) (B : Nat) (T : Int64) (r : Nat → Int32) : celM D B T 10 r = sI D 6 T r := rfl
theorem cm11 (D : DX) (B : Nat) (T : Int64) (r : Nat → Int32) : celM D B T 11 r = sI D 6 T r := rfl
theorem cm12 (D : DX) (B : Nat) (T : Int64) (r : Nat → Int32) : celM D B T 12 r = sI D 6 T r := rfl
theorem cm13 (D : DX) (B : Nat) (T : Int64) (r : Nat → Int32) : celM D B T 13 r = sI D 4096 T r := rfl
theorem isTown3 (D : DX) (B : Nat) : IsTown D B 3 := ⟨by decide, cc3 D B, cc4 D B⟩
theorem isNow5 (D : DX) (B : Nat) : IsNow D B 5 := ⟨by decide, cc5 D B, cc6 D B, cc7 D B, cc8 D B, cc9 D B⟩
theorem isTown10 (D : DX) (B : Nat) : IsTown D B 10 := ⟨by decide, cc10 D B, cc11 D B⟩
theorem isNow12 (D : DX) (B : Nat) : IsNow D B 12 := ⟨by decide, cc12 D B, cc13 D B, cc14 D B, cc15 D B, cc16 D B⟩
theorem isNow19 (D : DX) (B : Nat) : IsNow D B 19 := ⟨by decide, cc19 D B, cc20 D B, cc21 D B, cc22 D B, cc23 D B⟩
theorem isNow24 (D : DX) (B : Nat) : IsNow D B 24 := ⟨by decide, cc24 D B, cc25 D B, cc26 D B, cc27 D B, cc28 D B⟩
theorem isNow29 (D : DX) (B : Nat) : IsNow D B 29 := ⟨by decide, cc29 D B, cc30 D B, cc31 D B, cc32 D B, cc33 D B⟩
theorem isNow34 (D : DX) (B : Nat) : IsNow D B 34 := ⟨by decide, cc34 D B, cc35 D B, cc36 D B, cc37 D B, cc38 D B⟩
theorem isNow39 (D : DX) (B : Nat) : IsNow D B 39 := ⟨by decide, cc39 D B, cc40 D B, cc41 D B, cc42 D B, cc43 D B⟩
theorem isNow44 (D : DX) (B : Nat) : IsNow D B 44 := ⟨by decide, cc44 D B, cc45 D B, cc46 D B, cc47 D B, cc48 D B⟩
theorem isNow49 (D : DX) (B : Nat) : IsNow D B 49 := ⟨by decide, cc49 D B, cc50 D B, cc51 D B, cc52 D B, cc53 D B⟩
theorem isNow54 (D : DX) (B : Nat) : IsNow D B 54 := ⟨by decide, cc54 D B, cc55 D B, cc56 D B, cc57 D B, cc58 D B⟩
theorem isNow59 (D : DX) (B : Nat) : IsNow D B 59 := ⟨by decide, cc59 D B, cc60 D B, cc61 D B, cc62 D B, cc63 D B⟩
theorem isNow64 (D : DX) (B : Nat) : IsNow D B 64 := ⟨by decide, cc64 D B, cc65 D B, cc66 D B, cc67 D B, cc68 D B⟩
theorem isNow72 (D : DX) (B : Nat) : IsNow D B 72 := ⟨by decide, cc72 D B, cc73 D B, cc74 D B, cc75 D B, cc76 D B⟩
theorem isNow77 (D : DX) (B : Nat) : IsNow D B 77 := ⟨by decide, cc77 D B, cc78 D B, cc79 D B, cc80 D B, cc81 D B⟩
theorem isNow82 (D : DX) (B : Nat) : IsNow D B 82 := ⟨by decide, cc82 D B, cc83 D B, cc84 D B, cc85 D B, cc86 D B⟩
theorem isNow87 (D : DX) (B : Nat) : IsNow D B 87 := ⟨by decide, cc87 D B, cc88 D B, cc89 D B, cc90 D B, cc91 D B⟩
theorem isNow97 (D : DX) (B : Nat) : IsNow D B 97 := ⟨by decide, cc97 D B, cc98 D B, cc99 D B, cc100 D B, cc101 D B⟩
theorem isNow102 (D : DX) (B : Nat) : IsNow D B 102 := ⟨by decide, cc102 D B, cc103 D B, cc104 D B, cc105 D B, cc106 D B⟩
theorem isNowPast (D : DX) (B : Nat) {i : Nat} (h : i < 10) : IsNow D B (19 + 5 * i) := by
  match i, h with
  | 0, _ => exact isNow19 D B
  | 1, _ => exact isNow24 D B
  | 2, _ => exact isNow29 D B
  | 3, _ => exact isNow34 D B
  | 4, _ => exact isNow39 D B
  | 5, _ => exact isNow44 D B
  | 6, _ => exact isNow49 D B
  | 7, _ => exact isNow54 D B
  | 8, _ => exact isNow59 D B
  | 9, _ => exact isNow64 D B
  | n + 10, h => exact absurd h (by omega)
theorem isNowFore (D : DX) (B : Nat) {i : Nat} (h : i < 4) : IsNow D B (72 + 5 * i) := by
  match i, h with
  | 0, _ => exact isNow72 D B
  | 1, _ => exact isNow77 D B
  | 2, _ => exact isNow82 D B
  | 3, _ => exact isNow87 D B
  | n + 4, h => exact absurd h (by omega)
theorem isNowImg (D : DX) (B : Nat) {i : Nat} (h : i < 2) : IsNow D B (97 + 5 * i) := by
  match i, h with
  | 0, _ => exact isNow97 D B
  | 1, _ => exact isNow102 D B
  | n + 2, h => exact absurd h (by omega)
theorem celC_T {D : DX} {B : Nat} {T T1 : Int64} {k : Nat} (hk : k ≠ 0) (r : Nat → Int32) : celC D B T1 k r = celC D B T k r := by
  cases k with
  | zero => exact absurd rfl hk
  | succ k =>
    show ((shC D B).tail.getD k (fun _ _ => .inr (0, []))) T1 r = ((shC D B).tail.getD k (fun _ _ => .inr (0, []))) T r
    have : ∀ f ∈ (shC D B).tail, ∀ (r : Nat → Int32), f T1 r = f T r := by
      simp [shC, sI, sZ, sQ, sNow, sTown, sText, sPast, sFore, sNote]
    by_cases hk : k < (shC D B).tail.length
    · rw [List.getD_eq_getElem?_getD, List.getElem?_eq_getElem hk]
      exact this _ (List.getElem_mem hk) r
    · rw [List.getD_eq_getElem?_getD, List.getElem?_eq_none (by omega)]
      rfl
theorem celM_T {D : DX} {B : Nat} {T T1 : Int64} {k : Nat} (hk : k ≠ 0) (r : Nat → Int32) : celM D B T1 k r = celM D B T k r := by
  cases k with
  | zero => exact absurd rfl hk
  | succ k =>
    show ((shM D B).tail.getD k (fun _ _ => .inr (0, []))) T1 r = ((shM D B).tail.getD k (fun _ _ => .inr (0, []))) T r
    have : ∀ f ∈ (shM D B).tail, ∀ (r : Nat → Int32), f T1 r = f T r := by
      simp [shM, sI, sZ]
    by_cases hk : k < (shM D B).tail.length
    · rw [List.getD_eq_getElem?_getD, List.getElem?_eq_getElem hk]
      exact this _ (List.getElem_mem hk) r
    · rw [List.getD_eq_getElem?_getD, List.getElem?_eq_none (by omega)]
      rfl
end
section
theorem arrV_congr (cI : ClassId) (n : Nat) {f g : Nat → Value} (h : ∀ j, j < n → f j = g j) : arrV cI n f = arrV cI n g := by
  unfold arrV
  congr 2
  funext j
  exact h j.val j.isLt
theorem wl_row {D : DX} {B N : Nat} {cel : Cel} {T : Int64} {M : Mem} {a n : Nat} {cA : ClassId} {r : Nat → Int32} {H : Heap} (hc : ∀ r, cel T a r = .inl (cA, n, .inl r)) (h : ∀ j, j < n → M a j = r j) (hP : va_P D.1 vwCl (wl B N cel T M) H) : va_P D.1 vwCl (wl B N cel T (setR M a r)) H := by
  intro k q hk
  obtain ⟨hkN, rfl⟩ := wl_inv hk
  have h1 := hP k _ (wl_get hkN)
  by_cases hka : k = a
  · subst hka
    rw [setR_self, hc]
    rw [hc] at h1
    show H[B + k]? = some (vp_cell cA (n, .inl r))
    have h2 : H[B + k]? = some (vp_cell cA (n, .inl (M k))) := h1
    rw [h2, vp_cell_i, vp_cell_i]
    exact congrArg some (arrV_congr cA n (fun j hj => by rw [h j hj]))
  · rw [setR_ne _ _ hka]
    exact h1
theorem nI_of3 {x : Int32} {n : Nat} (hn : n < 2 ^ 31) (h0 : ¬ x < 0) (h : x < nI n) : ∃ j : Nat, j < n ∧ x = nI j := by
  obtain ⟨j, hj, rfl⟩ := nI_of h0
  exact ⟨j, (nI_ltI hj hn).mp h, rfl⟩
theorem nI_of4 {x : Int32} {n : Nat} (hn : n < 2 ^ 31) (h0 : ¬ x < 0) (h : ¬ nI n ≤ x) : ∃ j : Nat, j < n ∧ x = nI j := by
  obtain ⟨j, hj, rfl⟩ := nI_of h0
  exact ⟨j, Nat.lt_of_not_le (fun q => h ((nI_leI hn hj).mpr q)), rfl⟩
def nSum (f : Nat → Int32) : Nat → Int32
  | 0 => 0
  | n + 1 => nSum f n + f n
def nCnt (f : Nat → Int32) : Nat → Nat
  | 0 => 0
  | n + 1 => nCnt f n + (if f n ≤ 0 then 0 else 1)
def mx (x y : Int32) : Int32 := if x < y then y else x
def mn (x y : Int32) : Int32 := if y < x then y else x
theorem lc {α : Type} {a b : α} {l k : List α} (h : a = b) (h2 : l = k) : a :: l = b :: k := by rw [h, h2]
theorem vi {i : Nat} {x y : Int32} (h : x = y) : ((i, Value.int x) : Nat × Value) = (i, Value.int y) := by rw [h]
section GM
variable {p : Program} {l : Launch} {e : Env} {R : Room} {s : State} {m : MethodId} {args : Array Value} {below : List Frame} {meth : Method} {c : Code} {cc : ByteArray} {nL : Nat} {rt : Option FieldType} {own : String} {D : DX} {B N : Nat} {cel : Cel} {Q : State → Prop} {T : Int64} {M : Mem} {pc pc1 : Nat} {L : List (Nat × Value)} {st : List Value}
theorem g_row {a n : Nat} {cA : ClassId} (r : Nat → Int32) (hc : ∀ r, cel T a r = .inl (cA, n, .inl r)) (h : ∀ j, j < n → M a j = r j) (k : G p l e R s m args below meth c nL D B N cel Q T (setR M a r) pc L st) : G p l e R s m args below meth c nL D B N cel Q T M pc L st := fun H locs ls hP hS hl => k H locs ls (wl_row hc h hP) hS hl
theorem g_copyi (F : Fx p m meth c cc nL rt s args own D) {ix a b n : Nat} (hw : Cond.methodLink own ix arraycopyName ∈ gtb) (hd : De cc pc (.invokestatic ix) 3 pc1) (ha : a < N) (hb : b < N) (hca : ∀ r, cel T a r = .inl (D.2.1, n, .inl r)) (hcb : ∀ r, cel T b r = .inl (D.2.1, n, .inl r)) (hn : n < 2 ^ 31) (hfr : 1 ≤ R.frames) (hlo : (st.map fun v => v.category).sum + (nativeFrameWords "java/lang/System" "arraycopy" 5 + 11) ≤ R.locals) (k : G p l e R s m args below meth c nL D B N cel Q T (setR M a (M b)) pc1 L st) : G p l e R s m args below meth c nL D B N cel Q T M pc L (.int (nI n) :: .int (nI 0) :: .ref (B + a) :: .int (nI 0) :: .ref (B + b) :: st) := by
  obtain ⟨hd, rfl⟩ := hd
  intro H locs ls hP hS hl
  have hz : ¬ nI 0 < 0 := by decide
  have h5 := F.2.2.2.2.1
  refine va_copyi F.1 F.2.1 (F.2.2.1.trans hl.1.symm) F.2.2.2.1 (h5 _ hw) (h5 (Cond.native arraycopyName) (tw2 58 rfl)) (h5 (Cond.static arraycopyName) (tw2 57 rfl)) (h5 (Cond.initialized "java/lang/System") (tw1 11 rfl)) F.2.2.2.2.2.1 hP wl_D hS b a 0 0 (ty := .int) (wl_at hb (hcb _)) (wl_at ha (hca _)) rfl rfl rfl hz hz (nI_pos hn) (by rw [nI_clamp hn, nI_clamp (by decide)]; omega) (by rw [nI_clamp hn, nI_clamp (by decide)]; omega) (fun _ _ => rfl) hfr hlo hd (fun H1 locs1 hP1 _ hS1 => k H1 locs1 ls ?_ hS1 hl)
  rw [wl_set ha (hca _)] at hP1
  have h6 := wl_row (r := M b) hca (fun j hj => by
    rw [setR_self, nI_clamp hn, nI_clamp (by decide)]
    rw [pk_cpy_in (Nat.zero_le j) (by omega)]
    simp) hP1
  have h7 : setR (setR M a (va_cpy (M b) (M a) (nI 0).toNatClampNeg (nI 0).toNatClampNeg (nI n).toNatClampNeg)) a (M b) = setR M a (M b) := by
    funext i
    by_cases hi : i = a <;> simp [setR, hi]
  rwa [h7] at h6
theorem g_mmax (F : Fx p m meth c cc nL rt s args own D) {ix : Nat} {x y : Int32} (hw : Cond.methodLink own ix Lib.Math.max.name ∈ gtb) (hd : De cc pc (.invokestatic ix) 3 pc1) (hfr : 1 ≤ R.frames) (hlo : (st.map fun v => v.category).sum + 13 ≤ R.locals) (k : G p l e R s m args below meth c nL D B N cel Q T M pc1 L (.int (mx x y) :: st)) : G p l e R s m args below meth c nL D B N cel Q T M pc L (.int y :: .int x :: st) := by
  obtain ⟨hd, rfl⟩ := hd
  intro H locs ls hP hS hl
  have h5 := F.2.2.2.2.1
  exact va_mmax F.1 F.2.1 (F.2.2.1.trans hl.1.symm) F.2.2.2.1 (h5 _ hw) (h5 (Cond.static Lib.Math.max.name) (tw2 106 rfl)) (h5 (Cond.initialized "java/lang/Math") (tw1 10 rfl)) (h5 (Cond.code Lib.Math.max.name Lib.Math.max.code 2 (some .int)) (tw2 107 rfl)) hfr hlo (Nat.zero_le _) (Nat.zero_le _) hd (k H locs ls hP hS hl)
theorem g_mmin (F : Fx p m meth c cc nL rt s args own D) {ix : Nat} {x y : Int32} (hw : Cond.methodLink own ix Lib.Math.min.name ∈ gtb) (hd : De cc pc (.invokestatic ix) 3 pc1) (hfr : 1 ≤ R.frames) (hlo : (st.map fun v => v.category).sum + 13 ≤ R.locals) (k : G p l e R s m args below meth c nL D B N cel Q T M pc1 L (.int (mn x y) :: st)) : G p l e R s m args below meth c nL D B N cel Q T M pc L (.int y :: .int x :: st) := by
  obtain ⟨hd, rfl⟩ := hd
  intro H locs ls hP hS hl
  have h5 := F.2.2.2.2.1
  exact va_mmin F.1 F.2.1 (F.2.2.1.trans hl.1.symm) F.2.2.2.1 (h5 _ hw) (h5 (Cond.static Lib.Math.min.name) (tw2 22 rfl)) (h5 (Cond.initialized "java/lang/Math") (tw1 10 rfl)) (h5 (Cond.code Lib.Math.min.name Lib.Math.min.code 2 (some .int)) (tw2 23 rfl)) hfr hlo (Nat.zero_le _) (Nat.zero_le _) hd (k H locs ls hP hS hl)
end GM
end
section
def adS (M : Mem) (a p k : Nat) (t : Int32) : Mem := up2 (up2 M (a + 3) (p * 4 + k) (M (a + 3) (p * 4 + k) + t)) (a + 4) p (M (a + 4) p + t)
theorem adS_eq (M : Mem) (a p k : Nat) (t : Int32) : up2 (up2 M (a + 3) (p * 4 + k) (M (a + 3) (p * 4 + k) + t)) (a + 4) p (up2 M (a + 3) (p * 4 + k) (M (a + 3) (p * 4 + k) + t) (a + 4) p + t) = adS M a p k t := by
  unfold adS
  rw [up2_ne M _ (show a + 4 ≠ a + 3 by omega)]
def seeS (M : Mem) (a p k : Nat) : Mem := if M (a + 3) (p * 4 + k) < nI 999 then adS M a p k (nI 1) else M
def crS (M : Mem) (a : Nat) (p : Int32) : Mem := if p = M a 0 ∨ p < 0 ∨ nI 5 ≤ p then M else up2 (up2 M a 0 p) (a + 2) p.toNatClampNeg (M (a + 2) p.toNatClampNeg + nI 1)
set_option maxRecDepth 100000 in
set_option maxHeartbeats 4000000 in
theorem k_X2_seenOf (l : Launch) (D : DX) (B : Nat) (T : Int64) (M : Mem) (a : Nat) (ha : IsNow D B a) (p k : Nat) (hp : p < 5) (hk : k < 4) : Ci l D B 108 (celC D B) yX2_seenOf cX2_seenOf 3 (some .int) 0 [.ref (B + a), .int (nI p), .int (nI k)] T M (fun r T1 M1 => r = M (a + 3) (p * 4 + k) ∧ T1 = T ∧ M1 = M) := by
  refine g_entryi (L := [(0, .ref (B + a)), (1, .int (nI p)), (2, .int (nI k))]) (by decide) (Nat.le_of_ble_eq_true rfl) rfl ?_
  intro zp ze zs zm zb zt zc Q F hQ
  refine g_aload_n F 0 (dk dtX2_seenOf_0 0 rfl) rfl ?_
  refine g_get F fa_X2_22 (dk dtX2_seenOf_0 1 rfl) (by have := ha.1; omega) (ha.2.1 _ _) rfl ?_
  refine g_iload_n F 1 (dk dtX2_seenOf_0 2 rfl) rfl ?_
  refine g_iconst F (nI 4) (dk dtX2_seenOf_0 3 rfl) (by decide) ?_
  refine g_imulN F (dk dtX2_seenOf_0 4 rfl) ?_
  refine g_iload_n F 2 (dk dtX2_seenOf_0 5 rfl) rfl ?_
  refine g_iaddN F (dk dtX2_seenOf_0 6 rfl) ?_
  refine g_iald F ((p * 4) + k) (dk dtX2_seenOf_0 7 rfl) (by have := ha.1; omega) (ha.2.2.2.2.1 _ _) (by omega) (by decide) ?_
  refine g_iret (F := F) hQ (dk dtX2_seenOf_0 8 rfl) ?_
  exact ⟨rfl, rfl, rfl⟩
set_option maxRecDepth 100000 in
set_option maxHeartbeats 4000000 in
theorem k_X2_addSeen (l : Launch) (D : DX) (B : Nat) (T : Int64) (M : Mem) (a : Nat) (ha : IsNow D B a) (p k : Nat) (hp : p < 5) (hk : k < 4) (t : Int32) : Cv l D B 108 (celC D B) yX2_addSeen cX2_addSeen 4 none 0 [.ref (B + a), .int (nI p), .int (nI k), .int t] T M (fun T1 M1 => T1 = T ∧ M1 = adS M a p k t) := by
  refine g_entryv (L := [(0, .ref (B + a)), (1, .int (nI p)), (2, .int (nI k)), (3, .int t)]) (by decide) (Nat.le_of_ble_eq_true rfl) rfl ?_
  intro zp ze zs zm zb zt zc Q F hQ
  refine g_aload_n F 0 (dk dtX2_addSeen_0 0 rfl) rfl ?_
  refine g_get F fa_X2_22 (dk dtX2_addSeen_0 1 rfl) (by have := ha.1; omega) (ha.2.1 _ _) rfl ?_
  refine g_iload_n F 1 (dk dtX2_addSeen_0 2 rfl) rfl ?_
  refine g_iconst F (nI 4) (dk dtX2_addSeen_0 3 rfl) (by decide) ?_
  refine g_imulN F (dk dtX2_addSeen_0 4 rfl) ?_
  refine g_iload_n F 2 (dk dtX2_addSeen_0 5 rfl) rfl ?_
  refine g_iaddN F (dk dtX2_addSeen_0 6 rfl) ?_
  refine g_dup2 F (dk dtX2_addSeen_0 7 rfl) rfl rfl ?_
  refine g_iald F ((p * 4) + k) (dk dtX2_addSeen_0 8 rfl) (by have := ha.1; omega) (ha.2.2.2.2.1 _ _) (by omega) (by decide) ?_
  refine g_iload_n F 3 (dk dtX2_addSeen_0 9 rfl) rfl ?_
  refine g_iadd F (dk dtX2_addSeen_0 10 rfl) ?_
  refine g_iast F ((p * 4) + k) (dk dtX2_addSeen_0 11 rfl) (by have := ha.1; omega) (fun r => ha.2.2.2.2.1 _ r) (by omega) (by decide) ?_
  refine g_aload_n F 0 (dk dtX2_addSeen_0 12 rfl) rfl ?_
  refine g_get F fa_X2_25 (dk dtX2_addSeen_0 13 rfl) (by have := ha.1; omega) (ha.2.1 _ _) rfl ?_
  refine g_iload_n F 1 (dk dtX2_addSeen_0 14 rfl) rfl ?_
  refine g_dup2 F (dk dtX2_addSeen_0 15 rfl) rfl rfl ?_
  refine g_iald F (p) (dk dtX2_addSeen_0 16 rfl) (by have := ha.1; omega) (ha.2.2.2.2.2 _ _) (by omega) (by decide) ?_
  refine g_iload_n F 3 (dk dtX2_addSeen_0 17 rfl) rfl ?_
  refine g_iadd F (dk dtX2_addSeen_0 18 rfl) ?_
  refine g_iast F (p) (dk dtX2_addSeen_0 19 rfl) (by have := ha.1; omega) (fun r => ha.2.2.2.2.2 _ r) (by omega) (by decide) ?_
  refine g_vret (F := F) hQ (dk dtX2_addSeen_0 20 rfl) ?_
  exact ⟨rfl, adS_eq _ _ _ _ _⟩
set_option maxRecDepth 100000 in
set_option maxHeartbeats 4000000 in
theorem k_X2_see (l : Launch) (D : DX) (B : Nat) (T : Int64) (M : Mem) (a : Nat) (ha : IsNow D B a) (p k : Nat) (hp : p < 5) (hk : k < 4) : Cv l D B 108 (celC D B) yX2_see cX2_see 3 none 1 [.ref (B + a), .int (nI p), .int (nI k)] T M (fun T1 M1 => T1 = T ∧ M1 = seeS M a p k) := by
  refine g_entryv (L := [(0, .ref (B + a)), (1, .int (nI p)), (2, .int (nI k))]) (by decide) (Nat.le_of_ble_eq_true rfl) rfl ?_
  intro zp ze zs zm zb zt zc Q F hQ
  refine g_aload_n F 0 (dk dtX2_see_0 0 rfl) rfl ?_
  refine g_iload_n F 1 (dk dtX2_see_0 1 rfl) rfl ?_
  refine g_iload_n F 2 (dk dtX2_see_0 2 rfl) rfl ?_
  refine g_callVi F (As := [.int (nI p), .int (nI k)]) (st := []) cv_X2_40 (dk dtX2_see_0 3 rfl) (by have := ha.1; omega) (ha.2.1 _ _) rfl rfl (Nat.le_of_ble_eq_true rfl) ⟨by decide, by decide⟩ (k_X2_seenOf l D B _ _ a ha _ _ (by omega) (by omega)) (fun r3 T3 M3 hp3 => ?_)
  obtain ⟨e1, e2, e3⟩ := hp3
  replace e1 := e1.symm; replace e2 := e2.symm; replace e3 := e3.symm; subst e1; subst e2; subst e3
  refine g_sipush F (nI 999) (dk dtX2_see_0 4 rfl) (by decide) ?_
  refine g_icmp_ge F 19 (dk dtX2_see_0 5 rfl) (by decide) (fun c9 => ?_) (fun c9 => ?_)
  · -- taken at 9
    refine g_vret (F := F) hQ (dk dtX2_see_0 11 rfl) ?_
    exact ⟨rfl, by first | exact (if_pos (Int32.not_le.mp c9)).symm | exact (if_neg (Int32.not_lt.mpr c9)).symm⟩
  · -- not taken at 9
    refine g_aload_n F 0 (dk dtX2_see_0 6 rfl) rfl ?_
    refine g_iload_n F 1 (dk dtX2_see_0 7 rfl) rfl ?_
    refine g_iload_n F 2 (dk dtX2_see_0 8 rfl) rfl ?_
    refine g_iconst F (nI 1) (dk dtX2_see_0 9 rfl) (by decide) ?_
    refine g_callVv F (As := [.int (nI p), .int (nI k), .int (nI 1)]) (st := []) cv_X2_44 (dk dtX2_see_0 10 rfl) (by have := ha.1; omega) (ha.2.1 _ _) rfl rfl (Nat.le_of_ble_eq_true rfl) ⟨by decide, by decide⟩ (k_X2_addSeen l D B _ _ a ha _ _ (by omega) (by omega) _) (fun T16 M16 hp16 => ?_)
    obtain ⟨e2, e3⟩ := hp16
    replace e2 := e2.symm; replace e3 := e3.symm; subst e2; subst e3
    refine g_vret (F := F) hQ (dk dtX2_see_0 11 rfl) ?_
    exact ⟨rfl, by first | exact (if_pos (Int32.not_le.mp c9)).symm | exact (if_neg (Int32.not_lt.mpr c9)).symm⟩
set_option maxRecDepth 100000 in
set_option maxHeartbeats 4000000 in
theorem k_X2_crown (l : Launch) (D : DX) (B : Nat) (T : Int64) (M : Mem) (a : Nat) (ha : IsNow D B a) (p : Int32) : Cv l D B 108 (celC D B) yX2_crown cX2_crown 2 none 0 [.ref (B + a), .int p] T M (fun T1 M1 => T1 = T ∧ M1 = crS M a p) := by
  refine g_entryv (L := [(0, .ref (B + a)), (1, .int p)]) (by decide) (Nat.le_of_ble_eq_true rfl) rfl ?_
  intro zp ze zs zm zb zt zc Q F hQ
  refine g_iload_n F 1 (dk dtX2_crown_0 0 rfl) rfl ?_
  refine g_aload_n F 0 (dk dtX2_crown_0 1 rfl) rfl ?_
  refine g_get F fa_X2_9 (dk dtX2_crown_0 2 rfl) (by have := ha.1; omega) (ha.2.1 _ _) rfl ?_
  refine g_icmp_eq F 17 (dk dtX2_crown_0 3 rfl) (by decide) (fun c5 => ?_) (fun c5 => ?_)
  · -- taken at 5
    refine g_vret (F := F) hQ (dk dtX2_crown_0 9 rfl) ?_
    refine ⟨rfl, (if_pos ?_).symm⟩
    first | exact Or.inl c5 | exact Or.inr (Or.inl c9) | exact Or.inr (Or.inr (Int32.not_lt.mp c14))
  · -- not taken at 5
    refine g_iload_n F 1 (dk dtX2_crown_0 4 rfl) rfl ?_
    refine g_if_lt F 17 (dk dtX2_crown_0 5 rfl) (by decide) (fun c9 => ?_) (fun c9 => ?_)
    · -- taken at 9
      refine g_vret (F := F) hQ (dk dtX2_crown_0 9 rfl) ?_
      refine ⟨rfl, (if_pos ?_).symm⟩
      first | exact Or.inl c5 | exact Or.inr (Or.inl c9) | exact Or.inr (Or.inr (Int32.not_lt.mp c14))
    · -- not taken at 9
      refine g_iload_n F 1 (dk dtX2_crown_0 6 rfl) rfl ?_
      refine g_iconst F (nI 5) (dk dtX2_crown_0 7 rfl) (by decide) ?_
      refine g_icmp_lt F 18 (dk dtX2_crown_0 8 rfl) (by decide) (fun c14 => ?_) (fun c14 => ?_)
      · -- taken at 14
        obtain ⟨q, hq, rfl⟩ := nI_of3 (by decide) c9 c14
        refine g_aload_n F 0 (dk dtX2_crown_0 10 rfl) rfl ?_
        refine g_iload_n F 1 (dk dtX2_crown_0 11 rfl) rfl ?_
        refine g_put F fa_X2_9 (dk dtX2_crown_0 12 rfl) (by have := ha.1; omega) (ha.2.1 _ _) (Nat.le_of_ble_eq_true rfl) rfl rfl (ha.2.1 _ _) ?_
        refine g_aload_n F 0 (dk dtX2_crown_0 13 rfl) rfl ?_
        refine g_get F fa_X2_19 (dk dtX2_crown_0 14 rfl) (by have := ha.1; omega) (ha.2.1 _ _) rfl ?_
        refine g_iload_n F 1 (dk dtX2_crown_0 15 rfl) rfl ?_
        refine g_dup2 F (dk dtX2_crown_0 16 rfl) rfl rfl ?_
        refine g_iald F (q) (dk dtX2_crown_0 17 rfl) (by have := ha.1; omega) (ha.2.2.2.1 _ _) (by omega) (by decide) ?_
        refine g_iconst F (nI 1) (dk dtX2_crown_0 18 rfl) (by decide) ?_
        refine g_iadd F (dk dtX2_crown_0 19 rfl) ?_
        refine g_iast F (q) (dk dtX2_crown_0 20 rfl) (by have := ha.1; omega) (fun r => ha.2.2.2.1 _ r) (by omega) (by decide) ?_
        refine g_vret (F := F) hQ (dk dtX2_crown_0 21 rfl) ?_
        refine ⟨rfl, ?_⟩
        have h1 : ¬ (nI q = M a 0 ∨ nI q < 0 ∨ nI 5 ≤ nI q) := fun h => by
          rcases h with h | h | h
          · exact c5 h
          · exact c9 h
          · exact absurd c14 (Int32.not_lt.mpr h)
        unfold crS
        rw [if_neg h1, nI_clamp (by omega)]
        rw [up2_ne _ _ (show a + 2 ≠ a by omega)]
      · -- not taken at 14
        refine g_vret (F := F) hQ (dk dtX2_crown_0 9 rfl) ?_
        refine ⟨rfl, (if_pos ?_).symm⟩
        first | exact Or.inl c5 | exact Or.inr (Or.inl c9) | exact Or.inr (Or.inr (Int32.not_lt.mp c14))
set_option maxRecDepth 100000 in
set_option maxHeartbeats 4000000 in
theorem k_X2_allTerms (l : Launch) (D : DX) (B : Nat) (T : Int64) (M : Mem) (a : Nat) (ha : IsNow D B a) : Ci l D B 108 (celC D B) yX2_allTerms cX2_allTerms 3 (some .int) 0 [.ref (B + a)] T M (fun r T1 M1 => r = nSum (M (a + 2)) 5 ∧ T1 = T ∧ M1 = M) := by
  refine g_entryi (L := [(0, .ref (B + a))]) (by decide) (Nat.le_of_ble_eq_true rfl) rfl ?_
  intro zp ze zs zm zb zt zc Q F hQ
  refine g_iconst F (nI 0) (dk dtX2_allTerms_0 0 rfl) (by decide) ?_
  refine g_istore_n F [(1, .int (nI 0)), (0, .ref (B + a))] (dk dtX2_allTerms_0 1 rfl) (by decide) rfl ?_
  refine g_iconst F (nI 0) (dk dtX2_allTerms_0 2 rfl) (by decide) ?_
  refine g_istore_n F [(2, .int (nI 0)), (1, .int (nI 0)), (0, .ref (B + a))] (dk dtX2_allTerms_0 3 rfl) (by decide) rfl ?_
  have lp4 : ∀ (fz : Nat) (i : Nat), i ≤ 5 → (5 - i) < fz → G zp l ze { frames := 0, cells := 0, slots := 0, locals := 40 * 0 } zs zm [.ref (B + a)].toArray zb zt zc 3 D B 108 (celC D B) Q T M 4 [(0, .ref (B + a)), (1, .int (nSum (M (a + 2)) i)), (2, .int (nI i))] [] := by
    intro n4
    induction n4 with
    | zero => intro i hI hn; exact absurd hn (Nat.not_lt_zero _)
    | succ n4 ih4 =>
      intro i hI4 hn4
      refine g_iload_n F 2 (dk dtX2_allTerms_0 4 rfl) rfl ?_
      refine g_iconst F (nI 5) (dk dtX2_allTerms_0 5 rfl) (by decide) ?_
      refine g_icmp_geN F 24 (dk dtX2_allTerms_0 6 rfl) (by decide) (by omega) (by omega) (fun c6 => ?_) (fun c6 => ?_)
      · -- taken at 6
        obtain rfl : 5 = i := by omega
        refine g_iload_n F 1 (dk dtX2_allTerms_0 16 rfl) rfl ?_
        refine g_iret (F := F) hQ (dk dtX2_allTerms_0 17 rfl) ?_
        exact ⟨rfl, rfl, rfl⟩
      · -- not taken at 6
        refine g_iload_n F 1 (dk dtX2_allTerms_0 7 rfl) rfl ?_
        refine g_aload_n F 0 (dk dtX2_allTerms_0 8 rfl) rfl ?_
        refine g_get F fa_X2_19 (dk dtX2_allTerms_0 9 rfl) (by have := ha.1; omega) (ha.2.1 _ _) rfl ?_
        refine g_iload_n F 2 (dk dtX2_allTerms_0 10 rfl) rfl ?_
        refine g_iald F (i) (dk dtX2_allTerms_0 11 rfl) (by have := ha.1; omega) (ha.2.2.2.1 _ _) (by omega) (by decide) ?_
        refine g_iadd F (dk dtX2_allTerms_0 12 rfl) ?_
        refine g_istore_n F [(1, .int ((nSum (M (a + 2)) i) + (M (a + 2) i))), (0, .ref (B + a)), (2, .int (nI i))] (dk dtX2_allTerms_0 13 rfl) (by decide) rfl ?_
        refine g_iinc F 2 (nI (i + 1)) [(2, .int (nI (i + 1))), (1, .int ((nSum (M (a + 2)) i) + (M (a + 2) i))), (0, .ref (B + a))] (dk dtX2_allTerms_0 14 rfl) rfl (nI_1 _) (by decide) rfl ?_
        refine g_goto F 4 (dk dtX2_allTerms_0 15 rfl) (by decide) ?_
        refine g_sub [2, 1, 0] (L1 := [(0, .ref (B + a)), (1, .int ((nSum (M (a + 2)) i) + (M (a + 2) i))), (2, .int (nI (i + 1)))]) rfl ?_
        exact ih4 (i + 1) (by omega) (by omega)
  refine g_sub [2, 1, 0] (L1 := [(0, .ref (B + a)), (1, .int (nI 0)), (2, .int (nI 0))]) rfl ?_
  exact lp4 6 0 (by omega) (by omega)
set_option maxRecDepth 100000 in
set_option maxHeartbeats 4000000 in
theorem k_X2_termHolders (l : Launch) (D : DX) (B : Nat) (T : Int64) (M : Mem) (a : Nat) (ha : IsNow D B a) : Ci l D B 108 (celC D B) yX2_termHolders cX2_termHolders 3 (some .int) 0 [.ref (B + a)] T M (fun r T1 M1 => r = nI (nCnt (M (a + 2)) 5) ∧ T1 = T ∧ M1 = M) := by
  refine g_entryi (L := [(0, .ref (B + a))]) (by decide) (Nat.le_of_ble_eq_true rfl) rfl ?_
  intro zp ze zs zm zb zt zc Q F hQ
  refine g_iconst F (nI 0) (dk dtX2_termHolders_0 0 rfl) (by decide) ?_
  refine g_istore_n F [(1, .int (nI 0)), (0, .ref (B + a))] (dk dtX2_termHolders_0 1 rfl) (by decide) rfl ?_
  refine g_iconst F (nI 0) (dk dtX2_termHolders_0 2 rfl) (by decide) ?_
  refine g_istore_n F [(2, .int (nI 0)), (1, .int (nI 0)), (0, .ref (B + a))] (dk dtX2_termHolders_0 3 rfl) (by decide) rfl ?_
  have lp4 : ∀ (fz : Nat) (i : Nat), i ≤ 5 → (5 - i) < fz → G zp l ze { frames := 0, cells := 0, slots := 0, locals := 40 * 0 } zs zm [.ref (B + a)].toArray zb zt zc 3 D B 108 (celC D B) Q T M 4 [(0, .ref (B + a)), (1, .int (nI (nCnt (M (a + 2)) i))), (2, .int (nI i))] [] := by
    intro n4
    induction n4 with
    | zero => intro i hI hn; exact absurd hn (Nat.not_lt_zero _)
    | succ n4 ih4 =>
      intro i hI4 hn4
      refine g_iload_n F 2 (dk dtX2_termHolders_0 4 rfl) rfl ?_
      refine g_iconst F (nI 5) (dk dtX2_termHolders_0 5 rfl) (by decide) ?_
      refine g_icmp_geN F 27 (dk dtX2_termHolders_0 6 rfl) (by decide) (by omega) (by omega) (fun c6 => ?_) (fun c6 => ?_)
      · -- taken at 6
        obtain rfl : 5 = i := by omega
        refine g_iload_n F 1 (dk dtX2_termHolders_0 15 rfl) rfl ?_
        refine g_iret (F := F) hQ (dk dtX2_termHolders_0 16 rfl) ?_
        exact ⟨rfl, rfl, rfl⟩
      · -- not taken at 6
        refine g_aload_n F 0 (dk dtX2_termHolders_0 7 rfl) rfl ?_
        refine g_get F fa_X2_19 (dk dtX2_termHolders_0 8 rfl) (by have := ha.1; omega) (ha.2.1 _ _) rfl ?_
        refine g_iload_n F 2 (dk dtX2_termHolders_0 9 rfl) rfl ?_
        refine g_iald F (i) (dk dtX2_termHolders_0 10 rfl) (by have := ha.1; omega) (ha.2.2.2.1 _ _) (by omega) (by decide) ?_
        refine g_if_le F 21 (dk dtX2_termHolders_0 11 rfl) (by decide) (fun c15 => ?_) (fun c15 => ?_)
        · -- taken at 15
          refine g_iinc F 2 (nI (i + 1)) [(2, .int (nI (i + 1))), (0, .ref (B + a)), (1, .int (nI (nCnt (M (a + 2)) i)))] (dk dtX2_termHolders_0 13 rfl) rfl (nI_1 _) (by decide) rfl ?_
          refine g_goto F 4 (dk dtX2_termHolders_0 14 rfl) (by decide) ?_
          refine g_sub [1, 2, 0] (L1 := [(0, .ref (B + a)), (1, .int (nI (nCnt (M (a + 2)) i))), (2, .int (nI (i + 1)))]) rfl ?_
          have eq4_1 : (nI (nCnt (M (a + 2)) i) : Int32) = nI (nCnt (M (a + 2)) (i + 1)) := by
            simp [nCnt, c15]
          refine g_st (M1 := M) (L1 := [(0, .ref (B + a)), (1, .int (nI (nCnt (M (a + 2)) (i + 1)))), (2, .int (nI (i + 1)))]) rfl (lc rfl (lc (vi eq4_1) (lc rfl rfl))) rfl ?_
          exact ih4 (i + 1) (by omega) (by omega)
        · -- not taken at 15
          refine g_iinc F 1 (nI (nCnt (M (a + 2)) i + 1)) [(1, .int (nI (nCnt (M (a + 2)) i + 1))), (0, .ref (B + a)), (2, .int (nI i))] (dk dtX2_termHolders_0 12 rfl) rfl (nI_1 _) (by decide) rfl ?_
          refine g_iinc F 2 (nI (i + 1)) [(2, .int (nI (i + 1))), (1, .int (nI (nCnt (M (a + 2)) i + 1))), (0, .ref (B + a))] (dk dtX2_termHolders_0 13 rfl) rfl (nI_1 _) (by decide) rfl ?_
          refine g_goto F 4 (dk dtX2_termHolders_0 14 rfl) (by decide) ?_
          refine g_sub [2, 1, 0] (L1 := [(0, .ref (B + a)), (1, .int (nI (nCnt (M (a + 2)) i + 1))), (2, .int (nI (i + 1)))]) rfl ?_
          have eq4_1 : (nI (nCnt (M (a + 2)) i + 1) : Int32) = nI (nCnt (M (a + 2)) (i + 1)) := by
            simp [nCnt, c15]
          refine g_st (M1 := M) (L1 := [(0, .ref (B + a)), (1, .int (nI (nCnt (M (a + 2)) (i + 1)))), (2, .int (nI (i + 1)))]) rfl (lc rfl (lc (vi eq4_1) (lc rfl rfl))) rfl ?_
          exact ih4 (i + 1) (by omega) (by omega)
  refine g_sub [2, 1, 0] (L1 := [(0, .ref (B + a)), (1, .int (nI 0)), (2, .int (nI 0))]) rfl ?_
  exact lp4 6 0 (by omega) (by omega)
end
section
def fl (f : Nat → Int32) (v : Int32) (n : Nat) : Nat → Int32 := fun j => if j < n then v else f j
theorem fl_0 (M : Mem) (b : Nat) (v : Int32) : M = setR M b (fl (M b) v 0) := by
  funext i
  by_cases h : i = b
  · subst h
    rw [setR_self]
    funext j
    simp [fl]
  · rw [setR_ne _ _ h]
theorem fl_in (M : Mem) (b : Nat) (v : Int32) {n j : Nat} (h : j < n) : setR M b (fl (M b) v n) b j = v := by
  rw [setR_self]
  simp [fl, h]
theorem setR_setR (M : Mem) (k : Nat) (r r1 : Nat → Int32) : setR (setR M k r) k r1 = setR M k r1 := by
  funext i
  by_cases h : i = k <;> simp [setR, h]
theorem fl_s (M : Mem) (b : Nat) (v : Int32) (n : Nat) : up2 (setR M b (fl (M b) v n)) b n v = setR M b (fl (M b) v (n + 1)) := by
  unfold up2
  rw [setR_setR, setR_self]
  congr 1
  funext j
  by_cases h : j = n
  · subst h; simp [upd, fl]
  · by_cases h2 : j < n
    · simp [upd, fl, h, h2, Nat.lt_succ_of_lt h2]
    · simp [upd, fl, h, h2, show ¬ j < n + 1 by omega]
theorem nowSep {D : DX} {B a b : Nat} (ha : IsNow D B a) (hb : IsNow D B b) {i : Nat} (h1 : 1 ≤ i) (h4 : i ≤ 4) : a ≠ b + i := by
  intro h
  subst h
  have e1 := ha.2.1 0 (fun _ => 0)
  rcases (show i = 1 ∨ i = 2 ∨ i = 3 ∨ i = 4 by omega) with rfl | rfl | rfl | rfl
  · rw [hb.2.2.1] at e1; simp [sI, sNow] at e1
  · rw [hb.2.2.2.1] at e1; simp [sI, sNow] at e1
  · rw [hb.2.2.2.2.1] at e1; simp [sI, sNow] at e1
  · rw [hb.2.2.2.2.2] at e1; simp [sI, sNow] at e1
theorem nowTown {D : DX} {B a : Nat} (ha : IsNow D B a) {i : Nat} (h4 : i ≤ 4) : a + i ≠ 10 ∧ a + i ≠ 11 := by
  have e1 := ha.2.1 0 (fun _ => 0)
  refine ⟨fun h => ?_, fun h => ?_⟩
  · rcases (show a = 10 ∨ a = 9 ∨ a = 8 ∨ a = 7 ∨ a = 6 by omega) with rfl | rfl | rfl | rfl | rfl
    · rw [cc10] at e1; simp [sTown, sNow] at e1
    · rw [cc9] at e1; simp [sI, sNow] at e1
    · rw [cc8] at e1; simp [sI, sNow] at e1
    · rw [cc7] at e1; simp [sI, sNow] at e1
    · rw [cc6] at e1; simp [sI, sNow] at e1
  · rcases (show a = 11 ∨ a = 10 ∨ a = 9 ∨ a = 8 ∨ a = 7 by omega) with rfl | rfl | rfl | rfl | rfl
    · rw [cc11] at e1; simp [sI, sNow] at e1
    · rw [cc10] at e1; simp [sTown, sNow] at e1
    · rw [cc9] at e1; simp [sI, sNow] at e1
    · rw [cc8] at e1; simp [sI, sNow] at e1
    · rw [cc7] at e1; simp [sI, sNow] at e1
theorem pos_ne {x : Int32} (h : 0 < x) : ¬ x = 0 := fun e => by subst e; exact absurd h (by decide)
def cpN (M : Mem) (a b : Nat) : Mem := setR (setR (setR (setR (up2 M a 0 (M b 0)) (a + 1) (M (b + 1))) (a + 2) (M (b + 2))) (a + 3) (M (b + 3))) (a + 4) (M (b + 4))
theorem cpN_eq {D : DX} {B a b : Nat} (ha : IsNow D B a) (hb : IsNow D B b) (M : Mem) : (fun M => setR M (a + 4) (M (b + 4))) ((fun M => setR M (a + 3) (M (b + 3))) ((fun M => setR M (a + 2) (M (b + 2))) ((fun M => setR M (a + 1) (M (b + 1))) (up2 M a 0 (M b 0))))) = cpN M a b := by
  have h1 := nowSep ha hb (i := 1) (by decide) (by decide)
  have h2 := nowSep ha hb (i := 2) (by decide) (by decide)
  have h3 := nowSep ha hb (i := 3) (by decide) (by decide)
  have h4 := nowSep ha hb (i := 4) (by decide) (by decide)
  unfold cpN
  dsimp only
  rw [up2_ne M _ (Ne.symm h1), setR_ne _ _ (show b + 2 ≠ a + 1 by omega), up2_ne M _ (Ne.symm h2), setR_ne _ _ (show b + 3 ≠ a + 2 by omega), setR_ne _ _ (show b + 3 ≠ a + 1 by omega), up2_ne M _ (Ne.symm h3), setR_ne _ _ (show b + 4 ≠ a + 3 by omega), setR_ne _ _ (show b + 4 ≠ a + 2 by omega), setR_ne _ _ (show b + 4 ≠ a + 1 by omega), up2_ne M _ (Ne.symm h4)]
def rsN (M : Mem) (a : Nat) : Mem := setR (setR (setR (setR (up2 M a 0 (-9)) (a + 1) (fun _ => nI 0)) (a + 2) (fun _ => nI 0)) (a + 3) (fun _ => nI 0)) (a + 4) (fun _ => nI 0)
theorem rsN_eq (M : Mem) (a : Nat) : setR (setR (setR (setR (up2 M a 0 (-9)) (a + 1) (fun _ => nI 0)) (a + 2) (fun _ => nI 0)) (a + 3) (fun _ => nI 0)) (a + 4) (fun _ => nI 0) = rsN M a := rfl
def rsT (M : Mem) : Mem := setR (up2 (up2 (up2 M 3 0 (nI 3)) 3 1 (nI 2)) 3 2 (nI 0)) 4 (fun _ => nI 0)
def cpT (M : Mem) : Mem := setR (up2 (up2 (up2 M 10 0 (M 3 0)) 10 1 (M 3 1)) 10 2 (M 3 2)) 11 (M 4)
def shk (M : Mem) (a p k : Nat) : Int32 := if 0 < M (a + 4) p + M 10 0 then nI 100 - nI 100 * (M (a + 3) (p * 4 + k) + nI 1) / (M (a + 4) p + M 10 0) else nI 0
def gshK (M : Mem) (a p : Nat) : Nat → Int32 → Int32
  | 0, m => m
  | k + 1, m => mx (gshK M a p k m) (shk M a p k)
def gsh (M : Mem) (a K : Nat) : Nat → Int32
  | 0 => -1
  | p + 1 => gshK M a p K (gsh M a K p)
def jmp (M : Mem) (a k : Nat) (x : Int32) : Nat → Int32
  | 0 => nI 0
  | n + 1 => if M (a + 1) n = x ∧ M 11 n ≤ shk M a n k then jmp M a k x n ||| (nI 1 <<< (nI n &&& 31)) else jmp M a k x n
def myb (M : Mem) (a k : Nat) (x : Int32) : Nat → Int32 × Int32
  | 0 => (M a 0, -1)
  | n + 1 => if M (a + 1) n = x ∧ M 11 n ≤ shk M a n k ∧ (myb M a k x n).2 < shk M a n k then (nI n, shk M a n k) else myb M a k x n
def hsM (M : Mem) (a k : Nat) (x : Int32) (P : Nat) : Nat → Mem
  | 0 => crS M a (myb M a k x P).1
  | n + 1 => if M (a + 1) n = x then seeS (hsM M a k x P n) a n k else hsM M a k x P n
def hpM (M : Mem) (a k : Nat) (x : Int32) (P : Nat) : Mem := hsM M a k x P P
theorem adS_fr (M : Mem) (a p k : Nat) (t : Int32) {c : Nat} (h : c ≠ a + 3 ∧ c ≠ a + 4) : adS M a p k t c = M c := by
  unfold adS
  rw [up2_ne _ _ h.2, up2_ne _ _ h.1]
theorem seeS_fr (M : Mem) (a p k : Nat) {c : Nat} (h : c ≠ a + 3 ∧ c ≠ a + 4) : seeS M a p k c = M c := by
  unfold seeS
  split
  · exact adS_fr M a p k _ h
  · rfl
theorem crS_fr (M : Mem) (a : Nat) (p : Int32) {c : Nat} (h : c ≠ a ∧ c ≠ a + 2) : crS M a p c = M c := by
  unfold crS
  split
  · rfl
  · rw [up2_ne _ _ h.2, up2_ne _ _ h.1]
theorem hsM_fr (M : Mem) (a k : Nat) (x : Int32) (P n : Nat) {c : Nat} (h : c ≠ a ∧ c ≠ a + 2 ∧ c ≠ a + 3 ∧ c ≠ a + 4) : hsM M a k x P n c = M c := by
  induction n with
  | zero => exact crS_fr M a _ ⟨h.1, h.2.1⟩
  | succ n ih =>
    show (if M (a + 1) n = x then seeS (hsM M a k x P n) a n k else hsM M a k x P n) c = M c
    split
    · rw [seeS_fr _ _ _ _ ⟨h.2.2.1, h.2.2.2⟩, ih]
    · exact ih
theorem hsM_pl {D : DX} {B a : Nat} (ha : IsNow D B a) {M : Mem} {k : Nat} {x : Int32} {P n : Nat} : hsM M a k x P n (a + 1) = M (a + 1) := hsM_fr M a k x P n (by omega)
theorem hsM_P {D : DX} {B a : Nat} (ha : IsNow D B a) {M : Mem} {k : Nat} {x : Int32} {P n : Nat} {v : Int32} (h : M 10 2 = v) : hsM M a k x P n 10 2 = v := by
  have e0 := nowTown ha (i := 0) (by decide)
  have e2 := nowTown ha (i := 2) (by decide)
  have e3 := nowTown ha (i := 3) (by decide)
  have e4 := nowTown ha (i := 4) (by decide)
  rw [hsM_fr M a k x P n ⟨Ne.symm e0.1, Ne.symm e2.1, Ne.symm e3.1, Ne.symm e4.1⟩]
  exact h
set_option maxRecDepth 100000 in
set_option maxHeartbeats 4000000 in
theorem k_fill5 (l : Launch) (D : DX) (B : Nat) (T : Int64) (M : Mem) (b : Nat) (hb : b < 108 ∧ ∀ T r, celC D B T b r = sI D 5 T r) (v : Int32) : Cv l D B 108 (celC D B) yJ7_fill_53178 cJ7_fill_53178 4 none 0 [.ref (B + b), .int v] T M (fun T1 M1 => T1 = T ∧ M1 = setR M b (fun _ => v)) := by
  refine g_entryv (L := [(0, .ref (B + b)), (1, .int v)]) (by decide) (Nat.le_of_ble_eq_true rfl) rfl ?_
  intro zp ze zs zm zb zt zc Q F hQ
  refine g_iconst F (nI 0) (dk dtJ7_fill_53178_0 0 rfl) (by decide) ?_
  refine g_istore_n F [(2, .int (nI 0)), (0, .ref (B + b)), (1, .int v)] (dk dtJ7_fill_53178_0 1 rfl) (by decide) rfl ?_
  refine g_aload_n F 1 (dk dtJ7_fill_53178_0 2 rfl) rfl ?_
  refine g_alen F (dk dtJ7_fill_53178_0 3 rfl) (by have := hb.1; omega) (hb.2 _ _) ?_
  refine g_istore_n F [(3, .int (nI 5)), (2, .int (nI 0)), (0, .ref (B + b)), (1, .int v)] (dk dtJ7_fill_53178_0 4 rfl) (by decide) rfl ?_
  have lp5 : ∀ (fz : Nat) (i : Nat), i ≤ 5 → (5 - i) < fz → G zp l ze { frames := 0, cells := 0, slots := 0, locals := 40 * 0 } zs zm [.ref (B + b), .int v].toArray zb zt zc 4 D B 108 (celC D B) Q T (setR M b (fl (M b) v i)) 5 [(0, .ref (B + b)), (1, .int v), (2, .int (nI i)), (3, .int (nI 5))] [] := by
    intro n5
    induction n5 with
    | zero => intro i hI hn; exact absurd hn (Nat.not_lt_zero _)
    | succ n5 ih5 =>
      intro i hI5 hn5
      refine g_iload_n F 2 (dk dtJ7_fill_53178_0 5 rfl) rfl ?_
      refine g_iload_n F 3 (dk dtJ7_fill_53178_0 6 rfl) rfl ?_
      refine g_icmp_geN F 20 (dk dtJ7_fill_53178_0 7 rfl) (by decide) (by omega) (by omega) (fun c7 => ?_) (fun c7 => ?_)
      · -- taken at 7
        obtain rfl : 5 = i := by omega
        refine g_row (fun _ => v) (fun r => hb.2 _ r) (fun j hj => fl_in _ _ _ hj) ?_
        refine g_mem (setR_setR _ _ _ _) ?_
        refine g_vret (F := F) hQ (dk dtJ7_fill_53178_0 14 rfl) ?_
        exact ⟨rfl, rfl⟩
      · -- not taken at 7
        refine g_aload_n F 0 (dk dtJ7_fill_53178_0 8 rfl) rfl ?_
        refine g_iload_n F 2 (dk dtJ7_fill_53178_0 9 rfl) rfl ?_
        refine g_iload_n F 1 (dk dtJ7_fill_53178_0 10 rfl) rfl ?_
        refine g_iast F (i) (dk dtJ7_fill_53178_0 11 rfl) (by have := hb.1; omega) (fun r => hb.2 _ r) (by omega) (by decide) ?_
        refine g_iinc F 2 (nI (i + 1)) [(2, .int (nI (i + 1))), (0, .ref (B + b)), (1, .int v), (3, .int (nI 5))] (dk dtJ7_fill_53178_0 12 rfl) rfl (nI_1 _) (by decide) rfl ?_
        refine g_goto F 5 (dk dtJ7_fill_53178_0 13 rfl) (by decide) ?_
        refine g_sub [1, 2, 0, 3] (L1 := [(0, .ref (B + b)), (1, .int v), (2, .int (nI (i + 1))), (3, .int (nI 5))]) rfl ?_
        refine g_st (M1 := setR M b (fl (M b) v (i + 1))) (L1 := [(0, .ref (B + b)), (1, .int v), (2, .int (nI (i + 1))), (3, .int (nI 5))]) (by exact fl_s _ _ _ _) rfl rfl ?_
        exact ih5 (i + 1) (by omega) (by omega)
  refine g_sub [2, 3, 1, 0] (L1 := [(0, .ref (B + b)), (1, .int v), (2, .int (nI 0)), (3, .int (nI 5))]) rfl ?_
  refine g_mem (fl_0 M b v) ?_
  exact lp5 6 0 (by omega) (by omega)
set_option maxRecDepth 100000 in
set_option maxHeartbeats 4000000 in
theorem k_fill20 (l : Launch) (D : DX) (B : Nat) (T : Int64) (M : Mem) (b : Nat) (hb : b < 108 ∧ ∀ T r, celC D B T b r = sI D 20 T r) (v : Int32) : Cv l D B 108 (celC D B) yJ7_fill_53178 cJ7_fill_53178 4 none 0 [.ref (B + b), .int v] T M (fun T1 M1 => T1 = T ∧ M1 = setR M b (fun _ => v)) := by
  refine g_entryv (L := [(0, .ref (B + b)), (1, .int v)]) (by decide) (Nat.le_of_ble_eq_true rfl) rfl ?_
  intro zp ze zs zm zb zt zc Q F hQ
  refine g_iconst F (nI 0) (dk dtJ7_fill_53178_0 0 rfl) (by decide) ?_
  refine g_istore_n F [(2, .int (nI 0)), (0, .ref (B + b)), (1, .int v)] (dk dtJ7_fill_53178_0 1 rfl) (by decide) rfl ?_
  refine g_aload_n F 1 (dk dtJ7_fill_53178_0 2 rfl) rfl ?_
  refine g_alen F (dk dtJ7_fill_53178_0 3 rfl) (by have := hb.1; omega) (hb.2 _ _) ?_
  refine g_istore_n F [(3, .int (nI 20)), (2, .int (nI 0)), (0, .ref (B + b)), (1, .int v)] (dk dtJ7_fill_53178_0 4 rfl) (by decide) rfl ?_
  have lp5 : ∀ (fz : Nat) (i : Nat), i ≤ 20 → (20 - i) < fz → G zp l ze { frames := 0, cells := 0, slots := 0, locals := 40 * 0 } zs zm [.ref (B + b), .int v].toArray zb zt zc 4 D B 108 (celC D B) Q T (setR M b (fl (M b) v i)) 5 [(0, .ref (B + b)), (1, .int v), (2, .int (nI i)), (3, .int (nI 20))] [] := by
    intro n5
    induction n5 with
    | zero => intro i hI hn; exact absurd hn (Nat.not_lt_zero _)
    | succ n5 ih5 =>
      intro i hI5 hn5
      refine g_iload_n F 2 (dk dtJ7_fill_53178_0 5 rfl) rfl ?_
      refine g_iload_n F 3 (dk dtJ7_fill_53178_0 6 rfl) rfl ?_
      refine g_icmp_geN F 20 (dk dtJ7_fill_53178_0 7 rfl) (by decide) (by omega) (by omega) (fun c7 => ?_) (fun c7 => ?_)
      · -- taken at 7
        obtain rfl : 20 = i := by omega
        refine g_row (fun _ => v) (fun r => hb.2 _ r) (fun j hj => fl_in _ _ _ hj) ?_
        refine g_mem (setR_setR _ _ _ _) ?_
        refine g_vret (F := F) hQ (dk dtJ7_fill_53178_0 14 rfl) ?_
        exact ⟨rfl, rfl⟩
      · -- not taken at 7
        refine g_aload_n F 0 (dk dtJ7_fill_53178_0 8 rfl) rfl ?_
        refine g_iload_n F 2 (dk dtJ7_fill_53178_0 9 rfl) rfl ?_
        refine g_iload_n F 1 (dk dtJ7_fill_53178_0 10 rfl) rfl ?_
        refine g_iast F (i) (dk dtJ7_fill_53178_0 11 rfl) (by have := hb.1; omega) (fun r => hb.2 _ r) (by omega) (by decide) ?_
        refine g_iinc F 2 (nI (i + 1)) [(2, .int (nI (i + 1))), (0, .ref (B + b)), (1, .int v), (3, .int (nI 20))] (dk dtJ7_fill_53178_0 12 rfl) rfl (nI_1 _) (by decide) rfl ?_
        refine g_goto F 5 (dk dtJ7_fill_53178_0 13 rfl) (by decide) ?_
        refine g_sub [1, 2, 0, 3] (L1 := [(0, .ref (B + b)), (1, .int v), (2, .int (nI (i + 1))), (3, .int (nI 20))]) rfl ?_
        refine g_st (M1 := setR M b (fl (M b) v (i + 1))) (L1 := [(0, .ref (B + b)), (1, .int v), (2, .int (nI (i + 1))), (3, .int (nI 20))]) (by exact fl_s _ _ _ _) rfl rfl ?_
        exact ih5 (i + 1) (by omega) (by omega)
  refine g_sub [2, 3, 1, 0] (L1 := [(0, .ref (B + b)), (1, .int v), (2, .int (nI 0)), (3, .int (nI 20))]) rfl ?_
  refine g_mem (fl_0 M b v) ?_
  exact lp5 21 0 (by omega) (by omega)
set_option maxRecDepth 100000 in
set_option maxHeartbeats 4000000 in
theorem k_X2_copyFrom (l : Launch) (D : DX) (B : Nat) (T : Int64) (M : Mem) (a b : Nat) (ha : IsNow D B a) (hb : IsNow D B b) : Cv l D B 108 (celC D B) yX2_copyFrom cX2_copyFrom 2 none 2 [.ref (B + a), .ref (B + b)] T M (fun T1 M1 => T1 = T ∧ M1 = cpN M a b) := by
  refine g_entryv (L := [(0, .ref (B + a)), (1, .ref (B + b))]) (by decide) (Nat.le_of_ble_eq_true rfl) rfl ?_
  intro zp ze zs zm zb zt zc Q F hQ
  refine g_aload_n F 0 (dk dtX2_copyFrom_0 0 rfl) rfl ?_
  refine g_aload_n F 1 (dk dtX2_copyFrom_0 1 rfl) rfl ?_
  refine g_get F fa_X2_9 (dk dtX2_copyFrom_0 2 rfl) (by have := hb.1; omega) (hb.2.1 _ _) rfl ?_
  refine g_put F fa_X2_9 (dk dtX2_copyFrom_0 3 rfl) (by have := ha.1; omega) (ha.2.1 _ _) (Nat.le_of_ble_eq_true rfl) rfl rfl (ha.2.1 _ _) ?_
  refine g_aload_n F 1 (dk dtX2_copyFrom_0 4 rfl) rfl ?_
  refine g_get F fa_X2_15 (dk dtX2_copyFrom_0 5 rfl) (by have := hb.1; omega) (hb.2.1 _ _) rfl ?_
  refine g_iconst F (nI 0) (dk dtX2_copyFrom_0 6 rfl) (by decide) ?_
  refine g_aload_n F 0 (dk dtX2_copyFrom_0 7 rfl) rfl ?_
  refine g_get F fa_X2_15 (dk dtX2_copyFrom_0 8 rfl) (by have := ha.1; omega) (ha.2.1 _ _) rfl ?_
  refine g_iconst F (nI 0) (dk dtX2_copyFrom_0 9 rfl) (by decide) ?_
  refine g_iconst F (nI 5) (dk dtX2_copyFrom_0 10 rfl) (by decide) ?_
  refine g_copyi F (tw2 63 rfl) (dk dtX2_copyFrom_0 11 rfl) (by have := ha.1; omega) (by have := hb.1; omega) (fun r => ha.2.2.1 _ r) (fun r => hb.2.2.1 _ r) (by decide) (by decide) (by decide) ?_
  refine g_aload_n F 1 (dk dtX2_copyFrom_0 12 rfl) rfl ?_
  refine g_get F fa_X2_19 (dk dtX2_copyFrom_0 13 rfl) (by have := hb.1; omega) (hb.2.1 _ _) rfl ?_
  refine g_iconst F (nI 0) (dk dtX2_copyFrom_0 14 rfl) (by decide) ?_
  refine g_aload_n F 0 (dk dtX2_copyFrom_0 15 rfl) rfl ?_
  refine g_get F fa_X2_19 (dk dtX2_copyFrom_0 16 rfl) (by have := ha.1; omega) (ha.2.1 _ _) rfl ?_
  refine g_iconst F (nI 0) (dk dtX2_copyFrom_0 17 rfl) (by decide) ?_
  refine g_iconst F (nI 5) (dk dtX2_copyFrom_0 18 rfl) (by decide) ?_
  refine g_copyi F (tw2 63 rfl) (dk dtX2_copyFrom_0 19 rfl) (by have := ha.1; omega) (by have := hb.1; omega) (fun r => ha.2.2.2.1 _ r) (fun r => hb.2.2.2.1 _ r) (by decide) (by decide) (by decide) ?_
  refine g_aload_n F 1 (dk dtX2_copyFrom_0 20 rfl) rfl ?_
  refine g_get F fa_X2_22 (dk dtX2_copyFrom_0 21 rfl) (by have := hb.1; omega) (hb.2.1 _ _) rfl ?_
  refine g_iconst F (nI 0) (dk dtX2_copyFrom_0 22 rfl) (by decide) ?_
  refine g_aload_n F 0 (dk dtX2_copyFrom_0 23 rfl) rfl ?_
  refine g_get F fa_X2_22 (dk dtX2_copyFrom_0 24 rfl) (by have := ha.1; omega) (ha.2.1 _ _) rfl ?_
  refine g_iconst F (nI 0) (dk dtX2_copyFrom_0 25 rfl) (by decide) ?_
  refine g_bipush F (nI 20) (dk dtX2_copyFrom_0 26 rfl) (by decide) ?_
  refine g_copyi F (tw2 63 rfl) (dk dtX2_copyFrom_0 27 rfl) (by have := ha.1; omega) (by have := hb.1; omega) (fun r => ha.2.2.2.2.1 _ r) (fun r => hb.2.2.2.2.1 _ r) (by decide) (by decide) (by decide) ?_
  refine g_aload_n F 1 (dk dtX2_copyFrom_0 28 rfl) rfl ?_
  refine g_get F fa_X2_25 (dk dtX2_copyFrom_0 29 rfl) (by have := hb.1; omega) (hb.2.1 _ _) rfl ?_
  refine g_iconst F (nI 0) (dk dtX2_copyFrom_0 30 rfl) (by decide) ?_
  refine g_aload_n F 0 (dk dtX2_copyFrom_0 31 rfl) rfl ?_
  refine g_get F fa_X2_25 (dk dtX2_copyFrom_0 32 rfl) (by have := ha.1; omega) (ha.2.1 _ _) rfl ?_
  refine g_iconst F (nI 0) (dk dtX2_copyFrom_0 33 rfl) (by decide) ?_
  refine g_iconst F (nI 5) (dk dtX2_copyFrom_0 34 rfl) (by decide) ?_
  refine g_copyi F (tw2 63 rfl) (dk dtX2_copyFrom_0 35 rfl) (by have := ha.1; omega) (by have := hb.1; omega) (fun r => ha.2.2.2.2.2 _ r) (fun r => hb.2.2.2.2.2 _ r) (by decide) (by decide) (by decide) ?_
  refine g_vret (F := F) hQ (dk dtX2_copyFrom_0 36 rfl) ?_
  exact ⟨rfl, cpN_eq (D := D) (B := B) ha hb _⟩
set_option maxRecDepth 100000 in
set_option maxHeartbeats 4000000 in
theorem k_X2_reset (l : Launch) (D : DX) (B : Nat) (T : Int64) (M : Mem) (a : Nat) (ha : IsNow D B a) : Cv l D B 108 (celC D B) yX2_reset cX2_reset 1 none 1 [.ref (B + a)] T M (fun T1 M1 => T1 = T ∧ M1 = rsN M a) := by
  refine g_entryv (L := [(0, .ref (B + a))]) (by decide) (Nat.le_of_ble_eq_true rfl) rfl ?_
  intro zp ze zs zm zb zt zc Q F hQ
  refine g_aload_n F 0 (dk dtX2_reset_0 0 rfl) rfl ?_
  refine g_bipush F (-9) (dk dtX2_reset_0 1 rfl) (by decide) ?_
  refine g_put F fa_X2_9 (dk dtX2_reset_0 2 rfl) (by have := ha.1; omega) (ha.2.1 _ _) (Nat.le_of_ble_eq_true rfl) rfl rfl (ha.2.1 _ _) ?_
  refine g_aload_n F 0 (dk dtX2_reset_0 3 rfl) rfl ?_
  refine g_get F fa_X2_15 (dk dtX2_reset_0 4 rfl) (by have := ha.1; omega) (ha.2.1 _ _) rfl ?_
  refine g_iconst F (nI 0) (dk dtX2_reset_0 5 rfl) (by decide) ?_
  refine g_callSv F (As := [.ref (B + (a + 1)), .int (nI 0)]) (st := []) cs_X2_28 (dk dtX2_reset_0 6 rfl) rfl rfl (Nat.le_of_ble_eq_true rfl) ⟨by decide, by decide⟩ (k_fill5 l D B _ _ (a + 1) ⟨by have := ha.1; omega, fun T r => ha.2.2.1 T r⟩ _) (fun T11 M11 hp11 => ?_)
  obtain ⟨e2, e3⟩ := hp11
  replace e2 := e2.symm; replace e3 := e3.symm; subst e2; subst e3
  refine g_aload_n F 0 (dk dtX2_reset_0 7 rfl) rfl ?_
  refine g_get F fa_X2_19 (dk dtX2_reset_0 8 rfl) (by have := ha.1; omega) (ha.2.1 _ _) rfl ?_
  refine g_iconst F (nI 0) (dk dtX2_reset_0 9 rfl) (by decide) ?_
  refine g_callSv F (As := [.ref (B + (a + 2)), .int (nI 0)]) (st := []) cs_X2_28 (dk dtX2_reset_0 10 rfl) rfl rfl (Nat.le_of_ble_eq_true rfl) ⟨by decide, by decide⟩ (k_fill5 l D B _ _ (a + 2) ⟨by have := ha.1; omega, fun T r => ha.2.2.2.1 T r⟩ _) (fun T19 M19 hp19 => ?_)
  obtain ⟨e2, e3⟩ := hp19
  replace e2 := e2.symm; replace e3 := e3.symm; subst e2; subst e3
  refine g_aload_n F 0 (dk dtX2_reset_0 11 rfl) rfl ?_
  refine g_get F fa_X2_22 (dk dtX2_reset_0 12 rfl) (by have := ha.1; omega) (ha.2.1 _ _) rfl ?_
  refine g_iconst F (nI 0) (dk dtX2_reset_0 13 rfl) (by decide) ?_
  refine g_callSv F (As := [.ref (B + (a + 3)), .int (nI 0)]) (st := []) cs_X2_28 (dk dtX2_reset_0 14 rfl) rfl rfl (Nat.le_of_ble_eq_true rfl) ⟨by decide, by decide⟩ (k_fill20 l D B _ _ (a + 3) ⟨by have := ha.1; omega, fun T r => ha.2.2.2.2.1 T r⟩ _) (fun T27 M27 hp27 => ?_)
  obtain ⟨e2, e3⟩ := hp27
  replace e2 := e2.symm; replace e3 := e3.symm; subst e2; subst e3
  refine g_aload_n F 0 (dk dtX2_reset_0 15 rfl) rfl ?_
  refine g_get F fa_X2_25 (dk dtX2_reset_0 16 rfl) (by have := ha.1; omega) (ha.2.1 _ _) rfl ?_
  refine g_iconst F (nI 0) (dk dtX2_reset_0 17 rfl) (by decide) ?_
  refine g_callSv F (As := [.ref (B + (a + 4)), .int (nI 0)]) (st := []) cs_X2_28 (dk dtX2_reset_0 18 rfl) rfl rfl (Nat.le_of_ble_eq_true rfl) ⟨by decide, by decide⟩ (k_fill5 l D B _ _ (a + 4) ⟨by have := ha.1; omega, fun T r => ha.2.2.2.2.2 T r⟩ _) (fun T35 M35 hp35 => ?_)
  obtain ⟨e2, e3⟩ := hp35
  replace e2 := e2.symm; replace e3 := e3.symm; subst e2; subst e3
  refine g_vret (F := F) hQ (dk dtX2_reset_0 19 rfl) ?_
  exact ⟨rfl, rsN_eq _ _⟩
set_option maxRecDepth 100000 in
set_option maxHeartbeats 4000000 in
theorem k_X5_reset (l : Launch) (D : DX) (B : Nat) (T : Int64) (M : Mem)  : Cv l D B 108 (celC D B) yX5_reset cX5_reset 1 none 1 [.ref (B + 3)] T M (fun T1 M1 => T1 = T ∧ M1 = rsT M) := by
  refine g_entryv (L := [(0, .ref (B + 3))]) (by decide) (Nat.le_of_ble_eq_true rfl) rfl ?_
  intro zp ze zs zm zb zt zc Q F hQ
  refine g_aload_n F 0 (dk dtX5_reset_0 0 rfl) rfl ?_
  refine g_iconst F (nI 3) (dk dtX5_reset_0 1 rfl) (by decide) ?_
  refine g_put F fa_X5_9 (dk dtX5_reset_0 2 rfl) (by decide) (cc3 D B _ _) (Nat.le_of_ble_eq_true rfl) rfl rfl (cc3 D B _ _) ?_
  refine g_aload_n F 0 (dk dtX5_reset_0 3 rfl) rfl ?_
  refine g_iconst F (nI 2) (dk dtX5_reset_0 4 rfl) (by decide) ?_
  refine g_put F fa_X5_15 (dk dtX5_reset_0 5 rfl) (by decide) (cc3 D B _ _) (Nat.le_of_ble_eq_true rfl) rfl rfl (cc3 D B _ _) ?_
  refine g_aload_n F 0 (dk dtX5_reset_0 6 rfl) rfl ?_
  refine g_iconst F (nI 0) (dk dtX5_reset_0 7 rfl) (by decide) ?_
  refine g_put F fa_X5_18 (dk dtX5_reset_0 8 rfl) (by decide) (cc3 D B _ _) (Nat.le_of_ble_eq_true rfl) rfl rfl (cc3 D B _ _) ?_
  refine g_aload_n F 0 (dk dtX5_reset_0 9 rfl) rfl ?_
  refine g_get F fa_X5_21 (dk dtX5_reset_0 10 rfl) (by decide) (cc3 D B _ _) rfl ?_
  refine g_iconst F (nI 0) (dk dtX5_reset_0 11 rfl) (by decide) ?_
  refine g_callSv F (As := [.ref (B + 4), .int (nI 0)]) (st := []) cs_X5_25 (dk dtX5_reset_0 12 rfl) rfl rfl (Nat.le_of_ble_eq_true rfl) ⟨by decide, by decide⟩ (k_fill5 l D B _ _ 4 ⟨by decide, fun T r => cc4 D B T r⟩ _) (fun T20 M20 hp20 => ?_)
  obtain ⟨e2, e3⟩ := hp20
  replace e2 := e2.symm; replace e3 := e3.symm; subst e2; subst e3
  refine g_vret (F := F) hQ (dk dtX5_reset_0 13 rfl) ?_
  exact ⟨rfl, rfl⟩
set_option maxRecDepth 100000 in
set_option maxHeartbeats 4000000 in
theorem k_X5_copyFrom (l : Launch) (D : DX) (B : Nat) (T : Int64) (M : Mem)  : Cv l D B 108 (celC D B) yX5_copyFrom cX5_copyFrom 2 none 2 [.ref (B + 10), .ref (B + 3)] T M (fun T1 M1 => T1 = T ∧ M1 = cpT M) := by
  refine g_entryv (L := [(0, .ref (B + 10)), (1, .ref (B + 3))]) (by decide) (Nat.le_of_ble_eq_true rfl) rfl ?_
  intro zp ze zs zm zb zt zc Q F hQ
  refine g_aload_n F 0 (dk dtX5_copyFrom_0 0 rfl) rfl ?_
  refine g_aload_n F 1 (dk dtX5_copyFrom_0 1 rfl) rfl ?_
  refine g_get F fa_X5_9 (dk dtX5_copyFrom_0 2 rfl) (by decide) (cc3 D B _ _) rfl ?_
  refine g_put F fa_X5_9 (dk dtX5_copyFrom_0 3 rfl) (by decide) (cc10 D B _ _) (Nat.le_of_ble_eq_true rfl) rfl rfl (cc10 D B _ _) ?_
  refine g_aload_n F 0 (dk dtX5_copyFrom_0 4 rfl) rfl ?_
  refine g_aload_n F 1 (dk dtX5_copyFrom_0 5 rfl) rfl ?_
  refine g_get F fa_X5_15 (dk dtX5_copyFrom_0 6 rfl) (by decide) (cc3 D B _ _) rfl ?_
  refine g_top (congrFun (up2_ne _ _ (by decide)) _) ?_
  refine g_put F fa_X5_15 (dk dtX5_copyFrom_0 7 rfl) (by decide) (cc10 D B _ _) (Nat.le_of_ble_eq_true rfl) rfl rfl (cc10 D B _ _) ?_
  refine g_aload_n F 0 (dk dtX5_copyFrom_0 8 rfl) rfl ?_
  refine g_aload_n F 1 (dk dtX5_copyFrom_0 9 rfl) rfl ?_
  refine g_get F fa_X5_18 (dk dtX5_copyFrom_0 10 rfl) (by decide) (cc3 D B _ _) rfl ?_
  refine g_top (congrFun (up2_ne _ _ (by decide)) _) ?_
  refine g_top (congrFun (up2_ne _ _ (by decide)) _) ?_
  refine g_put F fa_X5_18 (dk dtX5_copyFrom_0 11 rfl) (by decide) (cc10 D B _ _) (Nat.le_of_ble_eq_true rfl) rfl rfl (cc10 D B _ _) ?_
  refine g_aload_n F 1 (dk dtX5_copyFrom_0 12 rfl) rfl ?_
  refine g_get F fa_X5_21 (dk dtX5_copyFrom_0 13 rfl) (by decide) (cc3 D B _ _) rfl ?_
  refine g_iconst F (nI 0) (dk dtX5_copyFrom_0 14 rfl) (by decide) ?_
  refine g_aload_n F 0 (dk dtX5_copyFrom_0 15 rfl) rfl ?_
  refine g_get F fa_X5_21 (dk dtX5_copyFrom_0 16 rfl) (by decide) (cc10 D B _ _) rfl ?_
  refine g_iconst F (nI 0) (dk dtX5_copyFrom_0 17 rfl) (by decide) ?_
  refine g_iconst F (nI 5) (dk dtX5_copyFrom_0 18 rfl) (by decide) ?_
  refine g_copyi F (tw2 56 rfl) (dk dtX5_copyFrom_0 19 rfl) (by decide) (by decide) (fun r => cc11 D B _ r) (fun r => cc4 D B _ r) (by decide) (by decide) (by decide) ?_
  refine g_vret (F := F) hQ (dk dtX5_copyFrom_0 20 rfl) ?_
  exact ⟨rfl, rfl⟩
set_option maxRecDepth 100000 in
set_option maxHeartbeats 4000000 in
theorem k_X5_hasKind (l : Launch) (D : DX) (B : Nat) (T : Int64) (M : Mem) (v : Int32) : Ci l D B 108 (celC D B) yX5_hasKind cX5_hasKind 2 (some .boolean) 0 [.ref (B + 10), .int v] T M (fun r T1 M1 => r = bI (¬ v < 0 ∧ ¬ M 10 0 ≤ v) ∧ T1 = T ∧ M1 = M) := by
  refine g_entryi (L := [(0, .ref (B + 10)), (1, .int v)]) (by decide) (Nat.le_of_ble_eq_true rfl) rfl ?_
  intro zp ze zs zm zb zt zc Q F hQ
  refine g_iload_n F 1 (dk dtX5_hasKind_0 0 rfl) rfl ?_
  refine g_if_lt F 16 (dk dtX5_hasKind_0 1 rfl) (by decide) (fun c1 => ?_) (fun c1 => ?_)
  · -- taken at 1
    refine g_iconst F (nI 0) (dk dtX5_hasKind_0 8 rfl) (by decide) ?_
    refine g_zret (F := F) hQ (dk dtX5_hasKind_0 9 rfl) (rfl) ?_
    exact ⟨(if_neg (fun h => h.1 c1)).symm, rfl, rfl⟩
  · -- not taken at 1
    refine g_iload_n F 1 (dk dtX5_hasKind_0 2 rfl) rfl ?_
    refine g_aload_n F 0 (dk dtX5_hasKind_0 3 rfl) rfl ?_
    refine g_get F fa_X5_9 (dk dtX5_hasKind_0 4 rfl) (by decide) (cc10 D B _ _) rfl ?_
    refine g_icmp_ge F 16 (dk dtX5_hasKind_0 5 rfl) (by decide) (fun c9 => ?_) (fun c9 => ?_)
    · -- taken at 9
      refine g_iconst F (nI 0) (dk dtX5_hasKind_0 8 rfl) (by decide) ?_
      refine g_zret (F := F) hQ (dk dtX5_hasKind_0 9 rfl) (rfl) ?_
      exact ⟨(if_neg (fun h => h.2 c9)).symm, rfl, rfl⟩
    · -- not taken at 9
      refine g_iconst F (nI 1) (dk dtX5_hasKind_0 6 rfl) (by decide) ?_
      refine g_goto F 17 (dk dtX5_hasKind_0 7 rfl) (by decide) ?_
      refine g_zret (F := F) hQ (dk dtX5_hasKind_0 9 rfl) (rfl) ?_
      exact ⟨(if_pos ⟨c1, c9⟩).symm, rfl, rfl⟩
set_option maxRecDepth 100000 in
set_option maxHeartbeats 4000000 in
theorem k_X5_hasPlace (l : Launch) (D : DX) (B : Nat) (T : Int64) (M : Mem) (v : Int32) : Ci l D B 108 (celC D B) yX5_hasPlace cX5_hasPlace 2 (some .boolean) 0 [.ref (B + 10), .int v] T M (fun r T1 M1 => r = bI (¬ v < 0 ∧ ¬ M 10 1 ≤ v) ∧ T1 = T ∧ M1 = M) := by
  refine g_entryi (L := [(0, .ref (B + 10)), (1, .int v)]) (by decide) (Nat.le_of_ble_eq_true rfl) rfl ?_
  intro zp ze zs zm zb zt zc Q F hQ
  refine g_iload_n F 1 (dk dtX5_hasPlace_0 0 rfl) rfl ?_
  refine g_if_lt F 16 (dk dtX5_hasPlace_0 1 rfl) (by decide) (fun c1 => ?_) (fun c1 => ?_)
  · -- taken at 1
    refine g_iconst F (nI 0) (dk dtX5_hasPlace_0 8 rfl) (by decide) ?_
    refine g_zret (F := F) hQ (dk dtX5_hasPlace_0 9 rfl) (rfl) ?_
    exact ⟨(if_neg (fun h => h.1 c1)).symm, rfl, rfl⟩
  · -- not taken at 1
    refine g_iload_n F 1 (dk dtX5_hasPlace_0 2 rfl) rfl ?_
    refine g_aload_n F 0 (dk dtX5_hasPlace_0 3 rfl) rfl ?_
    refine g_get F fa_X5_15 (dk dtX5_hasPlace_0 4 rfl) (by decide) (cc10 D B _ _) rfl ?_
    refine g_icmp_ge F 16 (dk dtX5_hasPlace_0 5 rfl) (by decide) (fun c9 => ?_) (fun c9 => ?_)
    · -- taken at 9
      refine g_iconst F (nI 0) (dk dtX5_hasPlace_0 8 rfl) (by decide) ?_
      refine g_zret (F := F) hQ (dk dtX5_hasPlace_0 9 rfl) (rfl) ?_
      exact ⟨(if_neg (fun h => h.2 c9)).symm, rfl, rfl⟩
    · -- not taken at 9
      refine g_iconst F (nI 1) (dk dtX5_hasPlace_0 6 rfl) (by decide) ?_
      refine g_goto F 17 (dk dtX5_hasPlace_0 7 rfl) (by decide) ?_
      refine g_zret (F := F) hQ (dk dtX5_hasPlace_0 9 rfl) (rfl) ?_
      exact ⟨(if_pos ⟨c1, c9⟩).symm, rfl, rfl⟩
set_option maxRecDepth 100000 in
set_option maxHeartbeats 4000000 in
theorem k_X5_hasPerson (l : Launch) (D : DX) (B : Nat) (T : Int64) (M : Mem) (v : Int32) : Ci l D B 108 (celC D B) yX5_hasPerson cX5_hasPerson 2 (some .boolean) 0 [.ref (B + 10), .int v] T M (fun r T1 M1 => r = bI (¬ v < 0 ∧ ¬ M 10 2 ≤ v) ∧ T1 = T ∧ M1 = M) := by
  refine g_entryi (L := [(0, .ref (B + 10)), (1, .int v)]) (by decide) (Nat.le_of_ble_eq_true rfl) rfl ?_
  intro zp ze zs zm zb zt zc Q F hQ
  refine g_iload_n F 1 (dk dtX5_hasPerson_0 0 rfl) rfl ?_
  refine g_if_lt F 16 (dk dtX5_hasPerson_0 1 rfl) (by decide) (fun c1 => ?_) (fun c1 => ?_)
  · -- taken at 1
    refine g_iconst F (nI 0) (dk dtX5_hasPerson_0 8 rfl) (by decide) ?_
    refine g_zret (F := F) hQ (dk dtX5_hasPerson_0 9 rfl) (rfl) ?_
    exact ⟨(if_neg (fun h => h.1 c1)).symm, rfl, rfl⟩
  · -- not taken at 1
    refine g_iload_n F 1 (dk dtX5_hasPerson_0 2 rfl) rfl ?_
    refine g_aload_n F 0 (dk dtX5_hasPerson_0 3 rfl) rfl ?_
    refine g_get F fa_X5_18 (dk dtX5_hasPerson_0 4 rfl) (by decide) (cc10 D B _ _) rfl ?_
    refine g_icmp_ge F 16 (dk dtX5_hasPerson_0 5 rfl) (by decide) (fun c9 => ?_) (fun c9 => ?_)
    · -- taken at 9
      refine g_iconst F (nI 0) (dk dtX5_hasPerson_0 8 rfl) (by decide) ?_
      refine g_zret (F := F) hQ (dk dtX5_hasPerson_0 9 rfl) (rfl) ?_
      exact ⟨(if_neg (fun h => h.2 c9)).symm, rfl, rfl⟩
    · -- not taken at 9
      refine g_iconst F (nI 1) (dk dtX5_hasPerson_0 6 rfl) (by decide) ?_
      refine g_goto F 17 (dk dtX5_hasPerson_0 7 rfl) (by decide) ?_
      refine g_zret (F := F) hQ (dk dtX5_hasPerson_0 9 rfl) (rfl) ?_
      exact ⟨(if_pos ⟨c1, c9⟩).symm, rfl, rfl⟩
set_option maxRecDepth 100000 in
set_option maxHeartbeats 4000000 in
theorem k_X5_shock (l : Launch) (D : DX) (B : Nat) (T : Int64) (M : Mem) (a : Nat) (ha : IsNow D B a) (p k : Nat) (hp : p < 5) (hk : k < 4) : Ci l D B 108 (celC D B) yX5_shock cX5_shock 5 (some .int) 0 [.ref (B + 10), .ref (B + a), .int (nI p), .int (nI k)] T M (fun r T1 M1 => r = shk M a p k ∧ T1 = T ∧ M1 = M) := by
  refine g_entryi (L := [(0, .ref (B + 10)), (1, .ref (B + a)), (2, .int (nI p)), (3, .int (nI k))]) (by decide) (Nat.le_of_ble_eq_true rfl) rfl ?_
  intro zp ze zs zm zb zt zc Q F hQ
  refine g_aload_n F 1 (dk dtX5_shock_0 0 rfl) rfl ?_
  refine g_get F fa_X5_37 (dk dtX5_shock_0 1 rfl) (by have := ha.1; omega) (ha.2.1 _ _) rfl ?_
  refine g_iload_n F 2 (dk dtX5_shock_0 2 rfl) rfl ?_
  refine g_iald F (p) (dk dtX5_shock_0 3 rfl) (by have := ha.1; omega) (ha.2.2.2.2.2 _ _) (by omega) (by decide) ?_
  refine g_aload_n F 0 (dk dtX5_shock_0 4 rfl) rfl ?_
  refine g_get F fa_X5_9 (dk dtX5_shock_0 5 rfl) (by decide) (cc10 D B _ _) rfl ?_
  refine g_iadd F (dk dtX5_shock_0 6 rfl) ?_
  refine g_istore F [(4, .int ((M (a + 4) p) + (M 10 0))), (0, .ref (B + 10)), (1, .ref (B + a)), (2, .int (nI p)), (3, .int (nI k))] (dk dtX5_shock_0 7 rfl) (by decide) rfl ?_
  refine g_iload F 0 (dk dtX5_shock_0 8 rfl) rfl ?_
  refine g_if_gt F 20 (dk dtX5_shock_0 9 rfl) (by decide) (fun c15 => ?_) (fun c15 => ?_)
  · -- taken at 15
    refine g_bipush F (nI 100) (dk dtX5_shock_0 12 rfl) (by decide) ?_
    refine g_bipush F (nI 100) (dk dtX5_shock_0 13 rfl) (by decide) ?_
    refine g_aload_n F 2 (dk dtX5_shock_0 14 rfl) rfl ?_
    refine g_get F fa_X5_42 (dk dtX5_shock_0 15 rfl) (by have := ha.1; omega) (ha.2.1 _ _) rfl ?_
    refine g_iload_n F 3 (dk dtX5_shock_0 16 rfl) rfl ?_
    refine g_iconst F (nI 4) (dk dtX5_shock_0 17 rfl) (by decide) ?_
    refine g_imulN F (dk dtX5_shock_0 18 rfl) ?_
    refine g_iload_n F 4 (dk dtX5_shock_0 19 rfl) rfl ?_
    refine g_iaddN F (dk dtX5_shock_0 20 rfl) ?_
    refine g_iald F ((p * 4) + k) (dk dtX5_shock_0 21 rfl) (by have := ha.1; omega) (ha.2.2.2.2.1 _ _) (by omega) (by decide) ?_
    refine g_iconst F (nI 1) (dk dtX5_shock_0 22 rfl) (by decide) ?_
    refine g_iadd F (dk dtX5_shock_0 23 rfl) ?_
    refine g_imul F (dk dtX5_shock_0 24 rfl) ?_
    refine g_iload F 0 (dk dtX5_shock_0 25 rfl) rfl ?_
    refine g_idiv F (dk dtX5_shock_0 26 rfl) (pos_ne c15) ?_
    refine g_isub F (dk dtX5_shock_0 27 rfl) ?_
    refine g_iret (F := F) hQ (dk dtX5_shock_0 28 rfl) ?_
    exact ⟨(if_pos c15).symm, rfl, rfl⟩
  · -- not taken at 15
    refine g_iconst F (nI 0) (dk dtX5_shock_0 10 rfl) (by decide) ?_
    refine g_iret (F := F) hQ (dk dtX5_shock_0 11 rfl) ?_
    exact ⟨(if_neg c15).symm, rfl, rfl⟩
set_option maxRecDepth 100000 in
set_option maxHeartbeats 4000000 in
theorem k_X5_greatestShock (l : Launch) (D : DX) (B : Nat) (T : Int64) (M : Mem) (a : Nat) (ha : IsNow D B a) (K P : Nat) (hK : M 10 0 = nI K) (hP : M 10 2 = nI P) (hK4 : K ≤ 4) (hP5 : P ≤ 5) : Ci l D B 108 (celC D B) yX5_greatestShock cX5_greatestShock 5 (some .int) 1 [.ref (B + 10), .ref (B + a)] T M (fun r T1 M1 => r = gsh M a K P ∧ T1 = T ∧ M1 = M) := by
  refine g_entryi (L := [(0, .ref (B + 10)), (1, .ref (B + a))]) (by decide) (Nat.le_of_ble_eq_true rfl) rfl ?_
  intro zp ze zs zm zb zt zc Q F hQ
  refine g_iconst F (-1) (dk dtX5_greatestShock_0 0 rfl) (by decide) ?_
  refine g_istore_n F [(2, .int (-1)), (0, .ref (B + 10)), (1, .ref (B + a))] (dk dtX5_greatestShock_0 1 rfl) (by decide) rfl ?_
  refine g_iconst F (nI 0) (dk dtX5_greatestShock_0 2 rfl) (by decide) ?_
  refine g_istore_n F [(3, .int (nI 0)), (2, .int (-1)), (0, .ref (B + 10)), (1, .ref (B + a))] (dk dtX5_greatestShock_0 3 rfl) (by decide) rfl ?_
  have lp4 : ∀ (fz : Nat) (i : Nat), i ≤ P → (P - i) < fz → G zp l ze { frames := 1, cells := 0, slots := 0, locals := 40 * 1 } zs zm [.ref (B + 10), .ref (B + a)].toArray zb zt zc 5 D B 108 (celC D B) Q T M 4 [(0, .ref (B + 10)), (1, .ref (B + a)), (2, .int (gsh M a K i)), (3, .int (nI i))] [] := by
    intro n4
    induction n4 with
    | zero => intro i hI hn; exact absurd hn (Nat.not_lt_zero _)
    | succ n4 ih4 =>
      intro i hI4 hn4
      refine g_iload_n F 3 (dk dtX5_greatestShock_0 4 rfl) rfl ?_
      refine g_aload_n F 0 (dk dtX5_greatestShock_0 5 rfl) rfl ?_
      refine g_get F fa_X5_18 (dk dtX5_greatestShock_0 6 rfl) (by decide) (cc10 D B _ _) rfl ?_
      refine g_top hP ?_
      refine g_icmp_geN F 49 (dk dtX5_greatestShock_0 7 rfl) (by decide) (by omega) (by omega) (fun c9 => ?_) (fun c9 => ?_)
      · -- taken at 9
        obtain rfl : P = i := by omega
        refine g_iload_n F 2 (dk dtX5_greatestShock_0 26 rfl) rfl ?_
        refine g_iret (F := F) hQ (dk dtX5_greatestShock_0 27 rfl) ?_
        exact ⟨rfl, rfl, rfl⟩
      · -- not taken at 9
        refine g_iconst F (nI 0) (dk dtX5_greatestShock_0 8 rfl) (by decide) ?_
        refine g_istore F [(4, .int (nI 0)), (0, .ref (B + 10)), (1, .ref (B + a)), (2, .int (gsh M a K i)), (3, .int (nI i))] (dk dtX5_greatestShock_0 9 rfl) (by decide) rfl ?_
        have lp15 : ∀ (fz : Nat) (j : Nat), j ≤ K → (K - j) < fz → G zp l ze { frames := 1, cells := 0, slots := 0, locals := 40 * 1 } zs zm [.ref (B + 10), .ref (B + a)].toArray zb zt zc 5 D B 108 (celC D B) Q T M 15 [(0, .ref (B + 10)), (1, .ref (B + a)), (2, .int (gshK M a i j (gsh M a K i))), (3, .int (nI i)), (4, .int (nI j))] [] := by
          intro n15
          induction n15 with
          | zero => intro j hI hn; exact absurd hn (Nat.not_lt_zero _)
          | succ n15 ih15 =>
            intro j hI15 hn15
            refine g_iload F 4 (dk dtX5_greatestShock_0 10 rfl) rfl ?_
            refine g_aload_n F 0 (dk dtX5_greatestShock_0 11 rfl) rfl ?_
            refine g_get F fa_X5_9 (dk dtX5_greatestShock_0 12 rfl) (by decide) (cc10 D B _ _) rfl ?_
            refine g_top hK ?_
            refine g_icmp_geN F 43 (dk dtX5_greatestShock_0 13 rfl) (by decide) (by omega) (by omega) (fun c21 => ?_) (fun c21 => ?_)
            · -- taken at 21
              obtain rfl : K = j := by omega
              refine g_iinc F 3 (nI (i + 1)) [(3, .int (nI (i + 1))), (0, .ref (B + 10)), (1, .ref (B + a)), (2, .int (gshK M a i K (gsh M a K i))), (4, .int (nI K))] (dk dtX5_greatestShock_0 24 rfl) rfl (nI_1 _) (by decide) rfl ?_
              refine g_goto F 4 (dk dtX5_greatestShock_0 25 rfl) (by decide) ?_
              refine g_sub [1, 2, 3, 0] (L1 := [(0, .ref (B + 10)), (1, .ref (B + a)), (2, .int (gshK M a i K (gsh M a K i))), (3, .int (nI (i + 1)))]) rfl ?_
              have eq4_2 : (gshK M a i K (gsh M a K i) : Int32) = gsh M a K (i + 1) := by
                rfl
              refine g_st (M1 := M) (L1 := [(0, .ref (B + 10)), (1, .ref (B + a)), (2, .int (gsh M a K (i + 1))), (3, .int (nI (i + 1)))]) rfl (lc rfl (lc rfl (lc (vi eq4_2) (lc rfl rfl)))) rfl ?_
              exact ih4 (i + 1) (by omega) (by omega)
            · -- not taken at 21
              refine g_iload_n F 2 (dk dtX5_greatestShock_0 14 rfl) rfl ?_
              refine g_aload_n F 0 (dk dtX5_greatestShock_0 15 rfl) rfl ?_
              refine g_aload_n F 1 (dk dtX5_greatestShock_0 16 rfl) rfl ?_
              refine g_iload_n F 3 (dk dtX5_greatestShock_0 17 rfl) rfl ?_
              refine g_iload F 4 (dk dtX5_greatestShock_0 18 rfl) rfl ?_
              refine g_callVi F (As := [.ref (B + a), .int (nI i), .int (nI j)]) (st := [.int (gshK M a i j (gsh M a K i))]) cv_X5_45 (dk dtX5_greatestShock_0 19 rfl) (by decide) (cc10 D B _ _) rfl rfl (Nat.le_of_ble_eq_true rfl) ⟨by decide, by decide⟩ (k_X5_shock l D B _ _ a ha i j (by omega) (by omega)) (fun r30 T30 M30 hp30 => ?_)
              obtain ⟨e1, e2, e3⟩ := hp30
              replace e1 := e1.symm; replace e2 := e2.symm; replace e3 := e3.symm; subst e1; subst e2; subst e3
              refine g_mmax F (tw2 105 rfl) (dk dtX5_greatestShock_0 20 rfl) (by decide) (by decide) ?_
              refine g_istore_n F [(2, .int (mx (gshK M a i j (gsh M a K i)) (shk M a i j))), (0, .ref (B + 10)), (1, .ref (B + a)), (3, .int (nI i)), (4, .int (nI j))] (dk dtX5_greatestShock_0 21 rfl) (by decide) rfl ?_
              refine g_iinc F 4 (nI (j + 1)) [(4, .int (nI (j + 1))), (2, .int (mx (gshK M a i j (gsh M a K i)) (shk M a i j))), (0, .ref (B + 10)), (1, .ref (B + a)), (3, .int (nI i))] (dk dtX5_greatestShock_0 22 rfl) rfl (nI_1 _) (by decide) rfl ?_
              refine g_goto F 15 (dk dtX5_greatestShock_0 23 rfl) (by decide) ?_
              refine g_sub [2, 3, 1, 4, 0] (L1 := [(0, .ref (B + 10)), (1, .ref (B + a)), (2, .int (mx (gshK M a i j (gsh M a K i)) (shk M a i j))), (3, .int (nI i)), (4, .int (nI (j + 1)))]) rfl ?_
              have eq15_2 : (mx (gshK M a i j (gsh M a K i)) (shk M a i j) : Int32) = gshK M a i (j + 1) (gsh M a K i) := by
                rfl
              refine g_st (M1 := M) (L1 := [(0, .ref (B + 10)), (1, .ref (B + a)), (2, .int (gshK M a i (j + 1) (gsh M a K i))), (3, .int (nI i)), (4, .int (nI (j + 1)))]) rfl (lc rfl (lc rfl (lc (vi eq15_2) (lc rfl (lc rfl rfl))))) rfl ?_
              exact ih15 (j + 1) (by omega) (by omega)
        refine g_sub [1, 2, 3, 4, 0] (L1 := [(0, .ref (B + 10)), (1, .ref (B + a)), (2, .int (gsh M a K i)), (3, .int (nI i)), (4, .int (nI 0))]) rfl ?_
        exact lp15 (K + 1) 0 (by omega) (by omega)
  refine g_sub [2, 3, 1, 0] (L1 := [(0, .ref (B + 10)), (1, .ref (B + a)), (2, .int (-1)), (3, .int (nI 0))]) rfl ?_
  exact lp4 (P + 1) 0 (by omega) (by omega)
set_option maxRecDepth 100000 in
set_option maxHeartbeats 4000000 in
theorem k_X5_jumpers (l : Launch) (D : DX) (B : Nat) (T : Int64) (M : Mem) (a : Nat) (ha : IsNow D B a) (k : Nat) (hk : k < 4) (x : Int32) (P : Nat) (hP : M 10 2 = nI P) (hP5 : P ≤ 5) : Ci l D B 108 (celC D B) yX5_jumpers cX5_jumpers 6 (some .int) 1 [.ref (B + 10), .ref (B + a), .int (nI k), .int x] T M (fun r T1 M1 => r = jmp M a k x P ∧ T1 = T ∧ M1 = M) := by
  refine g_entryi (L := [(0, .ref (B + 10)), (1, .ref (B + a)), (2, .int (nI k)), (3, .int x)]) (by decide) (Nat.le_of_ble_eq_true rfl) rfl ?_
  intro zp ze zs zm zb zt zc Q F hQ
  refine g_iconst F (nI 0) (dk dtX5_jumpers_0 0 rfl) (by decide) ?_
  refine g_istore F [(4, .int (nI 0)), (0, .ref (B + 10)), (1, .ref (B + a)), (2, .int (nI k)), (3, .int x)] (dk dtX5_jumpers_0 1 rfl) (by decide) rfl ?_
  refine g_iconst F (nI 0) (dk dtX5_jumpers_0 2 rfl) (by decide) ?_
  refine g_istore F [(5, .int (nI 0)), (4, .int (nI 0)), (0, .ref (B + 10)), (1, .ref (B + a)), (2, .int (nI k)), (3, .int x)] (dk dtX5_jumpers_0 3 rfl) (by decide) rfl ?_
  have lp6 : ∀ (fz : Nat) (i : Nat), i ≤ P → (P - i) < fz → G zp l ze { frames := 1, cells := 0, slots := 0, locals := 40 * 1 } zs zm [.ref (B + 10), .ref (B + a), .int (nI k), .int x].toArray zb zt zc 6 D B 108 (celC D B) Q T M 6 [(0, .ref (B + 10)), (1, .ref (B + a)), (2, .int (nI k)), (3, .int x), (4, .int (jmp M a k x i)), (5, .int (nI i))] [] := by
    intro n6
    induction n6 with
    | zero => intro i hI hn; exact absurd hn (Nat.not_lt_zero _)
    | succ n6 ih6 =>
      intro i hI6 hn6
      refine g_iload F 5 (dk dtX5_jumpers_0 4 rfl) rfl ?_
      refine g_aload_n F 0 (dk dtX5_jumpers_0 5 rfl) rfl ?_
      refine g_get F fa_X5_18 (dk dtX5_jumpers_0 6 rfl) (by decide) (cc10 D B _ _) rfl ?_
      refine g_top hP ?_
      refine g_icmp_geN F 59 (dk dtX5_jumpers_0 7 rfl) (by decide) (by omega) (by omega) (fun c12 => ?_) (fun c12 => ?_)
      · -- taken at 12
        obtain rfl : P = i := by omega
        refine g_iload F 4 (dk dtX5_jumpers_0 32 rfl) rfl ?_
        refine g_iret (F := F) hQ (dk dtX5_jumpers_0 33 rfl) ?_
        exact ⟨rfl, rfl, rfl⟩
      · -- not taken at 12
        refine g_aload_n F 1 (dk dtX5_jumpers_0 8 rfl) rfl ?_
        refine g_get F fa_X5_55 (dk dtX5_jumpers_0 9 rfl) (by have := ha.1; omega) (ha.2.1 _ _) rfl ?_
        refine g_iload F 5 (dk dtX5_jumpers_0 10 rfl) rfl ?_
        refine g_iald F (i) (dk dtX5_jumpers_0 11 rfl) (by have := ha.1; omega) (ha.2.2.1 _ _) (by omega) (by decide) ?_
        refine g_iload_n F 3 (dk dtX5_jumpers_0 12 rfl) rfl ?_
        refine g_icmp_ne F 53 (dk dtX5_jumpers_0 13 rfl) (by decide) (fun c23 => ?_) (fun c23 => ?_)
        · -- taken at 23
          refine g_iinc F 5 (nI (i + 1)) [(5, .int (nI (i + 1))), (0, .ref (B + 10)), (1, .ref (B + a)), (2, .int (nI k)), (3, .int x), (4, .int (jmp M a k x i))] (dk dtX5_jumpers_0 30 rfl) rfl (nI_1 _) (by decide) rfl ?_
          refine g_goto F 6 (dk dtX5_jumpers_0 31 rfl) (by decide) ?_
          refine g_sub [1, 2, 3, 4, 5, 0] (L1 := [(0, .ref (B + 10)), (1, .ref (B + a)), (2, .int (nI k)), (3, .int x), (4, .int (jmp M a k x i)), (5, .int (nI (i + 1)))]) rfl ?_
          have eq6_4 : (jmp M a k x i : Int32) = jmp M a k x (i + 1) := by
            first
              | exact (if_neg (fun h => c23 h.1)).symm
              | exact (if_neg (fun h => Int32.not_le.mpr c41 h.2)).symm
              | exact (if_pos ⟨c23, Int32.not_lt.mp c41⟩).symm
          refine g_st (M1 := M) (L1 := [(0, .ref (B + 10)), (1, .ref (B + a)), (2, .int (nI k)), (3, .int x), (4, .int (jmp M a k x (i + 1))), (5, .int (nI (i + 1)))]) rfl (lc rfl (lc rfl (lc rfl (lc rfl (lc (vi eq6_4) (lc rfl rfl)))))) rfl ?_
          exact ih6 (i + 1) (by omega) (by omega)
        · -- not taken at 23
          refine g_aload_n F 0 (dk dtX5_jumpers_0 14 rfl) rfl ?_
          refine g_aload_n F 1 (dk dtX5_jumpers_0 15 rfl) rfl ?_
          refine g_iload F 5 (dk dtX5_jumpers_0 16 rfl) rfl ?_
          refine g_iload_n F 2 (dk dtX5_jumpers_0 17 rfl) rfl ?_
          refine g_callVi F (As := [.ref (B + a), .int (nI i), .int (nI k)]) (st := []) cv_X5_45 (dk dtX5_jumpers_0 18 rfl) (by decide) (cc10 D B _ _) rfl rfl (Nat.le_of_ble_eq_true rfl) ⟨by decide, by decide⟩ (k_X5_shock l D B _ _ a ha i k (by omega) (by omega)) (fun r31 T31 M31 hp31 => ?_)
          obtain ⟨e1, e2, e3⟩ := hp31
          replace e1 := e1.symm; replace e2 := e2.symm; replace e3 := e3.symm; subst e1; subst e2; subst e3
          refine g_aload_n F 0 (dk dtX5_jumpers_0 19 rfl) rfl ?_
          refine g_get F fa_X5_21 (dk dtX5_jumpers_0 20 rfl) (by decide) (cc10 D B _ _) rfl ?_
          refine g_iload F 5 (dk dtX5_jumpers_0 21 rfl) rfl ?_
          refine g_iald F (i) (dk dtX5_jumpers_0 22 rfl) (by decide) (cc11 D B _ _) (by omega) (by decide) ?_
          refine g_icmp_lt F 53 (dk dtX5_jumpers_0 23 rfl) (by decide) (fun c41 => ?_) (fun c41 => ?_)
          · -- taken at 41
            refine g_iinc F 5 (nI (i + 1)) [(5, .int (nI (i + 1))), (0, .ref (B + 10)), (1, .ref (B + a)), (2, .int (nI k)), (3, .int x), (4, .int (jmp M a k x i))] (dk dtX5_jumpers_0 30 rfl) rfl (nI_1 _) (by decide) rfl ?_
            refine g_goto F 6 (dk dtX5_jumpers_0 31 rfl) (by decide) ?_
            refine g_sub [1, 2, 3, 4, 5, 0] (L1 := [(0, .ref (B + 10)), (1, .ref (B + a)), (2, .int (nI k)), (3, .int x), (4, .int (jmp M a k x i)), (5, .int (nI (i + 1)))]) rfl ?_
            have eq6_4 : (jmp M a k x i : Int32) = jmp M a k x (i + 1) := by
              first
                | exact (if_neg (fun h => c23 h.1)).symm
                | exact (if_neg (fun h => Int32.not_le.mpr c41 h.2)).symm
                | exact (if_pos ⟨c23, Int32.not_lt.mp c41⟩).symm
            refine g_st (M1 := M) (L1 := [(0, .ref (B + 10)), (1, .ref (B + a)), (2, .int (nI k)), (3, .int x), (4, .int (jmp M a k x (i + 1))), (5, .int (nI (i + 1)))]) rfl (lc rfl (lc rfl (lc rfl (lc rfl (lc (vi eq6_4) (lc rfl rfl)))))) rfl ?_
            exact ih6 (i + 1) (by omega) (by omega)
          · -- not taken at 41
            refine g_iload F 4 (dk dtX5_jumpers_0 24 rfl) rfl ?_
            refine g_iconst F (nI 1) (dk dtX5_jumpers_0 25 rfl) (by decide) ?_
            refine g_iload F 5 (dk dtX5_jumpers_0 26 rfl) rfl ?_
            refine g_ishl F (dk dtX5_jumpers_0 27 rfl) ?_
            refine g_ior F (dk dtX5_jumpers_0 28 rfl) ?_
            refine g_istore F [(4, .int ((jmp M a k x i) ||| ((nI 1) <<< ((nI i) &&& 31)))), (0, .ref (B + 10)), (1, .ref (B + a)), (2, .int (nI k)), (3, .int x), (5, .int (nI i))] (dk dtX5_jumpers_0 29 rfl) (by decide) rfl ?_
            refine g_iinc F 5 (nI (i + 1)) [(5, .int (nI (i + 1))), (4, .int ((jmp M a k x i) ||| ((nI 1) <<< ((nI i) &&& 31)))), (0, .ref (B + 10)), (1, .ref (B + a)), (2, .int (nI k)), (3, .int x)] (dk dtX5_jumpers_0 30 rfl) rfl (nI_1 _) (by decide) rfl ?_
            refine g_goto F 6 (dk dtX5_jumpers_0 31 rfl) (by decide) ?_
            refine g_sub [2, 3, 4, 5, 1, 0] (L1 := [(0, .ref (B + 10)), (1, .ref (B + a)), (2, .int (nI k)), (3, .int x), (4, .int ((jmp M a k x i) ||| ((nI 1) <<< ((nI i) &&& 31)))), (5, .int (nI (i + 1)))]) rfl ?_
            have eq6_4 : ((jmp M a k x i) ||| ((nI 1) <<< ((nI i) &&& 31)) : Int32) = jmp M a k x (i + 1) := by
              first
                | exact (if_neg (fun h => c23 h.1)).symm
                | exact (if_neg (fun h => Int32.not_le.mpr c41 h.2)).symm
                | exact (if_pos ⟨c23, Int32.not_lt.mp c41⟩).symm
            refine g_st (M1 := M) (L1 := [(0, .ref (B + 10)), (1, .ref (B + a)), (2, .int (nI k)), (3, .int x), (4, .int (jmp M a k x (i + 1))), (5, .int (nI (i + 1)))]) rfl (lc rfl (lc rfl (lc rfl (lc rfl (lc (vi eq6_4) (lc rfl rfl)))))) rfl ?_
            exact ih6 (i + 1) (by omega) (by omega)
  refine g_sub [2, 3, 4, 5, 1, 0] (L1 := [(0, .ref (B + 10)), (1, .ref (B + a)), (2, .int (nI k)), (3, .int x), (4, .int (nI 0)), (5, .int (nI 0))]) rfl ?_
  exact lp6 (P + 1) 0 (by omega) (by omega)
set_option maxRecDepth 100000 in
set_option maxHeartbeats 4000000 in
theorem k_X5_mayorBy (l : Launch) (D : DX) (B : Nat) (T : Int64) (M : Mem) (a : Nat) (ha : IsNow D B a) (k : Nat) (hk : k < 4) (x : Int32) (P : Nat) (hP : M 10 2 = nI P) (hP5 : P ≤ 5) : Ci l D B 108 (celC D B) yX5_mayorBy cX5_mayorBy 8 (some .int) 1 [.ref (B + 10), .ref (B + a), .int (nI k), .int x] T M (fun r T1 M1 => r = (myb M a k x P).1 ∧ T1 = T ∧ M1 = M) := by
  refine g_entryi (L := [(0, .ref (B + 10)), (1, .ref (B + a)), (2, .int (nI k)), (3, .int x)]) (by decide) (Nat.le_of_ble_eq_true rfl) rfl ?_
  intro zp ze zs zm zb zt zc Q F hQ
  refine g_aload_n F 1 (dk dtX5_mayorBy_0 0 rfl) rfl ?_
  refine g_get F fa_X5_58 (dk dtX5_mayorBy_0 1 rfl) (by have := ha.1; omega) (ha.2.1 _ _) rfl ?_
  refine g_istore F [(4, .int (M a 0)), (0, .ref (B + 10)), (1, .ref (B + a)), (2, .int (nI k)), (3, .int x)] (dk dtX5_mayorBy_0 2 rfl) (by decide) rfl ?_
  refine g_iconst F (-1) (dk dtX5_mayorBy_0 3 rfl) (by decide) ?_
  refine g_istore F [(5, .int (-1)), (4, .int (M a 0)), (0, .ref (B + 10)), (1, .ref (B + a)), (2, .int (nI k)), (3, .int x)] (dk dtX5_mayorBy_0 4 rfl) (by decide) rfl ?_
  refine g_iconst F (nI 0) (dk dtX5_mayorBy_0 5 rfl) (by decide) ?_
  refine g_istore F [(6, .int (nI 0)), (5, .int (-1)), (4, .int (M a 0)), (0, .ref (B + 10)), (1, .ref (B + a)), (2, .int (nI k)), (3, .int x)] (dk dtX5_mayorBy_0 6 rfl) (by decide) rfl ?_
  have lp12 : ∀ (fz : Nat) (i : Nat), i ≤ P → (P - i) < fz → G zp l ze { frames := 1, cells := 0, slots := 0, locals := 40 * 1 } zs zm [.ref (B + 10), .ref (B + a), .int (nI k), .int x].toArray zb zt zc 8 D B 108 (celC D B) Q T M 12 [(0, .ref (B + 10)), (1, .ref (B + a)), (2, .int (nI k)), (3, .int x), (4, .int ((myb M a k x i).1)), (5, .int ((myb M a k x i).2)), (6, .int (nI i))] [] := by
    intro n12
    induction n12 with
    | zero => intro i hI hn; exact absurd hn (Nat.not_lt_zero _)
    | succ n12 ih12 =>
      intro i hI12 hn12
      refine g_iload F 6 (dk dtX5_mayorBy_0 7 rfl) rfl ?_
      refine g_aload_n F 0 (dk dtX5_mayorBy_0 8 rfl) rfl ?_
      refine g_get F fa_X5_18 (dk dtX5_mayorBy_0 9 rfl) (by decide) (cc10 D B _ _) rfl ?_
      refine g_top hP ?_
      refine g_icmp_geN F 75 (dk dtX5_mayorBy_0 10 rfl) (by decide) (by omega) (by omega) (fun c18 => ?_) (fun c18 => ?_)
      · -- taken at 18
        obtain rfl : P = i := by omega
        refine g_iload F 4 (dk dtX5_mayorBy_0 38 rfl) rfl ?_
        refine g_iret (F := F) hQ (dk dtX5_mayorBy_0 39 rfl) ?_
        exact ⟨rfl, rfl, rfl⟩
      · -- not taken at 18
        refine g_aload_n F 1 (dk dtX5_mayorBy_0 11 rfl) rfl ?_
        refine g_get F fa_X5_55 (dk dtX5_mayorBy_0 12 rfl) (by have := ha.1; omega) (ha.2.1 _ _) rfl ?_
        refine g_iload F 6 (dk dtX5_mayorBy_0 13 rfl) rfl ?_
        refine g_iald F (i) (dk dtX5_mayorBy_0 14 rfl) (by have := ha.1; omega) (ha.2.2.1 _ _) (by omega) (by decide) ?_
        refine g_iload_n F 3 (dk dtX5_mayorBy_0 15 rfl) rfl ?_
        refine g_icmp_ne F 69 (dk dtX5_mayorBy_0 16 rfl) (by decide) (fun c29 => ?_) (fun c29 => ?_)
        · -- taken at 29
          refine g_iinc F 6 (nI (i + 1)) [(6, .int (nI (i + 1))), (0, .ref (B + 10)), (1, .ref (B + a)), (2, .int (nI k)), (3, .int x), (4, .int ((myb M a k x i).1)), (5, .int ((myb M a k x i).2))] (dk dtX5_mayorBy_0 36 rfl) rfl (nI_1 _) (by decide) rfl ?_
          refine g_goto F 12 (dk dtX5_mayorBy_0 37 rfl) (by decide) ?_
          refine g_sub [1, 2, 3, 4, 5, 6, 0] (L1 := [(0, .ref (B + 10)), (1, .ref (B + a)), (2, .int (nI k)), (3, .int x), (4, .int ((myb M a k x i).1)), (5, .int ((myb M a k x i).2)), (6, .int (nI (i + 1)))]) rfl ?_
          have eq12_4 : ((myb M a k x i).1 : Int32) = (myb M a k x (i + 1)).1 := by
            simp only [myb]; first | rw [if_neg (fun h => absurd h.1 c29)] | rw [if_neg (fun h => absurd h.2.1 (Int32.not_le.mpr c51))] | rw [if_neg (fun h => absurd h.2.2 (Int32.not_lt.mpr c58))] | rw [if_pos ⟨c29, Int32.not_lt.mp c51, Int32.not_le.mp c58⟩]
          have eq12_5 : ((myb M a k x i).2 : Int32) = (myb M a k x (i + 1)).2 := by
            simp only [myb]; first | rw [if_neg (fun h => absurd h.1 c29)] | rw [if_neg (fun h => absurd h.2.1 (Int32.not_le.mpr c51))] | rw [if_neg (fun h => absurd h.2.2 (Int32.not_lt.mpr c58))] | rw [if_pos ⟨c29, Int32.not_lt.mp c51, Int32.not_le.mp c58⟩]
          refine g_st (M1 := M) (L1 := [(0, .ref (B + 10)), (1, .ref (B + a)), (2, .int (nI k)), (3, .int x), (4, .int ((myb M a k x (i + 1)).1)), (5, .int ((myb M a k x (i + 1)).2)), (6, .int (nI (i + 1)))]) rfl (lc rfl (lc rfl (lc rfl (lc rfl (lc (vi eq12_4) (lc (vi eq12_5) (lc rfl rfl))))))) rfl ?_
          exact ih12 (i + 1) (by omega) (by omega)
        · -- not taken at 29
          refine g_aload_n F 0 (dk dtX5_mayorBy_0 17 rfl) rfl ?_
          refine g_aload_n F 1 (dk dtX5_mayorBy_0 18 rfl) rfl ?_
          refine g_iload F 6 (dk dtX5_mayorBy_0 19 rfl) rfl ?_
          refine g_iload_n F 2 (dk dtX5_mayorBy_0 20 rfl) rfl ?_
          refine g_callVi F (As := [.ref (B + a), .int (nI i), .int (nI k)]) (st := []) cv_X5_45 (dk dtX5_mayorBy_0 21 rfl) (by decide) (cc10 D B _ _) rfl rfl (Nat.le_of_ble_eq_true rfl) ⟨by decide, by decide⟩ (k_X5_shock l D B _ _ a ha i k (by omega) (by omega)) (fun r37 T37 M37 hp37 => ?_)
          obtain ⟨e1, e2, e3⟩ := hp37
          replace e1 := e1.symm; replace e2 := e2.symm; replace e3 := e3.symm; subst e1; subst e2; subst e3
          refine g_istore F [(7, .int (shk M a i k)), (0, .ref (B + 10)), (1, .ref (B + a)), (2, .int (nI k)), (3, .int x), (4, .int ((myb M a k x i).1)), (5, .int ((myb M a k x i).2)), (6, .int (nI i))] (dk dtX5_mayorBy_0 22 rfl) (by decide) rfl ?_
          refine g_iload F 0 (dk dtX5_mayorBy_0 23 rfl) rfl ?_
          refine g_aload_n F 1 (dk dtX5_mayorBy_0 24 rfl) rfl ?_
          refine g_get F fa_X5_21 (dk dtX5_mayorBy_0 25 rfl) (by decide) (cc10 D B _ _) rfl ?_
          refine g_iload F 7 (dk dtX5_mayorBy_0 26 rfl) rfl ?_
          refine g_iald F (i) (dk dtX5_mayorBy_0 27 rfl) (by decide) (cc11 D B _ _) (by omega) (by decide) ?_
          refine g_icmp_lt F 69 (dk dtX5_mayorBy_0 28 rfl) (by decide) (fun c51 => ?_) (fun c51 => ?_)
          · -- taken at 51
            refine g_iinc F 7 (nI (i + 1)) [(6, .int (nI (i + 1))), (7, .int (shk M a i k)), (0, .ref (B + 10)), (1, .ref (B + a)), (2, .int (nI k)), (3, .int x), (4, .int ((myb M a k x i).1)), (5, .int ((myb M a k x i).2))] (dk dtX5_mayorBy_0 36 rfl) rfl (nI_1 _) (by decide) rfl ?_
            refine g_goto F 12 (dk dtX5_mayorBy_0 37 rfl) (by decide) ?_
            refine g_sub [2, 3, 4, 5, 6, 7, 0] (L1 := [(0, .ref (B + 10)), (1, .ref (B + a)), (2, .int (nI k)), (3, .int x), (4, .int ((myb M a k x i).1)), (5, .int ((myb M a k x i).2)), (6, .int (nI (i + 1)))]) rfl ?_
            have eq12_4 : ((myb M a k x i).1 : Int32) = (myb M a k x (i + 1)).1 := by
              simp only [myb]; first | rw [if_neg (fun h => absurd h.1 c29)] | rw [if_neg (fun h => absurd h.2.1 (Int32.not_le.mpr c51))] | rw [if_neg (fun h => absurd h.2.2 (Int32.not_lt.mpr c58))] | rw [if_pos ⟨c29, Int32.not_lt.mp c51, Int32.not_le.mp c58⟩]
            have eq12_5 : ((myb M a k x i).2 : Int32) = (myb M a k x (i + 1)).2 := by
              simp only [myb]; first | rw [if_neg (fun h => absurd h.1 c29)] | rw [if_neg (fun h => absurd h.2.1 (Int32.not_le.mpr c51))] | rw [if_neg (fun h => absurd h.2.2 (Int32.not_lt.mpr c58))] | rw [if_pos ⟨c29, Int32.not_lt.mp c51, Int32.not_le.mp c58⟩]
            refine g_st (M1 := M) (L1 := [(0, .ref (B + 10)), (1, .ref (B + a)), (2, .int (nI k)), (3, .int x), (4, .int ((myb M a k x (i + 1)).1)), (5, .int ((myb M a k x (i + 1)).2)), (6, .int (nI (i + 1)))]) rfl (lc rfl (lc rfl (lc rfl (lc rfl (lc (vi eq12_4) (lc (vi eq12_5) (lc rfl rfl))))))) rfl ?_
            exact ih12 (i + 1) (by omega) (by omega)
          · -- not taken at 51
            refine g_iload F 0 (dk dtX5_mayorBy_0 29 rfl) rfl ?_
            refine g_iload F 6 (dk dtX5_mayorBy_0 30 rfl) rfl ?_
            refine g_icmp_le F 69 (dk dtX5_mayorBy_0 31 rfl) (by decide) (fun c58 => ?_) (fun c58 => ?_)
            · -- taken at 58
              refine g_iinc F 7 (nI (i + 1)) [(6, .int (nI (i + 1))), (7, .int (shk M a i k)), (0, .ref (B + 10)), (1, .ref (B + a)), (2, .int (nI k)), (3, .int x), (4, .int ((myb M a k x i).1)), (5, .int ((myb M a k x i).2))] (dk dtX5_mayorBy_0 36 rfl) rfl (nI_1 _) (by decide) rfl ?_
              refine g_goto F 12 (dk dtX5_mayorBy_0 37 rfl) (by decide) ?_
              refine g_sub [2, 3, 4, 5, 6, 7, 0] (L1 := [(0, .ref (B + 10)), (1, .ref (B + a)), (2, .int (nI k)), (3, .int x), (4, .int ((myb M a k x i).1)), (5, .int ((myb M a k x i).2)), (6, .int (nI (i + 1)))]) rfl ?_
              have eq12_4 : ((myb M a k x i).1 : Int32) = (myb M a k x (i + 1)).1 := by
                simp only [myb]; first | rw [if_neg (fun h => absurd h.1 c29)] | rw [if_neg (fun h => absurd h.2.1 (Int32.not_le.mpr c51))] | rw [if_neg (fun h => absurd h.2.2 (Int32.not_lt.mpr c58))] | rw [if_pos ⟨c29, Int32.not_lt.mp c51, Int32.not_le.mp c58⟩]
              have eq12_5 : ((myb M a k x i).2 : Int32) = (myb M a k x (i + 1)).2 := by
                simp only [myb]; first | rw [if_neg (fun h => absurd h.1 c29)] | rw [if_neg (fun h => absurd h.2.1 (Int32.not_le.mpr c51))] | rw [if_neg (fun h => absurd h.2.2 (Int32.not_lt.mpr c58))] | rw [if_pos ⟨c29, Int32.not_lt.mp c51, Int32.not_le.mp c58⟩]
              refine g_st (M1 := M) (L1 := [(0, .ref (B + 10)), (1, .ref (B + a)), (2, .int (nI k)), (3, .int x), (4, .int ((myb M a k x (i + 1)).1)), (5, .int ((myb M a k x (i + 1)).2)), (6, .int (nI (i + 1)))]) rfl (lc rfl (lc rfl (lc rfl (lc rfl (lc (vi eq12_4) (lc (vi eq12_5) (lc rfl rfl))))))) rfl ?_
              exact ih12 (i + 1) (by omega) (by omega)
            · -- not taken at 58
              refine g_iload F 0 (dk dtX5_mayorBy_0 32 rfl) rfl ?_
              refine g_istore F [(5, .int (shk M a i k)), (7, .int (shk M a i k)), (0, .ref (B + 10)), (1, .ref (B + a)), (2, .int (nI k)), (3, .int x), (4, .int ((myb M a k x i).1)), (6, .int (nI i))] (dk dtX5_mayorBy_0 33 rfl) (by decide) rfl ?_
              refine g_iload F 7 (dk dtX5_mayorBy_0 34 rfl) rfl ?_
              refine g_istore F [(4, .int (nI i)), (5, .int (shk M a i k)), (7, .int (shk M a i k)), (0, .ref (B + 10)), (1, .ref (B + a)), (2, .int (nI k)), (3, .int x), (6, .int (nI i))] (dk dtX5_mayorBy_0 35 rfl) (by decide) rfl ?_
              refine g_iinc F 7 (nI (i + 1)) [(6, .int (nI (i + 1))), (4, .int (nI i)), (5, .int (shk M a i k)), (7, .int (shk M a i k)), (0, .ref (B + 10)), (1, .ref (B + a)), (2, .int (nI k)), (3, .int x)] (dk dtX5_mayorBy_0 36 rfl) rfl (nI_1 _) (by decide) rfl ?_
              refine g_goto F 12 (dk dtX5_mayorBy_0 37 rfl) (by decide) ?_
              refine g_sub [4, 5, 6, 7, 1, 2, 0] (L1 := [(0, .ref (B + 10)), (1, .ref (B + a)), (2, .int (nI k)), (3, .int x), (4, .int (nI i)), (5, .int (shk M a i k)), (6, .int (nI (i + 1)))]) rfl ?_
              have eq12_4 : (nI i : Int32) = (myb M a k x (i + 1)).1 := by
                simp only [myb]; first | rw [if_neg (fun h => absurd h.1 c29)] | rw [if_neg (fun h => absurd h.2.1 (Int32.not_le.mpr c51))] | rw [if_neg (fun h => absurd h.2.2 (Int32.not_lt.mpr c58))] | rw [if_pos ⟨c29, Int32.not_lt.mp c51, Int32.not_le.mp c58⟩]
              have eq12_5 : (shk M a i k : Int32) = (myb M a k x (i + 1)).2 := by
                simp only [myb]; first | rw [if_neg (fun h => absurd h.1 c29)] | rw [if_neg (fun h => absurd h.2.1 (Int32.not_le.mpr c51))] | rw [if_neg (fun h => absurd h.2.2 (Int32.not_lt.mpr c58))] | rw [if_pos ⟨c29, Int32.not_lt.mp c51, Int32.not_le.mp c58⟩]
              refine g_st (M1 := M) (L1 := [(0, .ref (B + 10)), (1, .ref (B + a)), (2, .int (nI k)), (3, .int x), (4, .int ((myb M a k x (i + 1)).1)), (5, .int ((myb M a k x (i + 1)).2)), (6, .int (nI (i + 1)))]) rfl (lc rfl (lc rfl (lc rfl (lc rfl (lc (vi eq12_4) (lc (vi eq12_5) (lc rfl rfl))))))) rfl ?_
              exact ih12 (i + 1) (by omega) (by omega)
  refine g_sub [3, 4, 5, 6, 2, 1, 0] (L1 := [(0, .ref (B + 10)), (1, .ref (B + a)), (2, .int (nI k)), (3, .int x), (4, .int (M a 0)), (5, .int (-1)), (6, .int (nI 0))]) rfl ?_
  exact lp12 (P + 1) 0 (by omega) (by omega)
set_option maxRecDepth 100000 in
set_option maxHeartbeats 4000000 in
theorem k_X5_happen (l : Launch) (D : DX) (B : Nat) (T : Int64) (M : Mem) (a : Nat) (ha : IsNow D B a) (k : Nat) (hk : k < 4) (x : Int32) (P : Nat) (hP : M 10 2 = nI P) (hP5 : P ≤ 5) : Ci l D B 108 (celC D B) yX5_happen cX5_happen 6 (some .int) 2 [.ref (B + 10), .ref (B + a), .int (nI k), .int x] T M (fun r T1 M1 => r = jmp M a k x P ∧ T1 = T ∧ M1 = hpM M a k x P) := by
  refine g_entryi (L := [(0, .ref (B + 10)), (1, .ref (B + a)), (2, .int (nI k)), (3, .int x)]) (by decide) (Nat.le_of_ble_eq_true rfl) rfl ?_
  intro zp ze zs zm zb zt zc Q F hQ
  refine g_aload_n F 0 (dk dtX5_happen_0 0 rfl) rfl ?_
  refine g_aload_n F 1 (dk dtX5_happen_0 1 rfl) rfl ?_
  refine g_iload_n F 2 (dk dtX5_happen_0 2 rfl) rfl ?_
  refine g_iload_n F 3 (dk dtX5_happen_0 3 rfl) rfl ?_
  refine g_callVi F (As := [.ref (B + a), .int (nI k), .int x]) (st := []) cv_X5_61 (dk dtX5_happen_0 4 rfl) (by decide) (cc10 D B _ _) rfl rfl (Nat.le_of_ble_eq_true rfl) ⟨by decide, by decide⟩ (k_X5_jumpers l D B _ _ a ha k (by omega) _ P hP hP5) (fun r4 T4 M4 hp4 => ?_)
  obtain ⟨e1, e2, e3⟩ := hp4
  replace e1 := e1.symm; replace e2 := e2.symm; replace e3 := e3.symm; subst e1; subst e2; subst e3
  refine g_istore F [(4, .int (jmp M a k x P)), (0, .ref (B + 10)), (1, .ref (B + a)), (2, .int (nI k)), (3, .int x)] (dk dtX5_happen_0 5 rfl) (by decide) rfl ?_
  refine g_aload_n F 2 (dk dtX5_happen_0 6 rfl) rfl ?_
  refine g_aload_n F 1 (dk dtX5_happen_0 7 rfl) rfl ?_
  refine g_aload_n F 2 (dk dtX5_happen_0 8 rfl) rfl ?_
  refine g_iload_n F 3 (dk dtX5_happen_0 9 rfl) rfl ?_
  refine g_iload_n F 4 (dk dtX5_happen_0 10 rfl) rfl ?_
  refine g_callVi F (As := [.ref (B + a), .int (nI k), .int x]) (st := [.ref (B + a)]) cv_X5_64 (dk dtX5_happen_0 11 rfl) (by decide) (cc10 D B _ _) rfl rfl (Nat.le_of_ble_eq_true rfl) ⟨by decide, by decide⟩ (k_X5_mayorBy l D B _ _ a ha k (by omega) _ P hP hP5) (fun r14 T14 M14 hp14 => ?_)
  obtain ⟨e1, e2, e3⟩ := hp14
  replace e1 := e1.symm; replace e2 := e2.symm; replace e3 := e3.symm; subst e1; subst e2; subst e3
  refine g_callVv F (As := [.int ((myb M a k x P).1)]) (st := []) cv_X5_67 (dk dtX5_happen_0 12 rfl) (by have := ha.1; omega) (ha.2.1 _ _) rfl rfl (Nat.le_of_ble_eq_true rfl) ⟨by decide, by decide⟩ (k_X2_crown l D B _ _ a ha _) (fun T17 M17 hp17 => ?_)
  obtain ⟨e2, e3⟩ := hp17
  replace e2 := e2.symm; replace e3 := e3.symm; subst e2; subst e3
  refine g_iconst F (nI 0) (dk dtX5_happen_0 13 rfl) (by decide) ?_
  refine g_istore F [(5, .int (nI 0)), (4, .int (jmp M a k x P)), (0, .ref (B + 10)), (1, .ref (B + a)), (2, .int (nI k)), (3, .int x)] (dk dtX5_happen_0 14 rfl) (by decide) rfl ?_
  have lp23 : ∀ (fz : Nat) (i : Nat), i ≤ P → (P - i) < fz → G zp l ze { frames := 2, cells := 0, slots := 0, locals := 40 * 2 } zs zm [.ref (B + 10), .ref (B + a), .int (nI k), .int x].toArray zb zt zc 6 D B 108 (celC D B) Q T (hsM M a k x P i) 23 [(0, .ref (B + 10)), (1, .ref (B + a)), (2, .int (nI k)), (3, .int x), (4, .int (jmp M a k x P)), (5, .int (nI i))] [] := by
    intro n23
    induction n23 with
    | zero => intro i hI hn; exact absurd hn (Nat.not_lt_zero _)
    | succ n23 ih23 =>
      intro i hI23 hn23
      refine g_iload F 5 (dk dtX5_happen_0 15 rfl) rfl ?_
      refine g_aload_n F 0 (dk dtX5_happen_0 16 rfl) rfl ?_
      refine g_get F fa_X5_18 (dk dtX5_happen_0 17 rfl) (by decide) (cc10 D B _ _) rfl ?_
      refine g_top (hsM_P (D := D) (B := B) ha hP) ?_
      refine g_icmp_geN F 56 (dk dtX5_happen_0 18 rfl) (by decide) (by omega) (by omega) (fun c29 => ?_) (fun c29 => ?_)
      · -- taken at 29
        obtain rfl : P = i := by omega
        refine g_iload F 4 (dk dtX5_happen_0 31 rfl) rfl ?_
        refine g_iret (F := F) hQ (dk dtX5_happen_0 32 rfl) ?_
        exact ⟨rfl, rfl, rfl⟩
      · -- not taken at 29
        refine g_aload_n F 1 (dk dtX5_happen_0 19 rfl) rfl ?_
        refine g_get F fa_X5_55 (dk dtX5_happen_0 20 rfl) (by have := ha.1; omega) (ha.2.1 _ _) rfl ?_
        refine g_iload F 5 (dk dtX5_happen_0 21 rfl) rfl ?_
        refine g_iald F (i) (dk dtX5_happen_0 22 rfl) (by have := ha.1; omega) (ha.2.2.1 _ _) (by omega) (by decide) ?_
        refine g_top (congrFun (hsM_pl (D := D) (B := B) ha) _) ?_
        refine g_iload_n F 3 (dk dtX5_happen_0 23 rfl) rfl ?_
        refine g_icmp_ne F 50 (dk dtX5_happen_0 24 rfl) (by decide) (fun c40 => ?_) (fun c40 => ?_)
        · -- taken at 40
          refine g_iinc F 5 (nI (i + 1)) [(5, .int (nI (i + 1))), (0, .ref (B + 10)), (1, .ref (B + a)), (2, .int (nI k)), (3, .int x), (4, .int (jmp M a k x P))] (dk dtX5_happen_0 29 rfl) rfl (nI_1 _) (by decide) rfl ?_
          refine g_goto F 23 (dk dtX5_happen_0 30 rfl) (by decide) ?_
          refine g_sub [1, 2, 3, 4, 5, 0] (L1 := [(0, .ref (B + 10)), (1, .ref (B + a)), (2, .int (nI k)), (3, .int x), (4, .int (jmp M a k x P)), (5, .int (nI (i + 1)))]) rfl ?_
          refine g_st (M1 := hsM M a k x P (i + 1)) (L1 := [(0, .ref (B + 10)), (1, .ref (B + a)), (2, .int (nI k)), (3, .int x), (4, .int (jmp M a k x P)), (5, .int (nI (i + 1)))]) (by first
              | exact (if_neg c40).symm
              | exact (if_pos c40).symm) rfl rfl ?_
          exact ih23 (i + 1) (by omega) (by omega)
        · -- not taken at 40
          refine g_aload_n F 1 (dk dtX5_happen_0 25 rfl) rfl ?_
          refine g_iload F 5 (dk dtX5_happen_0 26 rfl) rfl ?_
          refine g_iload_n F 2 (dk dtX5_happen_0 27 rfl) rfl ?_
          refine g_callVv F (As := [.int (nI i), .int (nI k)]) (st := []) cv_X5_71 (dk dtX5_happen_0 28 rfl) (by have := ha.1; omega) (ha.2.1 _ _) rfl rfl (Nat.le_of_ble_eq_true rfl) ⟨by decide, by decide⟩ (k_X2_see l D B _ _ a ha _ _ (by omega) (by omega)) (fun T47 M47 hp47 => ?_)
          obtain ⟨e2, e3⟩ := hp47
          replace e2 := e2.symm; replace e3 := e3.symm; subst e2; subst e3
          refine g_iinc F 5 (nI (i + 1)) [(5, .int (nI (i + 1))), (0, .ref (B + 10)), (1, .ref (B + a)), (2, .int (nI k)), (3, .int x), (4, .int (jmp M a k x P))] (dk dtX5_happen_0 29 rfl) rfl (nI_1 _) (by decide) rfl ?_
          refine g_goto F 23 (dk dtX5_happen_0 30 rfl) (by decide) ?_
          refine g_sub [1, 2, 3, 4, 5, 0] (L1 := [(0, .ref (B + 10)), (1, .ref (B + a)), (2, .int (nI k)), (3, .int x), (4, .int (jmp M a k x P)), (5, .int (nI (i + 1)))]) rfl ?_
          refine g_st (M1 := hsM M a k x P (i + 1)) (L1 := [(0, .ref (B + 10)), (1, .ref (B + a)), (2, .int (nI k)), (3, .int x), (4, .int (jmp M a k x P)), (5, .int (nI (i + 1)))]) (by first
              | exact (if_neg c40).symm
              | exact (if_pos c40).symm) rfl rfl ?_
          exact ih23 (i + 1) (by omega) (by omega)
  refine g_sub [2, 3, 4, 5, 1, 0] (L1 := [(0, .ref (B + 10)), (1, .ref (B + a)), (2, .int (nI k)), (3, .int x), (4, .int (jmp M a k x P)), (5, .int (nI 0))]) rfl ?_
  exact lp23 (P + 1) 0 (by omega) (by omega)
end
section
def IsRow (D : DX) (B c : Nat) : Prop := c < 14 ∧ (∀ T r, celM D B T c r = sI D 31 T r) ∧ c ≠ 0 ∧ c ≠ 2 ∧ c ≠ 3
theorem isRow4 (D : DX) (B : Nat) : IsRow D B 4 := ⟨by decide, cm4 D B, by decide, by decide, by decide⟩
theorem isRow5 (D : DX) (B : Nat) : IsRow D B 5 := ⟨by decide, cm5 D B, by decide, by decide, by decide⟩
theorem isRow6 (D : DX) (B : Nat) : IsRow D B 6 := ⟨by decide, cm6 D B, by decide, by decide, by decide⟩
def aS (row : Nat → Int32) (p : Nat) : Int32 := nSum (fun j => row (5 + 4 * p + j)) 4
def suR (Kv : Int32) (row : Nat → Int32) (p k : Nat) : Int32 := nI 100 - nI 100 * (row (5 + 4 * p + k) + nI 1) / (aS row p + Kv)
def WR (row : Nat → Int32) : Prop := ∀ j, j < 20 → ∃ s : Nat, s ≤ 999 ∧ row (5 + j) = nI s
theorem aS_nat {row : Nat → Int32} (h : WR row) {p : Nat} (hp : p < 5) : ∃ s : Nat, s ≤ 3996 ∧ aS row p = nI s := by
  obtain ⟨s0, h0, e0⟩ := h (4 * p) (by omega)
  obtain ⟨s1, h1, e1⟩ := h (4 * p + 1) (by omega)
  obtain ⟨s2, h2, e2⟩ := h (4 * p + 2) (by omega)
  obtain ⟨s3, h3, e3⟩ := h (4 * p + 3) (by omega)
  refine ⟨s0 + s1 + s2 + s3, by omega, ?_⟩
  show (((0 + row (5 + 4 * p + 0)) + row (5 + 4 * p + 1)) + row (5 + 4 * p + 2)) + row (5 + 4 * p + 3) = _
  rw [show 5 + 4 * p + 0 = 5 + 4 * p by omega, show 5 + 4 * p + 1 = 5 + (4 * p + 1) by omega, show 5 + 4 * p + 2 = 5 + (4 * p + 2) by omega, show 5 + 4 * p + 3 = 5 + (4 * p + 3) by omega, e0, e1, e2, e3, ← nI_0, nI_add, nI_add, nI_add, nI_add]
  congr 1
  omega
theorem dvR {row : Nat → Int32} {Kv : Int32} {K : Nat} (hK : Kv = nI K) (h : WR row) (hK1 : 1 ≤ K) (hK4 : K ≤ 4) {p : Nat} (hp : p < 5) : ¬ (aS row p + Kv = 0) := by
  obtain ⟨s, hs, e⟩ := aS_nat h hp
  rw [e, hK, nI_add]
  exact nI_ne0 (by omega) (by omega)
def msK (Kv : Int32) (row : Nat → Int32) (p : Nat) : Nat → Int32 → Int32
  | 0, m => m
  | k + 1, m => if msK Kv row p k m < suR Kv row p k then suR Kv row p k else msK Kv row p k m
def msR (Kv : Int32) (row : Nat → Int32) (K : Nat) : Nat → Int32
  | 0 => -1
  | p + 1 => msK Kv row p K (msR Kv row K p)
def moR (row : Nat → Int32) : Int32 := if row 30 = 0 then -9 else row 30 - nI 1
def cpR (f g : Nat → Int32) (n : Nat) : Nat → Int32 := fun j => if j < n then f j else g j
theorem cpR_0 (M : Mem) (b c : Nat) : M = setR M c (cpR (M b) (M c) 0) := by
  funext i
  by_cases h : i = c
  · subst h
    rw [setR_self]
    funext j
    simp [cpR]
  · rw [setR_ne _ _ h]
theorem cpR_in (f g : Nat → Int32) {n j : Nat} (h : j < n) : cpR f g n j = f j := by simp [cpR, h]
theorem cpR_s (f g : Nat → Int32) (n : Nat) : upd (cpR f g n) n (f n) = cpR f g (n + 1) := by
  funext j
  by_cases h : j = n
  · subst h; simp [upd, cpR]
  · by_cases h2 : j < n
    · simp [upd, cpR, h, h2, Nat.lt_succ_of_lt h2]
    · simp [upd, cpR, h, h2, show ¬ j < n + 1 by omega]
theorem up2_setR (M : Mem) (c j : Nat) (r : Nat → Int32) (v : Int32) : up2 (setR M c r) c j v = setR M c (upd r j v) := by
  unfold up2
  rw [setR_self]
  funext i
  by_cases h : i = c <;> simp [setR, h]
def eF (nv : Nat → Int32) (Kv : Int32) (row : Nat → Int32) (k : Nat) (x : Int32) : Nat → Int32 × Int32 × Int32
  | 0 => (nI 0, -9, -1)
  | n + 1 => if row n = x ∧ nv n ≤ suR Kv row n k then ((eF nv Kv row k x n).1 ||| (nI 1 <<< (nI n &&& 31)), if (eF nv Kv row k x n).2.2 < suR Kv row n k then nI n else (eF nv Kv row k x n).2.1, if (eF nv Kv row k x n).2.2 < suR Kv row n k then suR Kv row n k else (eF nv Kv row k x n).2.2) else eF nv Kv row k x n
theorem eF_first {nv : Nat → Int32} {Kv : Int32} {row : Nat → Int32} {k : Nat} {x : Int32} {n : Nat} (h : ¬ (eF nv Kv row k x n).2.1 = -9) : ∃ q : Nat, q < n ∧ (eF nv Kv row k x n).2.1 = nI q := by
  induction n with
  | zero => exact absurd rfl h
  | succ n ih =>
    simp only [eF] at h ⊢
    split
    · rename_i h1
      rw [if_pos h1] at h
      dsimp only at h ⊢
      split
      · exact ⟨n, by omega, rfl⟩
      · rename_i h2
        rw [if_neg h2] at h
        obtain ⟨q, hq, e⟩ := ih h
        exact ⟨q, by omega, e⟩
    · rename_i h1
      rw [if_neg h1] at h
      obtain ⟨q, hq, e⟩ := ih h
      exact ⟨q, by omega, e⟩
def e1 (row : Nat → Int32) (f : Int32) : Nat → Int32 := if f = -9 ∨ row 30 = f + nI 1 then row else upd (upd row 30 (f + nI 1)) (25 + f.toNatClampNeg) (row (25 + f.toNatClampNeg) + nI 1)
def e2 (R1 : Nat → Int32) (k : Nat) (x : Int32) : Nat → Nat → Int32
  | 0 => R1
  | n + 1 => upd (e2 R1 k x n) (5 + 4 * n + k) (e2 R1 k x n (5 + 4 * n + k) + (if e2 R1 k x n n = x ∧ e2 R1 k x n (5 + 4 * n + k) < nI 999 then nI 1 else nI 0))
def evR (nv : Nat → Int32) (Kv : Int32) (row : Nat → Int32) (k : Nat) (x : Int32) (P : Nat) : Nat → Int32 := e2 (e1 row (eF nv Kv row k x P).2.1) k x P
theorem e2_y (R1 : Nat → Int32) (k : Nat) (x : Int32) (n : Nat) (h : e2 R1 k x n n = x ∧ e2 R1 k x n (5 + 4 * n + k) < nI 999) : upd (e2 R1 k x n) (5 + 4 * n + k) (e2 R1 k x n (5 + 4 * n + k) + nI 1) = e2 R1 k x (n + 1) := by
  simp only [e2]
  rw [if_pos h]
theorem e2_n (R1 : Nat → Int32) (k : Nat) (x : Int32) (n : Nat) (h : ¬ (e2 R1 k x n n = x ∧ e2 R1 k x n (5 + 4 * n + k) < nI 999)) : upd (e2 R1 k x n) (5 + 4 * n + k) (e2 R1 k x n (5 + 4 * n + k) + nI 0) = e2 R1 k x (n + 1) := by
  simp only [e2]
  rw [if_neg h]
theorem e1_no1 (M : Mem) (c : Nat) {f : Int32} (h : f = -9) : M = setR M c (e1 (M c) f) := by
  unfold e1
  rw [if_pos (Or.inl h), setR_same]
theorem e1_no2 (M : Mem) (c : Nat) {f : Int32} {q : Nat} (hq : f = nI q) (h : M c 30 = nI (q + 1)) : M = setR M c (e1 (M c) f) := by
  unfold e1
  rw [if_pos (Or.inr (by rw [h, hq, nI_add])), setR_same]
theorem e1_yes (M : Mem) (c : Nat) {f : Int32} {q : Nat} (hq : f = nI q) (h5 : q < 5) (h : ¬ M c 30 = nI (q + 1)) : up2 (up2 M c 30 (nI (q + 1))) c (25 + q) (M c (25 + q) + nI 1) = setR M c (e1 (M c) f) := by
  unfold e1
  rw [if_neg (by rw [hq, nI_add]; exact fun e => e.elim (fun e => absurd (e ▸ nI_toInt (show q < 2 ^ 31 by omega)) (by simp)) h), hq, nI_clamp (by omega), nI_add]
  unfold up2
  rw [setR_setR, setR_self]
set_option maxRecDepth 100000 in
set_option maxHeartbeats 4000000 in
theorem k_X7_in (l : Launch) (D : DX) (B : Nat) (T : Int64) (M : Mem) (v a b : Int32) : Ci l D B 14 (celM D B) yX7_in cX7_in 3 (some .boolean) 0 [.int v, .int a, .int b] T M (fun r T1 M1 => r = bI (¬ v < a ∧ ¬ b < v) ∧ T1 = T ∧ M1 = M) := by
  refine g_entryi (L := [(0, .int v), (1, .int a), (2, .int b)]) (by decide) (Nat.le_of_ble_eq_true rfl) rfl ?_
  intro zp ze zs zm zb zt zc Q F hQ
  refine g_iload_n F 0 (dk dtX7_in_0 0 rfl) rfl ?_
  refine g_iload_n F 1 (dk dtX7_in_0 1 rfl) rfl ?_
  refine g_icmp_lt F 14 (dk dtX7_in_0 2 rfl) (by decide) (fun c2 => ?_) (fun c2 => ?_)
  · -- taken at 2
    refine g_iconst F (nI 0) (dk dtX7_in_0 8 rfl) (by decide) ?_
    refine g_zret (F := F) hQ (dk dtX7_in_0 9 rfl) (rfl) ?_
    exact ⟨(if_neg (fun h => h.1 c2)).symm, rfl, rfl⟩
  · -- not taken at 2
    refine g_iload_n F 0 (dk dtX7_in_0 3 rfl) rfl ?_
    refine g_iload_n F 2 (dk dtX7_in_0 4 rfl) rfl ?_
    refine g_icmp_gt F 14 (dk dtX7_in_0 5 rfl) (by decide) (fun c7 => ?_) (fun c7 => ?_)
    · -- taken at 7
      refine g_iconst F (nI 0) (dk dtX7_in_0 8 rfl) (by decide) ?_
      refine g_zret (F := F) hQ (dk dtX7_in_0 9 rfl) (rfl) ?_
      exact ⟨(if_neg (fun h => h.2 c7)).symm, rfl, rfl⟩
    · -- not taken at 7
      refine g_iconst F (nI 1) (dk dtX7_in_0 6 rfl) (by decide) ?_
      refine g_goto F 15 (dk dtX7_in_0 7 rfl) (by decide) ?_
      refine g_zret (F := F) hQ (dk dtX7_in_0 9 rfl) (rfl) ?_
      exact ⟨(if_pos ⟨c2, c7⟩).symm, rfl, rfl⟩
set_option maxRecDepth 100000 in
set_option maxHeartbeats 4000000 in
theorem k_X7_allSeen (l : Launch) (D : DX) (B : Nat) (T : Int64) (M : Mem) (c : Nat) (hc : IsRow D B c) (p : Nat) (hp : p < 5) : Ci l D B 14 (celM D B) yX7_allSeen cX7_allSeen 5 (some .int) 0 [.ref (B + 0), .ref (B + c), .int (nI p)] T M (fun r T1 M1 => r = aS (M c) p ∧ T1 = T ∧ M1 = M) := by
  refine g_entryi (L := [(0, .ref (B + 0)), (1, .ref (B + c)), (2, .int (nI p))]) (by decide) (Nat.le_of_ble_eq_true rfl) rfl ?_
  intro zp ze zs zm zb zt zc Q F hQ
  refine g_iconst F (nI 0) (dk dtX7_allSeen_0 0 rfl) (by decide) ?_
  refine g_istore_n F [(3, .int (nI 0)), (0, .ref (B + 0)), (1, .ref (B + c)), (2, .int (nI p))] (dk dtX7_allSeen_0 1 rfl) (by decide) rfl ?_
  refine g_iconst F (nI 0) (dk dtX7_allSeen_0 2 rfl) (by decide) ?_
  refine g_istore F [(4, .int (nI 0)), (3, .int (nI 0)), (0, .ref (B + 0)), (1, .ref (B + c)), (2, .int (nI p))] (dk dtX7_allSeen_0 3 rfl) (by decide) rfl ?_
  have lp5 : ∀ (fz : Nat) (i : Nat), i ≤ 4 → (4 - i) < fz → G zp l ze { frames := 0, cells := 0, slots := 0, locals := 40 * 0 } zs zm [.ref (B + 0), .ref (B + c), .int (nI p)].toArray zb zt zc 5 D B 14 (celM D B) Q T M 5 [(0, .ref (B + 0)), (1, .ref (B + c)), (2, .int (nI p)), (3, .int (nSum (fun j => M c (5 + 4 * p + j)) i)), (4, .int (nI i))] [] := by
    intro n5
    induction n5 with
    | zero => intro i hI hn; exact absurd hn (Nat.not_lt_zero _)
    | succ n5 ih5 =>
      intro i hI5 hn5
      refine g_iload F 4 (dk dtX7_allSeen_0 4 rfl) rfl ?_
      refine g_iconst F (nI 4) (dk dtX7_allSeen_0 5 rfl) (by decide) ?_
      refine g_icmp_geN F 30 (dk dtX7_allSeen_0 6 rfl) (by decide) (by omega) (by omega) (fun c8 => ?_) (fun c8 => ?_)
      · -- taken at 8
        obtain rfl : 4 = i := by omega
        refine g_iload_n F 3 (dk dtX7_allSeen_0 21 rfl) rfl ?_
        refine g_iret (F := F) hQ (dk dtX7_allSeen_0 22 rfl) ?_
        exact ⟨rfl, rfl, rfl⟩
      · -- not taken at 8
        refine g_iload_n F 3 (dk dtX7_allSeen_0 7 rfl) rfl ?_
        refine g_aload_n F 1 (dk dtX7_allSeen_0 8 rfl) rfl ?_
        refine g_iconst F (nI 5) (dk dtX7_allSeen_0 9 rfl) (by decide) ?_
        refine g_iconst F (nI 4) (dk dtX7_allSeen_0 10 rfl) (by decide) ?_
        refine g_iload_n F 2 (dk dtX7_allSeen_0 11 rfl) rfl ?_
        refine g_imulN F (dk dtX7_allSeen_0 12 rfl) ?_
        refine g_iaddN F (dk dtX7_allSeen_0 13 rfl) ?_
        refine g_iload F 4 (dk dtX7_allSeen_0 14 rfl) rfl ?_
        refine g_iaddN F (dk dtX7_allSeen_0 15 rfl) ?_
        refine g_iald F ((5 + (4 * p)) + i) (dk dtX7_allSeen_0 16 rfl) (by have := hc.1; omega) (hc.2.1 _ _) (by omega) (by decide) ?_
        refine g_iadd F (dk dtX7_allSeen_0 17 rfl) ?_
        refine g_istore_n F [(3, .int ((nSum (fun j => M c (5 + 4 * p + j)) i) + (M c ((5 + (4 * p)) + i)))), (0, .ref (B + 0)), (1, .ref (B + c)), (2, .int (nI p)), (4, .int (nI i))] (dk dtX7_allSeen_0 18 rfl) (by decide) rfl ?_
        refine g_iinc F 4 (nI (i + 1)) [(4, .int (nI (i + 1))), (3, .int ((nSum (fun j => M c (5 + 4 * p + j)) i) + (M c ((5 + (4 * p)) + i)))), (0, .ref (B + 0)), (1, .ref (B + c)), (2, .int (nI p))] (dk dtX7_allSeen_0 19 rfl) rfl (nI_1 _) (by decide) rfl ?_
        refine g_goto F 5 (dk dtX7_allSeen_0 20 rfl) (by decide) ?_
        refine g_sub [2, 3, 4, 1, 0] (L1 := [(0, .ref (B + 0)), (1, .ref (B + c)), (2, .int (nI p)), (3, .int ((nSum (fun j => M c (5 + 4 * p + j)) i) + (M c ((5 + (4 * p)) + i)))), (4, .int (nI (i + 1)))]) rfl ?_
        have eq5_3 : ((nSum (fun j => M c (5 + 4 * p + j)) i) + (M c ((5 + (4 * p)) + i)) : Int32) = nSum (fun j => M c (5 + 4 * p + j)) (i + 1) := by
          rfl
        refine g_st (M1 := M) (L1 := [(0, .ref (B + 0)), (1, .ref (B + c)), (2, .int (nI p)), (3, .int (nSum (fun j => M c (5 + 4 * p + j)) (i + 1))), (4, .int (nI (i + 1)))]) rfl (lc rfl (lc rfl (lc rfl (lc (vi eq5_3) (lc rfl rfl))))) rfl ?_
        exact ih5 (i + 1) (by omega) (by omega)
  refine g_sub [2, 3, 4, 1, 0] (L1 := [(0, .ref (B + 0)), (1, .ref (B + c)), (2, .int (nI p)), (3, .int (nI 0)), (4, .int (nI 0))]) rfl ?_
  exact lp5 5 0 (by omega) (by omega)
set_option maxRecDepth 100000 in
set_option maxHeartbeats 4000000 in
theorem k_X7_surpriseOf (l : Launch) (D : DX) (B : Nat) (T : Int64) (M : Mem) (c : Nat) (hc : IsRow D B c) (p k : Nat) (hp : p < 5) (hk : k < 4) (hdv : ¬ (aS (M c) p + M 2 0 = 0)) : Ci l D B 14 (celM D B) yX7_surpriseOf cX7_surpriseOf 4 (some .int) 1 [.ref (B + 0), .ref (B + c), .int (nI p), .int (nI k)] T M (fun r T1 M1 => r = suR (M 2 0) (M c) p k ∧ T1 = T ∧ M1 = M) := by
  refine g_entryi (L := [(0, .ref (B + 0)), (1, .ref (B + c)), (2, .int (nI p)), (3, .int (nI k))]) (by decide) (Nat.le_of_ble_eq_true rfl) rfl ?_
  intro zp ze zs zm zb zt zc Q F hQ
  refine g_bipush F (nI 100) (dk dtX7_surpriseOf_0 0 rfl) (by decide) ?_
  refine g_bipush F (nI 100) (dk dtX7_surpriseOf_0 1 rfl) (by decide) ?_
  refine g_aload_n F 1 (dk dtX7_surpriseOf_0 2 rfl) rfl ?_
  refine g_iconst F (nI 5) (dk dtX7_surpriseOf_0 3 rfl) (by decide) ?_
  refine g_iconst F (nI 4) (dk dtX7_surpriseOf_0 4 rfl) (by decide) ?_
  refine g_iload_n F 2 (dk dtX7_surpriseOf_0 5 rfl) rfl ?_
  refine g_imulN F (dk dtX7_surpriseOf_0 6 rfl) ?_
  refine g_iaddN F (dk dtX7_surpriseOf_0 7 rfl) ?_
  refine g_iload_n F 3 (dk dtX7_surpriseOf_0 8 rfl) rfl ?_
  refine g_iaddN F (dk dtX7_surpriseOf_0 9 rfl) ?_
  refine g_iald F ((5 + (4 * p)) + k) (dk dtX7_surpriseOf_0 10 rfl) (by have := hc.1; omega) (hc.2.1 _ _) (by omega) (by decide) ?_
  refine g_iconst F (nI 1) (dk dtX7_surpriseOf_0 11 rfl) (by decide) ?_
  refine g_iadd F (dk dtX7_surpriseOf_0 12 rfl) ?_
  refine g_imul F (dk dtX7_surpriseOf_0 13 rfl) ?_
  refine g_aload_n F 0 (dk dtX7_surpriseOf_0 14 rfl) rfl ?_
  refine g_aload_n F 1 (dk dtX7_surpriseOf_0 15 rfl) rfl ?_
  refine g_iload_n F 2 (dk dtX7_surpriseOf_0 16 rfl) rfl ?_
  refine g_callVi F (As := [.ref (B + c), .int (nI p)]) (st := [.int ((nI 100) * ((M c ((5 + (4 * p)) + k)) + (nI 1))), .int (nI 100)]) cv_X7_125 (dk dtX7_surpriseOf_0 17 rfl) (by decide) (cm0 D B _ _) rfl rfl (Nat.le_of_ble_eq_true rfl) ⟨by decide, by decide⟩ (k_X7_allSeen l D B _ _ c hc _ (by omega)) (fun r19 T19 M19 hp19 => ?_)
  obtain ⟨e1, e2, e3⟩ := hp19
  replace e1 := e1.symm; replace e2 := e2.symm; replace e3 := e3.symm; subst e1; subst e2; subst e3
  refine g_aload_n F 0 (dk dtX7_surpriseOf_0 18 rfl) rfl ?_
  refine g_get F fa_X7_13 (dk dtX7_surpriseOf_0 19 rfl) (by decide) (cm0 D B _ _) rfl ?_
  refine g_iconst F (nI 0) (dk dtX7_surpriseOf_0 20 rfl) (by decide) ?_
  refine g_iald F (0) (dk dtX7_surpriseOf_0 21 rfl) (by decide) (cm2 D B _ _) (by omega) (by decide) ?_
  refine g_iadd F (dk dtX7_surpriseOf_0 22 rfl) ?_
  refine g_idiv F (dk dtX7_surpriseOf_0 23 rfl) (hdv) ?_
  refine g_isub F (dk dtX7_surpriseOf_0 24 rfl) ?_
  refine g_iret (F := F) hQ (dk dtX7_surpriseOf_0 25 rfl) ?_
  exact ⟨rfl, rfl, rfl⟩
set_option maxRecDepth 100000 in
set_option maxHeartbeats 4000000 in
theorem k_X7_allTerms (l : Launch) (D : DX) (B : Nat) (T : Int64) (M : Mem) (P : Nat) (hP : M 2 2 = nI P) (hP5 : P ≤ 5) : Ci l D B 14 (celM D B) yX7_allTerms cX7_allTerms 3 (some .int) 0 [.ref (B + 0)] T M (fun r T1 M1 => r = nSum (fun j => M 5 (25 + j)) P ∧ T1 = T ∧ M1 = M) := by
  refine g_entryi (L := [(0, .ref (B + 0))]) (by decide) (Nat.le_of_ble_eq_true rfl) rfl ?_
  intro zp ze zs zm zb zt zc Q F hQ
  refine g_iconst F (nI 0) (dk dtX7_allTerms_0 0 rfl) (by decide) ?_
  refine g_istore_n F [(1, .int (nI 0)), (0, .ref (B + 0))] (dk dtX7_allTerms_0 1 rfl) (by decide) rfl ?_
  refine g_iconst F (nI 0) (dk dtX7_allTerms_0 2 rfl) (by decide) ?_
  refine g_istore_n F [(2, .int (nI 0)), (1, .int (nI 0)), (0, .ref (B + 0))] (dk dtX7_allTerms_0 3 rfl) (by decide) rfl ?_
  have lp4 : ∀ (fz : Nat) (i : Nat), i ≤ P → (P - i) < fz → G zp l ze { frames := 0, cells := 0, slots := 0, locals := 40 * 0 } zs zm [.ref (B + 0)].toArray zb zt zc 3 D B 14 (celM D B) Q T M 4 [(0, .ref (B + 0)), (1, .int (nSum (fun j => M 5 (25 + j)) i)), (2, .int (nI i))] [] := by
    intro n4
    induction n4 with
    | zero => intro i hI hn; exact absurd hn (Nat.not_lt_zero _)
    | succ n4 ih4 =>
      intro i hI4 hn4
      refine g_iload_n F 2 (dk dtX7_allTerms_0 4 rfl) rfl ?_
      refine g_aload_n F 0 (dk dtX7_allTerms_0 5 rfl) rfl ?_
      refine g_get F fa_X7_13 (dk dtX7_allTerms_0 6 rfl) (by decide) (cm0 D B _ _) rfl ?_
      refine g_iconst F (nI 2) (dk dtX7_allTerms_0 7 rfl) (by decide) ?_
      refine g_iald F (2) (dk dtX7_allTerms_0 8 rfl) (by decide) (cm2 D B _ _) (by omega) (by decide) ?_
      refine g_top hP ?_
      refine g_icmp_geN F 32 (dk dtX7_allTerms_0 9 rfl) (by decide) (by omega) (by omega) (fun c11 => ?_) (fun c11 => ?_)
      · -- taken at 11
        obtain rfl : P = i := by omega
        refine g_iload_n F 1 (dk dtX7_allTerms_0 21 rfl) rfl ?_
        refine g_iret (F := F) hQ (dk dtX7_allTerms_0 22 rfl) ?_
        exact ⟨rfl, rfl, rfl⟩
      · -- not taken at 11
        refine g_iload_n F 1 (dk dtX7_allTerms_0 10 rfl) rfl ?_
        refine g_aload_n F 0 (dk dtX7_allTerms_0 11 rfl) rfl ?_
        refine g_get F fa_X7_22 (dk dtX7_allTerms_0 12 rfl) (by decide) (cm0 D B _ _) rfl ?_
        refine g_bipush F (nI 25) (dk dtX7_allTerms_0 13 rfl) (by decide) ?_
        refine g_iload_n F 2 (dk dtX7_allTerms_0 14 rfl) rfl ?_
        refine g_iaddN F (dk dtX7_allTerms_0 15 rfl) ?_
        refine g_iald F (25 + i) (dk dtX7_allTerms_0 16 rfl) (by decide) (cm5 D B _ _) (by omega) (by decide) ?_
        refine g_iadd F (dk dtX7_allTerms_0 17 rfl) ?_
        refine g_istore_n F [(1, .int ((nSum (fun j => M 5 (25 + j)) i) + (M 5 (25 + i)))), (0, .ref (B + 0)), (2, .int (nI i))] (dk dtX7_allTerms_0 18 rfl) (by decide) rfl ?_
        refine g_iinc F 2 (nI (i + 1)) [(2, .int (nI (i + 1))), (1, .int ((nSum (fun j => M 5 (25 + j)) i) + (M 5 (25 + i)))), (0, .ref (B + 0))] (dk dtX7_allTerms_0 19 rfl) rfl (nI_1 _) (by decide) rfl ?_
        refine g_goto F 4 (dk dtX7_allTerms_0 20 rfl) (by decide) ?_
        refine g_sub [2, 1, 0] (L1 := [(0, .ref (B + 0)), (1, .int ((nSum (fun j => M 5 (25 + j)) i) + (M 5 (25 + i)))), (2, .int (nI (i + 1)))]) rfl ?_
        have eq4_1 : ((nSum (fun j => M 5 (25 + j)) i) + (M 5 (25 + i)) : Int32) = nSum (fun j => M 5 (25 + j)) (i + 1) := by
          rfl
        refine g_st (M1 := M) (L1 := [(0, .ref (B + 0)), (1, .int (nSum (fun j => M 5 (25 + j)) (i + 1))), (2, .int (nI (i + 1)))]) rfl (lc rfl (lc (vi eq4_1) (lc rfl rfl))) rfl ?_
        exact ih4 (i + 1) (by omega) (by omega)
  refine g_sub [2, 1, 0] (L1 := [(0, .ref (B + 0)), (1, .int (nI 0)), (2, .int (nI 0))]) rfl ?_
  exact lp4 (P + 1) 0 (by omega) (by omega)
set_option maxRecDepth 100000 in
set_option maxHeartbeats 4000000 in
theorem k_X7_withTerms (l : Launch) (D : DX) (B : Nat) (T : Int64) (M : Mem) (P : Nat) (hP : M 2 2 = nI P) (hP5 : P ≤ 5) : Ci l D B 14 (celM D B) yX7_withTerms cX7_withTerms 3 (some .int) 0 [.ref (B + 0)] T M (fun r T1 M1 => r = nI (nCnt (fun j => M 5 (25 + j)) P) ∧ T1 = T ∧ M1 = M) := by
  refine g_entryi (L := [(0, .ref (B + 0))]) (by decide) (Nat.le_of_ble_eq_true rfl) rfl ?_
  intro zp ze zs zm zb zt zc Q F hQ
  refine g_iconst F (nI 0) (dk dtX7_withTerms_0 0 rfl) (by decide) ?_
  refine g_istore_n F [(1, .int (nI 0)), (0, .ref (B + 0))] (dk dtX7_withTerms_0 1 rfl) (by decide) rfl ?_
  refine g_iconst F (nI 0) (dk dtX7_withTerms_0 2 rfl) (by decide) ?_
  refine g_istore_n F [(2, .int (nI 0)), (1, .int (nI 0)), (0, .ref (B + 0))] (dk dtX7_withTerms_0 3 rfl) (by decide) rfl ?_
  have lp4 : ∀ (fz : Nat) (i : Nat), i ≤ P → (P - i) < fz → G zp l ze { frames := 0, cells := 0, slots := 0, locals := 40 * 0 } zs zm [.ref (B + 0)].toArray zb zt zc 3 D B 14 (celM D B) Q T M 4 [(0, .ref (B + 0)), (1, .int (nI (nCnt (fun j => M 5 (25 + j)) i))), (2, .int (nI i))] [] := by
    intro n4
    induction n4 with
    | zero => intro i hI hn; exact absurd hn (Nat.not_lt_zero _)
    | succ n4 ih4 =>
      intro i hI4 hn4
      refine g_iload_n F 2 (dk dtX7_withTerms_0 4 rfl) rfl ?_
      refine g_aload_n F 0 (dk dtX7_withTerms_0 5 rfl) rfl ?_
      refine g_get F fa_X7_13 (dk dtX7_withTerms_0 6 rfl) (by decide) (cm0 D B _ _) rfl ?_
      refine g_iconst F (nI 2) (dk dtX7_withTerms_0 7 rfl) (by decide) ?_
      refine g_iald F (2) (dk dtX7_withTerms_0 8 rfl) (by decide) (cm2 D B _ _) (by omega) (by decide) ?_
      refine g_top hP ?_
      refine g_icmp_geN F 40 (dk dtX7_withTerms_0 9 rfl) (by decide) (by omega) (by omega) (fun c11 => ?_) (fun c11 => ?_)
      · -- taken at 11
        obtain rfl : P = i := by omega
        refine g_iload_n F 1 (dk dtX7_withTerms_0 25 rfl) rfl ?_
        refine g_iret (F := F) hQ (dk dtX7_withTerms_0 26 rfl) ?_
        exact ⟨rfl, rfl, rfl⟩
      · -- not taken at 11
        refine g_iload_n F 1 (dk dtX7_withTerms_0 10 rfl) rfl ?_
        refine g_aload_n F 0 (dk dtX7_withTerms_0 11 rfl) rfl ?_
        refine g_get F fa_X7_22 (dk dtX7_withTerms_0 12 rfl) (by decide) (cm0 D B _ _) rfl ?_
        refine g_bipush F (nI 25) (dk dtX7_withTerms_0 13 rfl) (by decide) ?_
        refine g_iload_n F 2 (dk dtX7_withTerms_0 14 rfl) rfl ?_
        refine g_iaddN F (dk dtX7_withTerms_0 15 rfl) ?_
        refine g_iald F (25 + i) (dk dtX7_withTerms_0 16 rfl) (by decide) (cm5 D B _ _) (by omega) (by decide) ?_
        refine g_if_le F 31 (dk dtX7_withTerms_0 17 rfl) (by decide) (fun c24 => ?_) (fun c24 => ?_)
        · -- taken at 24
          refine g_iconst F (nI 0) (dk dtX7_withTerms_0 20 rfl) (by decide) ?_
          refine g_iaddN F (dk dtX7_withTerms_0 21 rfl) ?_
          refine g_istore_n F [(1, .int (nI ((nCnt (fun j => M 5 (25 + j)) i) + 0))), (0, .ref (B + 0)), (2, .int (nI i))] (dk dtX7_withTerms_0 22 rfl) (by decide) rfl ?_
          refine g_iinc F 2 (nI (i + 1)) [(2, .int (nI (i + 1))), (1, .int (nI ((nCnt (fun j => M 5 (25 + j)) i) + 0))), (0, .ref (B + 0))] (dk dtX7_withTerms_0 23 rfl) rfl (nI_1 _) (by decide) rfl ?_
          refine g_goto F 4 (dk dtX7_withTerms_0 24 rfl) (by decide) ?_
          refine g_sub [2, 1, 0] (L1 := [(0, .ref (B + 0)), (1, .int (nI ((nCnt (fun j => M 5 (25 + j)) i) + 0))), (2, .int (nI (i + 1)))]) rfl ?_
          have eq4_1 : (nI ((nCnt (fun j => M 5 (25 + j)) i) + 0) : Int32) = nI (nCnt (fun j => M 5 (25 + j)) (i + 1)) := by
            simp [nCnt, c24]
          refine g_st (M1 := M) (L1 := [(0, .ref (B + 0)), (1, .int (nI (nCnt (fun j => M 5 (25 + j)) (i + 1)))), (2, .int (nI (i + 1)))]) rfl (lc rfl (lc (vi eq4_1) (lc rfl rfl))) rfl ?_
          exact ih4 (i + 1) (by omega) (by omega)
        · -- not taken at 24
          refine g_iconst F (nI 1) (dk dtX7_withTerms_0 18 rfl) (by decide) ?_
          refine g_goto F 32 (dk dtX7_withTerms_0 19 rfl) (by decide) ?_
          refine g_iaddN F (dk dtX7_withTerms_0 21 rfl) ?_
          refine g_istore_n F [(1, .int (nI ((nCnt (fun j => M 5 (25 + j)) i) + 1))), (0, .ref (B + 0)), (2, .int (nI i))] (dk dtX7_withTerms_0 22 rfl) (by decide) rfl ?_
          refine g_iinc F 2 (nI (i + 1)) [(2, .int (nI (i + 1))), (1, .int (nI ((nCnt (fun j => M 5 (25 + j)) i) + 1))), (0, .ref (B + 0))] (dk dtX7_withTerms_0 23 rfl) rfl (nI_1 _) (by decide) rfl ?_
          refine g_goto F 4 (dk dtX7_withTerms_0 24 rfl) (by decide) ?_
          refine g_sub [2, 1, 0] (L1 := [(0, .ref (B + 0)), (1, .int (nI ((nCnt (fun j => M 5 (25 + j)) i) + 1))), (2, .int (nI (i + 1)))]) rfl ?_
          have eq4_1 : (nI ((nCnt (fun j => M 5 (25 + j)) i) + 1) : Int32) = nI (nCnt (fun j => M 5 (25 + j)) (i + 1)) := by
            simp [nCnt, c24]
          refine g_st (M1 := M) (L1 := [(0, .ref (B + 0)), (1, .int (nI (nCnt (fun j => M 5 (25 + j)) (i + 1)))), (2, .int (nI (i + 1)))]) rfl (lc rfl (lc (vi eq4_1) (lc rfl rfl))) rfl ?_
          exact ih4 (i + 1) (by omega) (by omega)
  refine g_sub [2, 1, 0] (L1 := [(0, .ref (B + 0)), (1, .int (nI 0)), (2, .int (nI 0))]) rfl ?_
  exact lp4 (P + 1) 0 (by omega) (by omega)
set_option maxRecDepth 100000 in
set_option maxHeartbeats 4000000 in
theorem k_X7_mostSurprise (l : Launch) (D : DX) (B : Nat) (T : Int64) (M : Mem) (K P : Nat) (hK : M 2 0 = nI K) (hP : M 2 2 = nI P) (hK1 : 1 ≤ K) (hK4 : K ≤ 4) (hP5 : P ≤ 5) (hW : WR (M 5)) : Ci l D B 14 (celM D B) yX7_mostSurprise cX7_mostSurprise 5 (some .int) 2 [.ref (B + 0)] T M (fun r T1 M1 => r = msR (M 2 0) (M 5) K P ∧ T1 = T ∧ M1 = M) := by
  refine g_entryi (L := [(0, .ref (B + 0))]) (by decide) (Nat.le_of_ble_eq_true rfl) rfl ?_
  intro zp ze zs zm zb zt zc Q F hQ
  refine g_iconst F (-1) (dk dtX7_mostSurprise_0 0 rfl) (by decide) ?_
  refine g_istore_n F [(1, .int (-1)), (0, .ref (B + 0))] (dk dtX7_mostSurprise_0 1 rfl) (by decide) rfl ?_
  refine g_iconst F (nI 0) (dk dtX7_mostSurprise_0 2 rfl) (by decide) ?_
  refine g_istore_n F [(2, .int (nI 0)), (1, .int (-1)), (0, .ref (B + 0))] (dk dtX7_mostSurprise_0 3 rfl) (by decide) rfl ?_
  have lp4 : ∀ (fz : Nat) (i : Nat), i ≤ P → (P - i) < fz → G zp l ze { frames := 2, cells := 0, slots := 0, locals := 40 * 2 } zs zm [.ref (B + 0)].toArray zb zt zc 5 D B 14 (celM D B) Q T M 4 [(0, .ref (B + 0)), (1, .int (msR (M 2 0) (M 5) K i)), (2, .int (nI i))] [] := by
    intro n4
    induction n4 with
    | zero => intro i hI hn; exact absurd hn (Nat.not_lt_zero _)
    | succ n4 ih4 =>
      intro i hI4 hn4
      refine g_iload_n F 2 (dk dtX7_mostSurprise_0 4 rfl) rfl ?_
      refine g_aload_n F 0 (dk dtX7_mostSurprise_0 5 rfl) rfl ?_
      refine g_get F fa_X7_13 (dk dtX7_mostSurprise_0 6 rfl) (by decide) (cm0 D B _ _) rfl ?_
      refine g_iconst F (nI 2) (dk dtX7_mostSurprise_0 7 rfl) (by decide) ?_
      refine g_iald F (2) (dk dtX7_mostSurprise_0 8 rfl) (by decide) (cm2 D B _ _) (by omega) (by decide) ?_
      refine g_top hP ?_
      refine g_icmp_geN F 63 (dk dtX7_mostSurprise_0 9 rfl) (by decide) (by omega) (by omega) (fun c11 => ?_) (fun c11 => ?_)
      · -- taken at 11
        obtain rfl : P = i := by omega
        refine g_iload_n F 1 (dk dtX7_mostSurprise_0 36 rfl) rfl ?_
        refine g_iret (F := F) hQ (dk dtX7_mostSurprise_0 37 rfl) ?_
        exact ⟨rfl, rfl, rfl⟩
      · -- not taken at 11
        refine g_iconst F (nI 0) (dk dtX7_mostSurprise_0 10 rfl) (by decide) ?_
        refine g_istore_n F [(3, .int (nI 0)), (0, .ref (B + 0)), (1, .int (msR (M 2 0) (M 5) K i)), (2, .int (nI i))] (dk dtX7_mostSurprise_0 11 rfl) (by decide) rfl ?_
        have lp16 : ∀ (fz : Nat) (j : Nat), j ≤ K → (K - j) < fz → G zp l ze { frames := 2, cells := 0, slots := 0, locals := 40 * 2 } zs zm [.ref (B + 0)].toArray zb zt zc 5 D B 14 (celM D B) Q T M 16 [(0, .ref (B + 0)), (1, .int (msK (M 2 0) (M 5) i j (msR (M 2 0) (M 5) K i))), (2, .int (nI i)), (3, .int (nI j))] [] := by
          intro n16
          induction n16 with
          | zero => intro j hI hn; exact absurd hn (Nat.not_lt_zero _)
          | succ n16 ih16 =>
            intro j hI16 hn16
            refine g_iload_n F 3 (dk dtX7_mostSurprise_0 12 rfl) rfl ?_
            refine g_aload_n F 0 (dk dtX7_mostSurprise_0 13 rfl) rfl ?_
            refine g_get F fa_X7_13 (dk dtX7_mostSurprise_0 14 rfl) (by decide) (cm0 D B _ _) rfl ?_
            refine g_iconst F (nI 0) (dk dtX7_mostSurprise_0 15 rfl) (by decide) ?_
            refine g_iald F (0) (dk dtX7_mostSurprise_0 16 rfl) (by decide) (cm2 D B _ _) (by omega) (by decide) ?_
            refine g_top hK ?_
            refine g_icmp_geN F 57 (dk dtX7_mostSurprise_0 17 rfl) (by decide) (by omega) (by omega) (fun c23 => ?_) (fun c23 => ?_)
            · -- taken at 23
              obtain rfl : K = j := by omega
              refine g_iinc F 2 (nI (i + 1)) [(2, .int (nI (i + 1))), (0, .ref (B + 0)), (1, .int (msK (M 2 0) (M 5) i K (msR (M 2 0) (M 5) K i))), (3, .int (nI K))] (dk dtX7_mostSurprise_0 34 rfl) rfl (nI_1 _) (by decide) rfl ?_
              refine g_goto F 4 (dk dtX7_mostSurprise_0 35 rfl) (by decide) ?_
              refine g_sub [1, 2, 0] (L1 := [(0, .ref (B + 0)), (1, .int (msK (M 2 0) (M 5) i K (msR (M 2 0) (M 5) K i))), (2, .int (nI (i + 1)))]) rfl ?_
              have eq4_1 : (msK (M 2 0) (M 5) i K (msR (M 2 0) (M 5) K i) : Int32) = msR (M 2 0) (M 5) K (i + 1) := by
                rfl
              refine g_st (M1 := M) (L1 := [(0, .ref (B + 0)), (1, .int (msR (M 2 0) (M 5) K (i + 1))), (2, .int (nI (i + 1)))]) rfl (lc rfl (lc (vi eq4_1) (lc rfl rfl))) rfl ?_
              exact ih4 (i + 1) (by omega) (by omega)
            · -- not taken at 23
              refine g_aload_n F 0 (dk dtX7_mostSurprise_0 18 rfl) rfl ?_
              refine g_aload_n F 0 (dk dtX7_mostSurprise_0 19 rfl) rfl ?_
              refine g_get F fa_X7_22 (dk dtX7_mostSurprise_0 20 rfl) (by decide) (cm0 D B _ _) rfl ?_
              refine g_iload_n F 2 (dk dtX7_mostSurprise_0 21 rfl) rfl ?_
              refine g_iload_n F 3 (dk dtX7_mostSurprise_0 22 rfl) rfl ?_
              refine g_callVi F (As := [.ref (B + 5), .int (nI i), .int (nI j)]) (st := []) cv_X7_135 (dk dtX7_mostSurprise_0 23 rfl) (by decide) (cm0 D B _ _) rfl rfl (Nat.le_of_ble_eq_true rfl) ⟨by decide, by decide⟩ (k_X7_surpriseOf l D B _ _ 5 (isRow5 D B) i j (by omega) (by omega) (dvR hK hW hK1 hK4 (by omega))) (fun r33 T33 M33 hp33 => ?_)
              obtain ⟨e1, e2, e3⟩ := hp33
              replace e1 := e1.symm; replace e2 := e2.symm; replace e3 := e3.symm; subst e1; subst e2; subst e3
              refine g_istore F [(4, .int (suR (M 2 0) (M 5) i j)), (0, .ref (B + 0)), (1, .int (msK (M 2 0) (M 5) i j (msR (M 2 0) (M 5) K i))), (2, .int (nI i)), (3, .int (nI j))] (dk dtX7_mostSurprise_0 24 rfl) (by decide) rfl ?_
              refine g_iload F 0 (dk dtX7_mostSurprise_0 25 rfl) rfl ?_
              refine g_iload_n F 2 (dk dtX7_mostSurprise_0 26 rfl) rfl ?_
              refine g_icmp_le F 49 (dk dtX7_mostSurprise_0 27 rfl) (by decide) (fun c41 => ?_) (fun c41 => ?_)
              · -- taken at 41
                refine g_iload_n F 2 (dk dtX7_mostSurprise_0 30 rfl) rfl ?_
                refine g_istore_n F [(1, .int (msK (M 2 0) (M 5) i j (msR (M 2 0) (M 5) K i))), (4, .int (suR (M 2 0) (M 5) i j)), (0, .ref (B + 0)), (2, .int (nI i)), (3, .int (nI j))] (dk dtX7_mostSurprise_0 31 rfl) (by decide) rfl ?_
                refine g_iinc F 4 (nI (j + 1)) [(3, .int (nI (j + 1))), (1, .int (msK (M 2 0) (M 5) i j (msR (M 2 0) (M 5) K i))), (4, .int (suR (M 2 0) (M 5) i j)), (0, .ref (B + 0)), (2, .int (nI i))] (dk dtX7_mostSurprise_0 32 rfl) rfl (nI_1 _) (by decide) rfl ?_
                refine g_goto F 16 (dk dtX7_mostSurprise_0 33 rfl) (by decide) ?_
                refine g_sub [3, 1, 4, 0] (L1 := [(0, .ref (B + 0)), (1, .int (msK (M 2 0) (M 5) i j (msR (M 2 0) (M 5) K i))), (2, .int (nI i)), (3, .int (nI (j + 1)))]) rfl ?_
                have eq16_1 : (msK (M 2 0) (M 5) i j (msR (M 2 0) (M 5) K i) : Int32) = msK (M 2 0) (M 5) i (j + 1) (msR (M 2 0) (M 5) K i) := by
                  exact (if_neg (Int32.not_lt.mpr c41)).symm
                refine g_st (M1 := M) (L1 := [(0, .ref (B + 0)), (1, .int (msK (M 2 0) (M 5) i (j + 1) (msR (M 2 0) (M 5) K i))), (2, .int (nI i)), (3, .int (nI (j + 1)))]) rfl (lc rfl (lc (vi eq16_1) (lc rfl (lc rfl rfl)))) rfl ?_
                exact ih16 (j + 1) (by omega) (by omega)
              · -- not taken at 41
                refine g_iload F 0 (dk dtX7_mostSurprise_0 28 rfl) rfl ?_
                refine g_goto F 50 (dk dtX7_mostSurprise_0 29 rfl) (by decide) ?_
                refine g_istore_n F [(1, .int (suR (M 2 0) (M 5) i j)), (4, .int (suR (M 2 0) (M 5) i j)), (0, .ref (B + 0)), (2, .int (nI i)), (3, .int (nI j))] (dk dtX7_mostSurprise_0 31 rfl) (by decide) rfl ?_
                refine g_iinc F 4 (nI (j + 1)) [(3, .int (nI (j + 1))), (1, .int (suR (M 2 0) (M 5) i j)), (4, .int (suR (M 2 0) (M 5) i j)), (0, .ref (B + 0)), (2, .int (nI i))] (dk dtX7_mostSurprise_0 32 rfl) rfl (nI_1 _) (by decide) rfl ?_
                refine g_goto F 16 (dk dtX7_mostSurprise_0 33 rfl) (by decide) ?_
                refine g_sub [3, 1, 4, 0] (L1 := [(0, .ref (B + 0)), (1, .int (suR (M 2 0) (M 5) i j)), (2, .int (nI i)), (3, .int (nI (j + 1)))]) rfl ?_
                have eq16_1 : (suR (M 2 0) (M 5) i j : Int32) = msK (M 2 0) (M 5) i (j + 1) (msR (M 2 0) (M 5) K i) := by
                  exact (if_pos (Int32.not_le.mp c41)).symm
                refine g_st (M1 := M) (L1 := [(0, .ref (B + 0)), (1, .int (msK (M 2 0) (M 5) i (j + 1) (msR (M 2 0) (M 5) K i))), (2, .int (nI i)), (3, .int (nI (j + 1)))]) rfl (lc rfl (lc (vi eq16_1) (lc rfl (lc rfl rfl)))) rfl ?_
                exact ih16 (j + 1) (by omega) (by omega)
        refine g_sub [1, 2, 3, 0] (L1 := [(0, .ref (B + 0)), (1, .int (msR (M 2 0) (M 5) K i)), (2, .int (nI i)), (3, .int (nI 0))]) rfl ?_
        exact lp16 (K + 1) 0 (by omega) (by omega)
  refine g_sub [2, 1, 0] (L1 := [(0, .ref (B + 0)), (1, .int (-1)), (2, .int (nI 0))]) rfl ?_
  exact lp4 (P + 1) 0 (by omega) (by omega)
set_option maxRecDepth 100000 in
set_option maxHeartbeats 4000000 in
theorem k_X7_mayorOf (l : Launch) (D : DX) (B : Nat) (T : Int64) (M : Mem) (c : Nat) (hc : IsRow D B c) : Ci l D B 14 (celM D B) yX7_mayorOf cX7_mayorOf 1 (some .int) 0 [.ref (B + c)] T M (fun r T1 M1 => r = moR (M c) ∧ T1 = T ∧ M1 = M) := by
  refine g_entryi (L := [(0, .ref (B + c))]) (by decide) (Nat.le_of_ble_eq_true rfl) rfl ?_
  intro zp ze zs zm zb zt zc Q F hQ
  refine g_aload_n F 0 (dk dtX7_mayorOf_0 0 rfl) rfl ?_
  refine g_bipush F (nI 30) (dk dtX7_mayorOf_0 1 rfl) (by decide) ?_
  refine g_iald F (30) (dk dtX7_mayorOf_0 2 rfl) (by have := hc.1; omega) (hc.2.1 _ _) (by omega) (by decide) ?_
  refine g_if_ne F 12 (dk dtX7_mayorOf_0 3 rfl) (by decide) (fun c4 => ?_) (fun c4 => ?_)
  · -- taken at 4
    refine g_aload_n F 0 (dk dtX7_mayorOf_0 6 rfl) rfl ?_
    refine g_bipush F (nI 30) (dk dtX7_mayorOf_0 7 rfl) (by decide) ?_
    refine g_iald F (30) (dk dtX7_mayorOf_0 8 rfl) (by have := hc.1; omega) (hc.2.1 _ _) (by omega) (by decide) ?_
    refine g_iconst F (nI 1) (dk dtX7_mayorOf_0 9 rfl) (by decide) ?_
    refine g_isub F (dk dtX7_mayorOf_0 10 rfl) ?_
    refine g_iret (F := F) hQ (dk dtX7_mayorOf_0 11 rfl) ?_
    exact ⟨(if_neg c4).symm, rfl, rfl⟩
  · -- not taken at 4
    refine g_bipush F (-9) (dk dtX7_mayorOf_0 4 rfl) (by decide) ?_
    refine g_goto F 18 (dk dtX7_mayorOf_0 5 rfl) (by decide) ?_
    refine g_iret (F := F) hQ (dk dtX7_mayorOf_0 11 rfl) ?_
    exact ⟨(if_pos c4).symm, rfl, rfl⟩
set_option maxRecDepth 100000 in
set_option maxHeartbeats 4000000 in
theorem k_X7_copies (l : Launch) (D : DX) (B : Nat) (T : Int64) (M : Mem) (b c : Nat) (hb : IsRow D B b) (hc : IsRow D B c) (hbc : b ≠ c) : Cv l D B 14 (celM D B) yX7_copies cX7_copies 3 none 0 [.ref (B + b), .ref (B + c)] T M (fun T1 M1 => T1 = T ∧ M1 = setR M c (M b)) := by
  refine g_entryv (L := [(0, .ref (B + b)), (1, .ref (B + c))]) (by decide) (Nat.le_of_ble_eq_true rfl) rfl ?_
  intro zp ze zs zm zb zt zc Q F hQ
  refine g_iconst F (nI 0) (dk dtX7_copies_0 0 rfl) (by decide) ?_
  refine g_istore_n F [(2, .int (nI 0)), (0, .ref (B + b)), (1, .ref (B + c))] (dk dtX7_copies_0 1 rfl) (by decide) rfl ?_
  have lp2 : ∀ (fz : Nat) (i : Nat), i ≤ 31 → (31 - i) < fz → G zp l ze { frames := 0, cells := 0, slots := 0, locals := 40 * 0 } zs zm [.ref (B + b), .ref (B + c)].toArray zb zt zc 3 D B 14 (celM D B) Q T (setR M c (cpR (M b) (M c) i)) 2 [(0, .ref (B + b)), (1, .ref (B + c)), (2, .int (nI i))] [] := by
    intro n2
    induction n2 with
    | zero => intro i hI hn; exact absurd hn (Nat.not_lt_zero _)
    | succ n2 ih2 =>
      intro i hI2 hn2
      refine g_iload_n F 2 (dk dtX7_copies_0 2 rfl) rfl ?_
      refine g_bipush F (nI 31) (dk dtX7_copies_0 3 rfl) (by decide) ?_
      refine g_icmp_geN F 20 (dk dtX7_copies_0 4 rfl) (by decide) (by omega) (by omega) (fun c5 => ?_) (fun c5 => ?_)
      · -- taken at 5
        obtain rfl : 31 = i := by omega
        refine g_row (M b) (fun r => hc.2.1 _ r) (fun j hj => by rw [setR_self]; exact cpR_in _ _ hj) ?_
        refine g_mem (setR_setR _ _ _ _) ?_
        refine g_vret (F := F) hQ (dk dtX7_copies_0 13 rfl) ?_
        exact ⟨rfl, rfl⟩
      · -- not taken at 5
        refine g_aload_n F 1 (dk dtX7_copies_0 5 rfl) rfl ?_
        refine g_iload_n F 2 (dk dtX7_copies_0 6 rfl) rfl ?_
        refine g_aload_n F 0 (dk dtX7_copies_0 7 rfl) rfl ?_
        refine g_iload_n F 2 (dk dtX7_copies_0 8 rfl) rfl ?_
        refine g_iald F (i) (dk dtX7_copies_0 9 rfl) (by have := hb.1; omega) (hb.2.1 _ _) (by omega) (by decide) ?_
        refine g_top (congrFun (setR_ne _ _ hbc) _) ?_
        refine g_iast F (i) (dk dtX7_copies_0 10 rfl) (by have := hc.1; omega) (fun r => hc.2.1 _ r) (by omega) (by decide) ?_
        refine g_iinc F 2 (nI (i + 1)) [(2, .int (nI (i + 1))), (0, .ref (B + b)), (1, .ref (B + c))] (dk dtX7_copies_0 11 rfl) rfl (nI_1 _) (by decide) rfl ?_
        refine g_goto F 2 (dk dtX7_copies_0 12 rfl) (by decide) ?_
        refine g_sub [1, 2, 0] (L1 := [(0, .ref (B + b)), (1, .ref (B + c)), (2, .int (nI (i + 1)))]) rfl ?_
        refine g_st (M1 := setR M c (cpR (M b) (M c) (i + 1))) (L1 := [(0, .ref (B + b)), (1, .ref (B + c)), (2, .int (nI (i + 1)))]) (by rw [up2_setR]; exact congrArg (setR M c) (cpR_s _ _ _)) rfl rfl ?_
        exact ih2 (i + 1) (by omega) (by omega)
  refine g_sub [1, 2, 0] (L1 := [(0, .ref (B + b)), (1, .ref (B + c)), (2, .int (nI 0))]) rfl ?_
  refine g_mem (cpR_0 M b c) ?_
  exact lp2 32 0 (by omega) (by omega)
set_option maxRecDepth 100000 in
set_option maxHeartbeats 4000000 in
theorem k_X7_event (l : Launch) (D : DX) (B : Nat) (T : Int64) (M : Mem) (c : Nat) (hc : IsRow D B c) (k : Nat) (hk : k < 4) (x : Int32) (K P : Nat) (hK : M 2 0 = nI K) (hP : M 2 2 = nI P) (hK1 : 1 ≤ K) (hK4 : K ≤ 4) (hP5 : P ≤ 5) (hW : WR (M c)) : Ci l D B 14 (celM D B) yX7_event cX7_event 9 (some .int) 2 [.ref (B + 0), .ref (B + c), .int (nI k), .int x] T M (fun r T1 M1 => r = (eF (M 3) (M 2 0) (M c) k x P).1 ∧ T1 = T ∧ M1 = setR M c (evR (M 3) (M 2 0) (M c) k x P)) := by
  refine g_entryi (L := [(0, .ref (B + 0)), (1, .ref (B + c)), (2, .int (nI k)), (3, .int x)]) (by decide) (Nat.le_of_ble_eq_true rfl) rfl ?_
  intro zp ze zs zm zb zt zc Q F hQ
  refine g_iconst F (nI 0) (dk dtX7_event_0 0 rfl) (by decide) ?_
  refine g_istore F [(4, .int (nI 0)), (0, .ref (B + 0)), (1, .ref (B + c)), (2, .int (nI k)), (3, .int x)] (dk dtX7_event_0 1 rfl) (by decide) rfl ?_
  refine g_bipush F (-9) (dk dtX7_event_0 2 rfl) (by decide) ?_
  refine g_istore F [(5, .int (-9)), (4, .int (nI 0)), (0, .ref (B + 0)), (1, .ref (B + c)), (2, .int (nI k)), (3, .int x)] (dk dtX7_event_0 3 rfl) (by decide) rfl ?_
  refine g_iconst F (-1) (dk dtX7_event_0 4 rfl) (by decide) ?_
  refine g_istore F [(6, .int (-1)), (5, .int (-9)), (4, .int (nI 0)), (0, .ref (B + 0)), (1, .ref (B + c)), (2, .int (nI k)), (3, .int x)] (dk dtX7_event_0 5 rfl) (by decide) rfl ?_
  refine g_iconst F (nI 0) (dk dtX7_event_0 6 rfl) (by decide) ?_
  refine g_istore F [(7, .int (nI 0)), (6, .int (-1)), (5, .int (-9)), (4, .int (nI 0)), (0, .ref (B + 0)), (1, .ref (B + c)), (2, .int (nI k)), (3, .int x)] (dk dtX7_event_0 7 rfl) (by decide) rfl ?_
  have lp13 : ∀ (fz : Nat) (i : Nat), i ≤ P → (P - i) < fz → G zp l ze { frames := 2, cells := 0, slots := 0, locals := 40 * 2 } zs zm [.ref (B + 0), .ref (B + c), .int (nI k), .int x].toArray zb zt zc 9 D B 14 (celM D B) Q T M 13 [(0, .ref (B + 0)), (1, .ref (B + c)), (2, .int (nI k)), (3, .int x), (4, .int ((eF (M 3) (M 2 0) (M c) k x i).1)), (5, .int ((eF (M 3) (M 2 0) (M c) k x i).2.1)), (6, .int ((eF (M 3) (M 2 0) (M c) k x i).2.2)), (7, .int (nI i))] [] := by
    intro n13
    induction n13 with
    | zero => intro i hI hn; exact absurd hn (Nat.not_lt_zero _)
    | succ n13 ih13 =>
      intro i hI13 hn13
      refine g_iload F 7 (dk dtX7_event_0 8 rfl) rfl ?_
      refine g_aload_n F 0 (dk dtX7_event_0 9 rfl) rfl ?_
      refine g_get F fa_X7_13 (dk dtX7_event_0 10 rfl) (by decide) (cm0 D B _ _) rfl ?_
      refine g_iconst F (nI 2) (dk dtX7_event_0 11 rfl) (by decide) ?_
      refine g_iald F (2) (dk dtX7_event_0 12 rfl) (by decide) (cm2 D B _ _) (by omega) (by decide) ?_
      refine g_top hP ?_
      refine g_icmp_geN F 103 (dk dtX7_event_0 13 rfl) (by decide) (by omega) (by omega) (fun c21 => ?_) (fun c21 => ?_)
      · -- taken at 21
        obtain rfl : P = i := by omega
        have lp143 : ∀ (fz : Nat) (i : Nat), i ≤ P → (P - i) < fz → G zp l ze { frames := 2, cells := 0, slots := 0, locals := 40 * 2 } zs zm [.ref (B + 0), .ref (B + c), .int (nI k), .int x].toArray zb zt zc 9 D B 14 (celM D B) Q T (setR M c (e2 (e1 (M c) (eF (M 3) (M 2 0) (M c) k x P).2.1) k x i)) 143 [(0, .ref (B + 0)), (1, .ref (B + c)), (2, .int (nI k)), (3, .int x), (4, .int ((eF (M 3) (M 2 0) (M c) k x P).1)), (7, .int (nI i))] [] := by
          intro n143
          induction n143 with
          | zero => intro i hI hn; exact absurd hn (Nat.not_lt_zero _)
          | succ n143 ih143 =>
            intro i hI143 hn143
            refine g_iload F 5 (dk dtX7_event_1 22 rfl) rfl ?_
            refine g_aload_n F 0 (dk dtX7_event_1 23 rfl) rfl ?_
            refine g_get F fa_X7_13 (dk dtX7_event_1 24 rfl) (by decide) (cm0 D B _ _) rfl ?_
            refine g_iconst F (nI 2) (dk dtX7_event_1 25 rfl) (by decide) ?_
            refine g_iald F (2) (dk dtX7_event_1 26 rfl) (by decide) (cm2 D B _ _) (by omega) (by decide) ?_
            refine g_top ((congrFun (setR_ne _ _ (Ne.symm hc.2.2.2.1)) _).trans hP) ?_
            refine g_icmp_geN F 202 (dk dtX7_event_1 27 rfl) (by decide) (by omega) (by omega) (fun c151 => ?_) (fun c151 => ?_)
            · -- taken at 151
              obtain rfl : P = i := by omega
              refine g_iload F 4 (dk dtX7_event_1 59 rfl) rfl ?_
              refine g_iret (F := F) hQ (dk dtX7_event_2 0 rfl) ?_
              exact ⟨rfl, rfl, rfl⟩
            · -- not taken at 151
              refine g_iconst F (nI 5) (dk dtX7_event_1 28 rfl) (by decide) ?_
              refine g_iconst F (nI 4) (dk dtX7_event_1 29 rfl) (by decide) ?_
              refine g_iload F 5 (dk dtX7_event_1 30 rfl) rfl ?_
              refine g_imulN F (dk dtX7_event_1 31 rfl) ?_
              refine g_iaddN F (dk dtX7_event_1 32 rfl) ?_
              refine g_iload_n F 2 (dk dtX7_event_1 33 rfl) rfl ?_
              refine g_iaddN F (dk dtX7_event_1 34 rfl) ?_
              refine g_istore F [(8, .int (nI ((5 + (4 * i)) + k))), (0, .ref (B + 0)), (1, .ref (B + c)), (2, .int (nI k)), (3, .int x), (4, .int ((eF (M 3) (M 2 0) (M c) k x P).1)), (7, .int (nI i))] (dk dtX7_event_1 35 rfl) (by decide) rfl ?_
              refine g_aload_n F 2 (dk dtX7_event_1 36 rfl) rfl ?_
              refine g_iload F 0 (dk dtX7_event_1 37 rfl) rfl ?_
              refine g_dup2 F (dk dtX7_event_1 38 rfl) rfl rfl ?_
              refine g_iald F ((5 + (4 * i)) + k) (dk dtX7_event_1 39 rfl) (by have := hc.1; omega) (hc.2.1 _ _) (by omega) (by decide) ?_
              refine g_top (congrFun (setR_self _ _ _) _) ?_
              refine g_aload_n F 2 (dk dtX7_event_1 40 rfl) rfl ?_
              refine g_iconst F (nI 0) (dk dtX7_event_1 41 rfl) (by decide) ?_
              refine g_iload F 6 (dk dtX7_event_1 42 rfl) rfl ?_
              refine g_iadd0 F (dk dtX7_event_1 43 rfl) ?_
              refine g_iald F (i) (dk dtX7_event_1 44 rfl) (by have := hc.1; omega) (hc.2.1 _ _) (by omega) (by decide) ?_
              refine g_top (congrFun (setR_self _ _ _) _) ?_
              refine g_iload_n F 4 (dk dtX7_event_1 45 rfl) rfl ?_
              refine g_icmp_ne F 193 (dk dtX7_event_1 46 rfl) (by decide) (fun c176 => ?_) (fun c176 => ?_)
              · -- taken at 176
                refine g_iconst F (nI 0) (dk dtX7_event_1 54 rfl) (by decide) ?_
                refine g_iadd F (dk dtX7_event_1 55 rfl) ?_
                refine g_iast F ((5 + (4 * i)) + k) (dk dtX7_event_1 56 rfl) (by have := hc.1; omega) (fun r => hc.2.1 _ r) (by omega) (by decide) ?_
                refine g_iinc F 6 (nI (i + 1)) [(7, .int (nI (i + 1))), (8, .int (nI ((5 + (4 * i)) + k))), (0, .ref (B + 0)), (1, .ref (B + c)), (2, .int (nI k)), (3, .int x), (4, .int ((eF (M 3) (M 2 0) (M c) k x P).1))] (dk dtX7_event_1 57 rfl) rfl (nI_1 _) (by decide) rfl ?_
                refine g_goto F 143 (dk dtX7_event_1 58 rfl) (by decide) ?_
                refine g_sub [2, 3, 4, 5, 6, 0] (L1 := [(0, .ref (B + 0)), (1, .ref (B + c)), (2, .int (nI k)), (3, .int x), (4, .int ((eF (M 3) (M 2 0) (M c) k x P).1)), (7, .int (nI (i + 1)))]) rfl ?_
                refine g_st (M1 := setR M c (e2 (e1 (M c) (eF (M 3) (M 2 0) (M c) k x P).2.1) k x (i + 1))) (L1 := [(0, .ref (B + 0)), (1, .ref (B + c)), (2, .int (nI k)), (3, .int x), (4, .int ((eF (M 3) (M 2 0) (M c) k x P).1)), (7, .int (nI (i + 1)))]) (by rw [up2_setR]; exact congrArg (setR M c) (e2_n _ _ _ _ (fun h => c176 h.1))) rfl rfl ?_
                exact ih143 (i + 1) (by omega) (by omega)
              · -- not taken at 176
                refine g_aload_n F 2 (dk dtX7_event_1 47 rfl) rfl ?_
                refine g_iload F 0 (dk dtX7_event_1 48 rfl) rfl ?_
                refine g_iald F ((5 + (4 * i)) + k) (dk dtX7_event_1 49 rfl) (by have := hc.1; omega) (hc.2.1 _ _) (by omega) (by decide) ?_
                refine g_top (congrFun (setR_self _ _ _) _) ?_
                refine g_sipush F (nI 999) (dk dtX7_event_1 50 rfl) (by decide) ?_
                refine g_icmp_ge F 193 (dk dtX7_event_1 51 rfl) (by decide) (fun c186 => ?_) (fun c186 => ?_)
                · -- taken at 186
                  refine g_iconst F (nI 0) (dk dtX7_event_1 54 rfl) (by decide) ?_
                  refine g_iadd F (dk dtX7_event_1 55 rfl) ?_
                  refine g_iast F ((5 + (4 * i)) + k) (dk dtX7_event_1 56 rfl) (by have := hc.1; omega) (fun r => hc.2.1 _ r) (by omega) (by decide) ?_
                  refine g_iinc F 6 (nI (i + 1)) [(7, .int (nI (i + 1))), (8, .int (nI ((5 + (4 * i)) + k))), (0, .ref (B + 0)), (1, .ref (B + c)), (2, .int (nI k)), (3, .int x), (4, .int ((eF (M 3) (M 2 0) (M c) k x P).1))] (dk dtX7_event_1 57 rfl) rfl (nI_1 _) (by decide) rfl ?_
                  refine g_goto F 143 (dk dtX7_event_1 58 rfl) (by decide) ?_
                  refine g_sub [2, 3, 4, 5, 6, 0] (L1 := [(0, .ref (B + 0)), (1, .ref (B + c)), (2, .int (nI k)), (3, .int x), (4, .int ((eF (M 3) (M 2 0) (M c) k x P).1)), (7, .int (nI (i + 1)))]) rfl ?_
                  refine g_st (M1 := setR M c (e2 (e1 (M c) (eF (M 3) (M 2 0) (M c) k x P).2.1) k x (i + 1))) (L1 := [(0, .ref (B + 0)), (1, .ref (B + c)), (2, .int (nI k)), (3, .int x), (4, .int ((eF (M 3) (M 2 0) (M c) k x P).1)), (7, .int (nI (i + 1)))]) (by rw [up2_setR]; exact congrArg (setR M c) (e2_n _ _ _ _ (fun h => Int32.not_lt.mpr c186 h.2))) rfl rfl ?_
                  exact ih143 (i + 1) (by omega) (by omega)
                · -- not taken at 186
                  refine g_iconst F (nI 1) (dk dtX7_event_1 52 rfl) (by decide) ?_
                  refine g_goto F 194 (dk dtX7_event_1 53 rfl) (by decide) ?_
                  refine g_iadd F (dk dtX7_event_1 55 rfl) ?_
                  refine g_iast F ((5 + (4 * i)) + k) (dk dtX7_event_1 56 rfl) (by have := hc.1; omega) (fun r => hc.2.1 _ r) (by omega) (by decide) ?_
                  refine g_iinc F 6 (nI (i + 1)) [(7, .int (nI (i + 1))), (8, .int (nI ((5 + (4 * i)) + k))), (0, .ref (B + 0)), (1, .ref (B + c)), (2, .int (nI k)), (3, .int x), (4, .int ((eF (M 3) (M 2 0) (M c) k x P).1))] (dk dtX7_event_1 57 rfl) rfl (nI_1 _) (by decide) rfl ?_
                  refine g_goto F 143 (dk dtX7_event_1 58 rfl) (by decide) ?_
                  refine g_sub [2, 3, 4, 5, 6, 0] (L1 := [(0, .ref (B + 0)), (1, .ref (B + c)), (2, .int (nI k)), (3, .int x), (4, .int ((eF (M 3) (M 2 0) (M c) k x P).1)), (7, .int (nI (i + 1)))]) rfl ?_
                  refine g_st (M1 := setR M c (e2 (e1 (M c) (eF (M 3) (M 2 0) (M c) k x P).2.1) k x (i + 1))) (L1 := [(0, .ref (B + 0)), (1, .ref (B + c)), (2, .int (nI k)), (3, .int x), (4, .int ((eF (M 3) (M 2 0) (M c) k x P).1)), (7, .int (nI (i + 1)))]) (by rw [up2_setR]; exact congrArg (setR M c) (e2_y _ _ _ _ ⟨c176, Int32.not_le.mp c186⟩)) rfl rfl ?_
                  exact ih143 (i + 1) (by omega) (by omega)
        refine g_iload F 5 (dk dtX7_event_0 55 rfl) rfl ?_
        refine g_bipush F (-9) (dk dtX7_event_0 56 rfl) (by decide) ?_
        refine g_icmp_eq F 140 (dk dtX7_event_0 57 rfl) (by decide) (fun c107 => ?_) (fun c107 => ?_)
        · -- taken at 107
          refine g_iconst F (nI 0) (dk dtX7_event_1 20 rfl) (by decide) ?_
          refine g_istore F [(7, .int (nI 0)), (0, .ref (B + 0)), (1, .ref (B + c)), (2, .int (nI k)), (3, .int x), (4, .int ((eF (M 3) (M 2 0) (M c) k x P).1)), (5, .int ((eF (M 3) (M 2 0) (M c) k x P).2.1)), (6, .int ((eF (M 3) (M 2 0) (M c) k x P).2.2))] (dk dtX7_event_1 21 rfl) (by decide) rfl ?_
          refine g_sub [1, 2, 3, 4, 5, 0] (L1 := [(0, .ref (B + 0)), (1, .ref (B + c)), (2, .int (nI k)), (3, .int x), (4, .int ((eF (M 3) (M 2 0) (M c) k x P).1)), (7, .int (nI 0))]) rfl ?_
          refine g_mem (e1_no1 M c c107) ?_
          exact lp143 (P + 1) 0 (by omega) (by omega)
        · -- not taken at 107
          obtain ⟨q, hq, hq2⟩ := eF_first c107
          refine g_st (M1 := M) (L1 := [(0, .ref (B + 0)), (1, .ref (B + c)), (2, .int (nI k)), (3, .int x), (4, .int ((eF (M 3) (M 2 0) (M c) k x P).1)), (5, .int (nI q)), (6, .int ((eF (M 3) (M 2 0) (M c) k x P).2.2)), (7, .int (nI P))]) rfl (by rw [hq2]) rfl ?_
          refine g_aload_n F 1 (dk dtX7_event_0 58 rfl) rfl ?_
          refine g_bipush F (nI 30) (dk dtX7_event_0 59 rfl) (by decide) ?_
          refine g_iald F (30) (dk dtX7_event_1 0 rfl) (by have := hc.1; omega) (hc.2.1 _ _) (by omega) (by decide) ?_
          refine g_iload F 5 (dk dtX7_event_1 1 rfl) rfl ?_
          refine g_iconst F (nI 1) (dk dtX7_event_1 2 rfl) (by decide) ?_
          refine g_iaddN F (dk dtX7_event_1 3 rfl) ?_
          refine g_icmp_eq F 140 (dk dtX7_event_1 4 rfl) (by decide) (fun c118 => ?_) (fun c118 => ?_)
          · -- taken at 118
            refine g_iconst F (nI 0) (dk dtX7_event_1 20 rfl) (by decide) ?_
            refine g_istore F [(7, .int (nI 0)), (0, .ref (B + 0)), (1, .ref (B + c)), (2, .int (nI k)), (3, .int x), (4, .int ((eF (M 3) (M 2 0) (M c) k x P).1)), (5, .int (nI q)), (6, .int ((eF (M 3) (M 2 0) (M c) k x P).2.2))] (dk dtX7_event_1 21 rfl) (by decide) rfl ?_
            refine g_sub [1, 2, 3, 4, 5, 0] (L1 := [(0, .ref (B + 0)), (1, .ref (B + c)), (2, .int (nI k)), (3, .int x), (4, .int ((eF (M 3) (M 2 0) (M c) k x P).1)), (7, .int (nI 0))]) rfl ?_
            refine g_mem (e1_no2 M c hq2 c118) ?_
            exact lp143 (P + 1) 0 (by omega) (by omega)
          · -- not taken at 118
            refine g_aload_n F 1 (dk dtX7_event_1 5 rfl) rfl ?_
            refine g_bipush F (nI 30) (dk dtX7_event_1 6 rfl) (by decide) ?_
            refine g_iload F 5 (dk dtX7_event_1 7 rfl) rfl ?_
            refine g_iconst F (nI 1) (dk dtX7_event_1 8 rfl) (by decide) ?_
            refine g_iaddN F (dk dtX7_event_1 9 rfl) ?_
            refine g_iast F (30) (dk dtX7_event_1 10 rfl) (by have := hc.1; omega) (fun r => hc.2.1 _ r) (by omega) (by decide) ?_
            refine g_aload_n F 1 (dk dtX7_event_1 11 rfl) rfl ?_
            refine g_bipush F (nI 25) (dk dtX7_event_1 12 rfl) (by decide) ?_
            refine g_iload F 5 (dk dtX7_event_1 13 rfl) rfl ?_
            refine g_iaddN F (dk dtX7_event_1 14 rfl) ?_
            refine g_dup2 F (dk dtX7_event_1 15 rfl) rfl rfl ?_
            refine g_iald F (25 + q) (dk dtX7_event_1 16 rfl) (by have := hc.1; omega) (hc.2.1 _ _) (by omega) (by decide) ?_
            refine g_top ((congrFun (up2_self _ _ _ _) _).trans (pk_un (by omega))) ?_
            refine g_iconst F (nI 1) (dk dtX7_event_1 17 rfl) (by decide) ?_
            refine g_iadd F (dk dtX7_event_1 18 rfl) ?_
            refine g_iast F (25 + q) (dk dtX7_event_1 19 rfl) (by have := hc.1; omega) (fun r => hc.2.1 _ r) (by omega) (by decide) ?_
            refine g_iconst F (nI 0) (dk dtX7_event_1 20 rfl) (by decide) ?_
            refine g_istore F [(7, .int (nI 0)), (0, .ref (B + 0)), (1, .ref (B + c)), (2, .int (nI k)), (3, .int x), (4, .int ((eF (M 3) (M 2 0) (M c) k x P).1)), (5, .int (nI q)), (6, .int ((eF (M 3) (M 2 0) (M c) k x P).2.2))] (dk dtX7_event_1 21 rfl) (by decide) rfl ?_
            refine g_sub [1, 2, 3, 4, 5, 0] (L1 := [(0, .ref (B + 0)), (1, .ref (B + c)), (2, .int (nI k)), (3, .int x), (4, .int ((eF (M 3) (M 2 0) (M c) k x P).1)), (7, .int (nI 0))]) rfl ?_
            refine g_mem (e1_yes M c hq2 (by omega) c118) ?_
            exact lp143 (P + 1) 0 (by omega) (by omega)
      · -- not taken at 21
        refine g_aload_n F 0 (dk dtX7_event_0 14 rfl) rfl ?_
        refine g_aload_n F 1 (dk dtX7_event_0 15 rfl) rfl ?_
        refine g_iload F 7 (dk dtX7_event_0 16 rfl) rfl ?_
        refine g_iload_n F 2 (dk dtX7_event_0 17 rfl) rfl ?_
        refine g_callVi F (As := [.ref (B + c), .int (nI i), .int (nI k)]) (st := []) cv_X7_135 (dk dtX7_event_0 18 rfl) (by decide) (cm0 D B _ _) rfl rfl (Nat.le_of_ble_eq_true rfl) ⟨by decide, by decide⟩ (k_X7_surpriseOf l D B _ _ c hc i k (by omega) (by omega) (dvR hK hW hK1 hK4 (by omega))) (fun r29 T29 M29 hp29 => ?_)
        obtain ⟨e1, e2, e3⟩ := hp29
        replace e1 := e1.symm; replace e2 := e2.symm; replace e3 := e3.symm; subst e1; subst e2; subst e3
        refine g_istore F [(8, .int (suR (M 2 0) (M c) i k)), (0, .ref (B + 0)), (1, .ref (B + c)), (2, .int (nI k)), (3, .int x), (4, .int ((eF (M 3) (M 2 0) (M c) k x i).1)), (5, .int ((eF (M 3) (M 2 0) (M c) k x i).2.1)), (6, .int ((eF (M 3) (M 2 0) (M c) k x i).2.2)), (7, .int (nI i))] (dk dtX7_event_0 19 rfl) (by decide) rfl ?_
        refine g_aload_n F 2 (dk dtX7_event_0 20 rfl) rfl ?_
        refine g_iconst F (nI 0) (dk dtX7_event_0 21 rfl) (by decide) ?_
        refine g_iload F 8 (dk dtX7_event_0 22 rfl) rfl ?_
        refine g_iadd0 F (dk dtX7_event_0 23 rfl) ?_
        refine g_iald F (i) (dk dtX7_event_0 24 rfl) (by have := hc.1; omega) (hc.2.1 _ _) (by omega) (by decide) ?_
        refine g_iload_n F 4 (dk dtX7_event_0 25 rfl) rfl ?_
        refine g_icmp_ne F 97 (dk dtX7_event_0 26 rfl) (by decide) (fun c41 => ?_) (fun c41 => ?_)
        · -- taken at 41
          refine g_iinc F 8 (nI (i + 1)) [(7, .int (nI (i + 1))), (8, .int (suR (M 2 0) (M c) i k)), (0, .ref (B + 0)), (1, .ref (B + c)), (2, .int (nI k)), (3, .int x), (4, .int ((eF (M 3) (M 2 0) (M c) k x i).1)), (5, .int ((eF (M 3) (M 2 0) (M c) k x i).2.1)), (6, .int ((eF (M 3) (M 2 0) (M c) k x i).2.2))] (dk dtX7_event_0 53 rfl) rfl (nI_1 _) (by decide) rfl ?_
          refine g_goto F 13 (dk dtX7_event_0 54 rfl) (by decide) ?_
          refine g_sub [2, 3, 4, 5, 6, 7, 8, 0] (L1 := [(0, .ref (B + 0)), (1, .ref (B + c)), (2, .int (nI k)), (3, .int x), (4, .int ((eF (M 3) (M 2 0) (M c) k x i).1)), (5, .int ((eF (M 3) (M 2 0) (M c) k x i).2.1)), (6, .int ((eF (M 3) (M 2 0) (M c) k x i).2.2)), (7, .int (nI (i + 1)))]) rfl ?_
          have eq13_4 : ((eF (M 3) (M 2 0) (M c) k x i).1 : Int32) = (eF (M 3) (M 2 0) (M c) k x (i + 1)).1 := by
            simp only [eF]; rw [if_neg (fun h => c41 h.1)]
          have eq13_5 : ((eF (M 3) (M 2 0) (M c) k x i).2.1 : Int32) = (eF (M 3) (M 2 0) (M c) k x (i + 1)).2.1 := by
            simp only [eF]; rw [if_neg (fun h => c41 h.1)]
          have eq13_6 : ((eF (M 3) (M 2 0) (M c) k x i).2.2 : Int32) = (eF (M 3) (M 2 0) (M c) k x (i + 1)).2.2 := by
            simp only [eF]; rw [if_neg (fun h => c41 h.1)]
          refine g_st (M1 := M) (L1 := [(0, .ref (B + 0)), (1, .ref (B + c)), (2, .int (nI k)), (3, .int x), (4, .int ((eF (M 3) (M 2 0) (M c) k x (i + 1)).1)), (5, .int ((eF (M 3) (M 2 0) (M c) k x (i + 1)).2.1)), (6, .int ((eF (M 3) (M 2 0) (M c) k x (i + 1)).2.2)), (7, .int (nI (i + 1)))]) rfl (lc rfl (lc rfl (lc rfl (lc rfl (lc (vi eq13_4) (lc (vi eq13_5) (lc (vi eq13_6) (lc rfl rfl)))))))) rfl ?_
          exact ih13 (i + 1) (by omega) (by omega)
        · -- not taken at 41
          refine g_iload F 0 (dk dtX7_event_0 27 rfl) rfl ?_
          refine g_aload_n F 1 (dk dtX7_event_0 28 rfl) rfl ?_
          refine g_get F fa_X7_16 (dk dtX7_event_0 29 rfl) (by decide) (cm0 D B _ _) rfl ?_
          refine g_iload F 8 (dk dtX7_event_0 30 rfl) rfl ?_
          refine g_iald F (i) (dk dtX7_event_0 31 rfl) (by decide) (cm3 D B _ _) (by omega) (by decide) ?_
          refine g_icmp_lt F 97 (dk dtX7_event_0 32 rfl) (by decide) (fun c53 => ?_) (fun c53 => ?_)
          · -- taken at 53
            refine g_iinc F 8 (nI (i + 1)) [(7, .int (nI (i + 1))), (8, .int (suR (M 2 0) (M c) i k)), (0, .ref (B + 0)), (1, .ref (B + c)), (2, .int (nI k)), (3, .int x), (4, .int ((eF (M 3) (M 2 0) (M c) k x i).1)), (5, .int ((eF (M 3) (M 2 0) (M c) k x i).2.1)), (6, .int ((eF (M 3) (M 2 0) (M c) k x i).2.2))] (dk dtX7_event_0 53 rfl) rfl (nI_1 _) (by decide) rfl ?_
            refine g_goto F 13 (dk dtX7_event_0 54 rfl) (by decide) ?_
            refine g_sub [2, 3, 4, 5, 6, 7, 8, 0] (L1 := [(0, .ref (B + 0)), (1, .ref (B + c)), (2, .int (nI k)), (3, .int x), (4, .int ((eF (M 3) (M 2 0) (M c) k x i).1)), (5, .int ((eF (M 3) (M 2 0) (M c) k x i).2.1)), (6, .int ((eF (M 3) (M 2 0) (M c) k x i).2.2)), (7, .int (nI (i + 1)))]) rfl ?_
            have eq13_4 : ((eF (M 3) (M 2 0) (M c) k x i).1 : Int32) = (eF (M 3) (M 2 0) (M c) k x (i + 1)).1 := by
              simp only [eF]; rw [if_neg (fun h => absurd h.2 (Int32.not_le.mpr c53))]
            have eq13_5 : ((eF (M 3) (M 2 0) (M c) k x i).2.1 : Int32) = (eF (M 3) (M 2 0) (M c) k x (i + 1)).2.1 := by
              simp only [eF]; rw [if_neg (fun h => absurd h.2 (Int32.not_le.mpr c53))]
            have eq13_6 : ((eF (M 3) (M 2 0) (M c) k x i).2.2 : Int32) = (eF (M 3) (M 2 0) (M c) k x (i + 1)).2.2 := by
              simp only [eF]; rw [if_neg (fun h => absurd h.2 (Int32.not_le.mpr c53))]
            refine g_st (M1 := M) (L1 := [(0, .ref (B + 0)), (1, .ref (B + c)), (2, .int (nI k)), (3, .int x), (4, .int ((eF (M 3) (M 2 0) (M c) k x (i + 1)).1)), (5, .int ((eF (M 3) (M 2 0) (M c) k x (i + 1)).2.1)), (6, .int ((eF (M 3) (M 2 0) (M c) k x (i + 1)).2.2)), (7, .int (nI (i + 1)))]) rfl (lc rfl (lc rfl (lc rfl (lc rfl (lc (vi eq13_4) (lc (vi eq13_5) (lc (vi eq13_6) (lc rfl rfl)))))))) rfl ?_
            exact ih13 (i + 1) (by omega) (by omega)
          · -- not taken at 53
            refine g_iload F 5 (dk dtX7_event_0 33 rfl) rfl ?_
            refine g_iconst F (nI 1) (dk dtX7_event_0 34 rfl) (by decide) ?_
            refine g_iload F 8 (dk dtX7_event_0 35 rfl) rfl ?_
            refine g_ishl F (dk dtX7_event_0 36 rfl) ?_
            refine g_ior F (dk dtX7_event_0 37 rfl) ?_
            refine g_istore F [(4, .int (((eF (M 3) (M 2 0) (M c) k x i).1) ||| ((nI 1) <<< ((nI i) &&& 31)))), (8, .int (suR (M 2 0) (M c) i k)), (0, .ref (B + 0)), (1, .ref (B + c)), (2, .int (nI k)), (3, .int x), (5, .int ((eF (M 3) (M 2 0) (M c) k x i).2.1)), (6, .int ((eF (M 3) (M 2 0) (M c) k x i).2.2)), (7, .int (nI i))] (dk dtX7_event_0 38 rfl) (by decide) rfl ?_
            refine g_iload F 1 (dk dtX7_event_0 39 rfl) rfl ?_
            refine g_iload F 7 (dk dtX7_event_0 40 rfl) rfl ?_
            refine g_icmp_le F 77 (dk dtX7_event_0 41 rfl) (by decide) (fun c69 => ?_) (fun c69 => ?_)
            · -- taken at 69
              refine g_iload F 6 (dk dtX7_event_0 44 rfl) rfl ?_
              refine g_istore F [(5, .int ((eF (M 3) (M 2 0) (M c) k x i).2.1)), (4, .int (((eF (M 3) (M 2 0) (M c) k x i).1) ||| ((nI 1) <<< ((nI i) &&& 31)))), (8, .int (suR (M 2 0) (M c) i k)), (0, .ref (B + 0)), (1, .ref (B + c)), (2, .int (nI k)), (3, .int x), (6, .int ((eF (M 3) (M 2 0) (M c) k x i).2.2)), (7, .int (nI i))] (dk dtX7_event_0 45 rfl) (by decide) rfl ?_
              refine g_iload F 2 (dk dtX7_event_0 46 rfl) rfl ?_
              refine g_iload F 7 (dk dtX7_event_0 47 rfl) rfl ?_
              refine g_icmp_le F 93 (dk dtX7_event_0 48 rfl) (by decide) (fun c85 => ?_) (fun c85 => ?_)
              · -- taken at 85
                refine g_iload F 7 (dk dtX7_event_0 51 rfl) rfl ?_
                refine g_istore F [(6, .int ((eF (M 3) (M 2 0) (M c) k x i).2.2)), (5, .int ((eF (M 3) (M 2 0) (M c) k x i).2.1)), (4, .int (((eF (M 3) (M 2 0) (M c) k x i).1) ||| ((nI 1) <<< ((nI i) &&& 31)))), (8, .int (suR (M 2 0) (M c) i k)), (0, .ref (B + 0)), (1, .ref (B + c)), (2, .int (nI k)), (3, .int x), (7, .int (nI i))] (dk dtX7_event_0 52 rfl) (by decide) rfl ?_
                refine g_iinc F 8 (nI (i + 1)) [(7, .int (nI (i + 1))), (6, .int ((eF (M 3) (M 2 0) (M c) k x i).2.2)), (5, .int ((eF (M 3) (M 2 0) (M c) k x i).2.1)), (4, .int (((eF (M 3) (M 2 0) (M c) k x i).1) ||| ((nI 1) <<< ((nI i) &&& 31)))), (8, .int (suR (M 2 0) (M c) i k)), (0, .ref (B + 0)), (1, .ref (B + c)), (2, .int (nI k)), (3, .int x)] (dk dtX7_event_0 53 rfl) rfl (nI_1 _) (by decide) rfl ?_
                refine g_goto F 13 (dk dtX7_event_0 54 rfl) (by decide) ?_
                refine g_sub [5, 6, 7, 8, 3, 2, 1, 0] (L1 := [(0, .ref (B + 0)), (1, .ref (B + c)), (2, .int (nI k)), (3, .int x), (4, .int (((eF (M 3) (M 2 0) (M c) k x i).1) ||| ((nI 1) <<< ((nI i) &&& 31)))), (5, .int ((eF (M 3) (M 2 0) (M c) k x i).2.1)), (6, .int ((eF (M 3) (M 2 0) (M c) k x i).2.2)), (7, .int (nI (i + 1)))]) rfl ?_
                have eq13_4 : (((eF (M 3) (M 2 0) (M c) k x i).1) ||| ((nI 1) <<< ((nI i) &&& 31)) : Int32) = (eF (M 3) (M 2 0) (M c) k x (i + 1)).1 := by
                  simp only [eF]; rw [if_pos ⟨c41, Int32.not_lt.mp c53⟩]
                have eq13_5 : ((eF (M 3) (M 2 0) (M c) k x i).2.1 : Int32) = (eF (M 3) (M 2 0) (M c) k x (i + 1)).2.1 := by
                  simp only [eF]; rw [if_pos ⟨c41, Int32.not_lt.mp c53⟩]; dsimp only; rw [if_neg (Int32.not_lt.mpr c69)]
                have eq13_6 : ((eF (M 3) (M 2 0) (M c) k x i).2.2 : Int32) = (eF (M 3) (M 2 0) (M c) k x (i + 1)).2.2 := by
                  simp only [eF]; rw [if_pos ⟨c41, Int32.not_lt.mp c53⟩]; dsimp only; rw [if_neg (Int32.not_lt.mpr c85)]
                refine g_st (M1 := M) (L1 := [(0, .ref (B + 0)), (1, .ref (B + c)), (2, .int (nI k)), (3, .int x), (4, .int ((eF (M 3) (M 2 0) (M c) k x (i + 1)).1)), (5, .int ((eF (M 3) (M 2 0) (M c) k x (i + 1)).2.1)), (6, .int ((eF (M 3) (M 2 0) (M c) k x (i + 1)).2.2)), (7, .int (nI (i + 1)))]) rfl (lc rfl (lc rfl (lc rfl (lc rfl (lc (vi eq13_4) (lc (vi eq13_5) (lc (vi eq13_6) (lc rfl rfl)))))))) rfl ?_
                exact ih13 (i + 1) (by omega) (by omega)
              · -- not taken at 85
                refine g_iload F 2 (dk dtX7_event_0 49 rfl) rfl ?_
                refine g_goto F 95 (dk dtX7_event_0 50 rfl) (by decide) ?_
                refine g_istore F [(6, .int (suR (M 2 0) (M c) i k)), (5, .int ((eF (M 3) (M 2 0) (M c) k x i).2.1)), (4, .int (((eF (M 3) (M 2 0) (M c) k x i).1) ||| ((nI 1) <<< ((nI i) &&& 31)))), (8, .int (suR (M 2 0) (M c) i k)), (0, .ref (B + 0)), (1, .ref (B + c)), (2, .int (nI k)), (3, .int x), (7, .int (nI i))] (dk dtX7_event_0 52 rfl) (by decide) rfl ?_
                refine g_iinc F 8 (nI (i + 1)) [(7, .int (nI (i + 1))), (6, .int (suR (M 2 0) (M c) i k)), (5, .int ((eF (M 3) (M 2 0) (M c) k x i).2.1)), (4, .int (((eF (M 3) (M 2 0) (M c) k x i).1) ||| ((nI 1) <<< ((nI i) &&& 31)))), (8, .int (suR (M 2 0) (M c) i k)), (0, .ref (B + 0)), (1, .ref (B + c)), (2, .int (nI k)), (3, .int x)] (dk dtX7_event_0 53 rfl) rfl (nI_1 _) (by decide) rfl ?_
                refine g_goto F 13 (dk dtX7_event_0 54 rfl) (by decide) ?_
                refine g_sub [5, 6, 7, 8, 3, 2, 1, 0] (L1 := [(0, .ref (B + 0)), (1, .ref (B + c)), (2, .int (nI k)), (3, .int x), (4, .int (((eF (M 3) (M 2 0) (M c) k x i).1) ||| ((nI 1) <<< ((nI i) &&& 31)))), (5, .int ((eF (M 3) (M 2 0) (M c) k x i).2.1)), (6, .int (suR (M 2 0) (M c) i k)), (7, .int (nI (i + 1)))]) rfl ?_
                have eq13_4 : (((eF (M 3) (M 2 0) (M c) k x i).1) ||| ((nI 1) <<< ((nI i) &&& 31)) : Int32) = (eF (M 3) (M 2 0) (M c) k x (i + 1)).1 := by
                  simp only [eF]; rw [if_pos ⟨c41, Int32.not_lt.mp c53⟩]
                have eq13_5 : ((eF (M 3) (M 2 0) (M c) k x i).2.1 : Int32) = (eF (M 3) (M 2 0) (M c) k x (i + 1)).2.1 := by
                  simp only [eF]; rw [if_pos ⟨c41, Int32.not_lt.mp c53⟩]; dsimp only; rw [if_neg (Int32.not_lt.mpr c69)]
                have eq13_6 : (suR (M 2 0) (M c) i k : Int32) = (eF (M 3) (M 2 0) (M c) k x (i + 1)).2.2 := by
                  simp only [eF]; rw [if_pos ⟨c41, Int32.not_lt.mp c53⟩]; dsimp only; rw [if_pos (Int32.not_le.mp c85)]
                refine g_st (M1 := M) (L1 := [(0, .ref (B + 0)), (1, .ref (B + c)), (2, .int (nI k)), (3, .int x), (4, .int ((eF (M 3) (M 2 0) (M c) k x (i + 1)).1)), (5, .int ((eF (M 3) (M 2 0) (M c) k x (i + 1)).2.1)), (6, .int ((eF (M 3) (M 2 0) (M c) k x (i + 1)).2.2)), (7, .int (nI (i + 1)))]) rfl (lc rfl (lc rfl (lc rfl (lc rfl (lc (vi eq13_4) (lc (vi eq13_5) (lc (vi eq13_6) (lc rfl rfl)))))))) rfl ?_
                exact ih13 (i + 1) (by omega) (by omega)
            · -- not taken at 69
              refine g_iload F 8 (dk dtX7_event_0 42 rfl) rfl ?_
              refine g_goto F 79 (dk dtX7_event_0 43 rfl) (by decide) ?_
              refine g_istore F [(5, .int (nI i)), (4, .int (((eF (M 3) (M 2 0) (M c) k x i).1) ||| ((nI 1) <<< ((nI i) &&& 31)))), (8, .int (suR (M 2 0) (M c) i k)), (0, .ref (B + 0)), (1, .ref (B + c)), (2, .int (nI k)), (3, .int x), (6, .int ((eF (M 3) (M 2 0) (M c) k x i).2.2)), (7, .int (nI i))] (dk dtX7_event_0 45 rfl) (by decide) rfl ?_
              refine g_iload F 2 (dk dtX7_event_0 46 rfl) rfl ?_
              refine g_iload F 7 (dk dtX7_event_0 47 rfl) rfl ?_
              refine g_icmp_le F 93 (dk dtX7_event_0 48 rfl) (by decide) (fun c85 => ?_) (fun c85 => ?_)
              · -- taken at 85
                refine g_iload F 7 (dk dtX7_event_0 51 rfl) rfl ?_
                refine g_istore F [(6, .int ((eF (M 3) (M 2 0) (M c) k x i).2.2)), (5, .int (nI i)), (4, .int (((eF (M 3) (M 2 0) (M c) k x i).1) ||| ((nI 1) <<< ((nI i) &&& 31)))), (8, .int (suR (M 2 0) (M c) i k)), (0, .ref (B + 0)), (1, .ref (B + c)), (2, .int (nI k)), (3, .int x), (7, .int (nI i))] (dk dtX7_event_0 52 rfl) (by decide) rfl ?_
                refine g_iinc F 8 (nI (i + 1)) [(7, .int (nI (i + 1))), (6, .int ((eF (M 3) (M 2 0) (M c) k x i).2.2)), (5, .int (nI i)), (4, .int (((eF (M 3) (M 2 0) (M c) k x i).1) ||| ((nI 1) <<< ((nI i) &&& 31)))), (8, .int (suR (M 2 0) (M c) i k)), (0, .ref (B + 0)), (1, .ref (B + c)), (2, .int (nI k)), (3, .int x)] (dk dtX7_event_0 53 rfl) rfl (nI_1 _) (by decide) rfl ?_
                refine g_goto F 13 (dk dtX7_event_0 54 rfl) (by decide) ?_
                refine g_sub [5, 6, 7, 8, 3, 2, 1, 0] (L1 := [(0, .ref (B + 0)), (1, .ref (B + c)), (2, .int (nI k)), (3, .int x), (4, .int (((eF (M 3) (M 2 0) (M c) k x i).1) ||| ((nI 1) <<< ((nI i) &&& 31)))), (5, .int (nI i)), (6, .int ((eF (M 3) (M 2 0) (M c) k x i).2.2)), (7, .int (nI (i + 1)))]) rfl ?_
                have eq13_4 : (((eF (M 3) (M 2 0) (M c) k x i).1) ||| ((nI 1) <<< ((nI i) &&& 31)) : Int32) = (eF (M 3) (M 2 0) (M c) k x (i + 1)).1 := by
                  simp only [eF]; rw [if_pos ⟨c41, Int32.not_lt.mp c53⟩]
                have eq13_5 : (nI i : Int32) = (eF (M 3) (M 2 0) (M c) k x (i + 1)).2.1 := by
                  simp only [eF]; rw [if_pos ⟨c41, Int32.not_lt.mp c53⟩]; dsimp only; rw [if_pos (Int32.not_le.mp c69)]
                have eq13_6 : ((eF (M 3) (M 2 0) (M c) k x i).2.2 : Int32) = (eF (M 3) (M 2 0) (M c) k x (i + 1)).2.2 := by
                  simp only [eF]; rw [if_pos ⟨c41, Int32.not_lt.mp c53⟩]; dsimp only; rw [if_neg (Int32.not_lt.mpr c85)]
                refine g_st (M1 := M) (L1 := [(0, .ref (B + 0)), (1, .ref (B + c)), (2, .int (nI k)), (3, .int x), (4, .int ((eF (M 3) (M 2 0) (M c) k x (i + 1)).1)), (5, .int ((eF (M 3) (M 2 0) (M c) k x (i + 1)).2.1)), (6, .int ((eF (M 3) (M 2 0) (M c) k x (i + 1)).2.2)), (7, .int (nI (i + 1)))]) rfl (lc rfl (lc rfl (lc rfl (lc rfl (lc (vi eq13_4) (lc (vi eq13_5) (lc (vi eq13_6) (lc rfl rfl)))))))) rfl ?_
                exact ih13 (i + 1) (by omega) (by omega)
              · -- not taken at 85
                refine g_iload F 2 (dk dtX7_event_0 49 rfl) rfl ?_
                refine g_goto F 95 (dk dtX7_event_0 50 rfl) (by decide) ?_
                refine g_istore F [(6, .int (suR (M 2 0) (M c) i k)), (5, .int (nI i)), (4, .int (((eF (M 3) (M 2 0) (M c) k x i).1) ||| ((nI 1) <<< ((nI i) &&& 31)))), (8, .int (suR (M 2 0) (M c) i k)), (0, .ref (B + 0)), (1, .ref (B + c)), (2, .int (nI k)), (3, .int x), (7, .int (nI i))] (dk dtX7_event_0 52 rfl) (by decide) rfl ?_
                refine g_iinc F 8 (nI (i + 1)) [(7, .int (nI (i + 1))), (6, .int (suR (M 2 0) (M c) i k)), (5, .int (nI i)), (4, .int (((eF (M 3) (M 2 0) (M c) k x i).1) ||| ((nI 1) <<< ((nI i) &&& 31)))), (8, .int (suR (M 2 0) (M c) i k)), (0, .ref (B + 0)), (1, .ref (B + c)), (2, .int (nI k)), (3, .int x)] (dk dtX7_event_0 53 rfl) rfl (nI_1 _) (by decide) rfl ?_
                refine g_goto F 13 (dk dtX7_event_0 54 rfl) (by decide) ?_
                refine g_sub [5, 6, 7, 8, 3, 2, 1, 0] (L1 := [(0, .ref (B + 0)), (1, .ref (B + c)), (2, .int (nI k)), (3, .int x), (4, .int (((eF (M 3) (M 2 0) (M c) k x i).1) ||| ((nI 1) <<< ((nI i) &&& 31)))), (5, .int (nI i)), (6, .int (suR (M 2 0) (M c) i k)), (7, .int (nI (i + 1)))]) rfl ?_
                have eq13_4 : (((eF (M 3) (M 2 0) (M c) k x i).1) ||| ((nI 1) <<< ((nI i) &&& 31)) : Int32) = (eF (M 3) (M 2 0) (M c) k x (i + 1)).1 := by
                  simp only [eF]; rw [if_pos ⟨c41, Int32.not_lt.mp c53⟩]
                have eq13_5 : (nI i : Int32) = (eF (M 3) (M 2 0) (M c) k x (i + 1)).2.1 := by
                  simp only [eF]; rw [if_pos ⟨c41, Int32.not_lt.mp c53⟩]; dsimp only; rw [if_pos (Int32.not_le.mp c69)]
                have eq13_6 : (suR (M 2 0) (M c) i k : Int32) = (eF (M 3) (M 2 0) (M c) k x (i + 1)).2.2 := by
                  simp only [eF]; rw [if_pos ⟨c41, Int32.not_lt.mp c53⟩]; dsimp only; rw [if_pos (Int32.not_le.mp c85)]
                refine g_st (M1 := M) (L1 := [(0, .ref (B + 0)), (1, .ref (B + c)), (2, .int (nI k)), (3, .int x), (4, .int ((eF (M 3) (M 2 0) (M c) k x (i + 1)).1)), (5, .int ((eF (M 3) (M 2 0) (M c) k x (i + 1)).2.1)), (6, .int ((eF (M 3) (M 2 0) (M c) k x (i + 1)).2.2)), (7, .int (nI (i + 1)))]) rfl (lc rfl (lc rfl (lc rfl (lc rfl (lc (vi eq13_4) (lc (vi eq13_5) (lc (vi eq13_6) (lc rfl rfl)))))))) rfl ?_
                exact ih13 (i + 1) (by omega) (by omega)
  refine g_sub [4, 5, 6, 7, 3, 2, 1, 0] (L1 := [(0, .ref (B + 0)), (1, .ref (B + c)), (2, .int (nI k)), (3, .int x), (4, .int (nI 0)), (5, .int (-9)), (6, .int (-1)), (7, .int (nI 0))]) rfl ?_
  exact lp13 (P + 1) 0 (by omega) (by omega)
end
section
abbrev inR (v : Int32) (n : Nat) : Prop := ¬ v < 0 ∧ ¬ nI n ≤ v
theorem inR_nI {j n : Nat} (h : j < n) (hn : n < 2 ^ 31 := by omega) : inR (nI j) n := ⟨nI_pos (by omega), nI_ge h hn⟩
theorem inR_of {v : Int32} {n : Nat} (h : inR v n) (hn : n < 2 ^ 31) : ∃ j : Nat, j < n ∧ v = nI j := nI_of4 hn h.1 h.2
theorem inR_up {v : Int32} {b : Nat} (hb : b < 1000) (h : nI b < v) : nI (b + 1) ≤ v := by
  rw [Int32.lt_iff_toInt_lt, nI_toInt (by omega)] at h
  rw [Int32.le_iff_toInt_le, nI_toInt (by omega)]
  omega
theorem inR_dn {v : Int32} {b : Nat} (hb : b < 1000) (h : ¬ nI b < v) : ¬ nI (b + 1) ≤ v := by
  rw [Int32.lt_iff_toInt_lt, nI_toInt (by omega)] at h
  rw [Int32.le_iff_toInt_le, nI_toInt (by omega)]
  omega
theorem bI_congr {P Q : Prop} [Decidable P] [Decidable Q] (h : P ↔ Q) : bI P = bI Q := by
  by_cases hP : P
  · rw [bI_t hP, bI_t (h.mp hP)]
  · rw [bI_f hP, bI_f (fun q => hP (h.mpr q))]
theorem inR_sub {n : Nat} (hn : n ≤ 9) (v : Int32) : bI (¬ v < nI 0 ∧ ¬ nI n - nI 1 < v) = bI (inR v n) := by
  apply bI_congr
  refine and_congr Iff.rfl ?_
  rw [Int32.lt_iff_toInt_lt, pk_sub_toInt (by omega) (by omega), Int32.le_iff_toInt_le, nI_toInt (by omega)]
  omega
theorem up2_same {M : Mem} {k j : Nat} {v : Int32} (h : M k j = v) : up2 M k j v = M := by
  subst h
  unfold up2
  rw [show upd (M k) j (M k j) = M k from by funext i; by_cases hi : i = j <;> simp [upd, hi], setR_same]
set_option maxRecDepth 100000 in
set_option maxHeartbeats 4000000 in
theorem k_X7_inR (l : Launch) (D : DX) (B : Nat) (T : Int64) (M : Mem) (v : Int32) (b : Nat) (hb : b < 1000) : Ci l D B 14 (celM D B) yX7_in cX7_in 3 (some .boolean) 0 [.int v, .int (nI 0), .int (nI b)] T M (fun rz T1 M1 => rz = (bI (inR v (b + 1))) ∧ T1 = T ∧ M1 = M) := by
  refine g_entryi (L := [(0, .int v), (1, .int (nI 0)), (2, .int (nI b))]) (by decide) (Nat.le_of_ble_eq_true rfl) rfl ?_
  intro zp ze zs zm zb zt zc Q F hQ
  refine g_iload_n F 0 (dk dtX7_in_0 0 rfl) rfl ?_
  refine g_iload_n F 1 (dk dtX7_in_0 1 rfl) rfl ?_
  refine g_icmp_lt F 14 (dk dtX7_in_0 2 rfl) (by decide) (fun c2 => ?_) (fun c2 => ?_)
  · -- taken at 2
    refine g_iconst F (nI 0) (dk dtX7_in_0 8 rfl) (by decide) ?_
    refine g_zret (F := F) hQ (dk dtX7_in_0 9 rfl) (rfl) ?_
    exact ⟨(if_neg (fun h => h.1 c2)).symm, rfl, rfl⟩
  · -- not taken at 2
    refine g_iload_n F 0 (dk dtX7_in_0 3 rfl) rfl ?_
    refine g_iload_n F 2 (dk dtX7_in_0 4 rfl) rfl ?_
    refine g_icmp_gt F 14 (dk dtX7_in_0 5 rfl) (by decide) (fun c7 => ?_) (fun c7 => ?_)
    · -- taken at 7
      refine g_iconst F (nI 0) (dk dtX7_in_0 8 rfl) (by decide) ?_
      refine g_zret (F := F) hQ (dk dtX7_in_0 9 rfl) (rfl) ?_
      exact ⟨(if_neg (fun h => h.2 (inR_up hb c7))).symm, rfl, rfl⟩
    · -- not taken at 7
      refine g_iconst F (nI 1) (dk dtX7_in_0 6 rfl) (by decide) ?_
      refine g_goto F 15 (dk dtX7_in_0 7 rfl) (by decide) ?_
      refine g_zret (F := F) hQ (dk dtX7_in_0 9 rfl) (rfl) ?_
      exact ⟨(if_pos ⟨c2, inR_dn hb c7⟩).symm, rfl, rfl⟩
set_option maxRecDepth 100000 in
set_option maxHeartbeats 4000000 in
theorem k_X7_isOne (l : Launch) (D : DX) (B : Nat) (T : Int64) (M : Mem) (v : Int32) (n : Nat) (hn : M 2 2 = nI n) (hn9 : n ≤ 9) : Ci l D B 14 (celM D B) yX7_isOne cX7_isOne 2 (some .boolean) 1 [.ref (B + 0), .int v] T M (fun rz T1 M1 => rz = (bI (inR v n)) ∧ T1 = T ∧ M1 = M) := by
  refine g_entryi (L := [(0, .ref (B + 0)), (1, .int v)]) (by decide) (Nat.le_of_ble_eq_true rfl) rfl ?_
  intro zp ze zs zm zb zt zc Q F hQ
  refine g_iload_n F 1 (dk dtX7_isOne_0 0 rfl) rfl ?_
  refine g_iconst F (nI 0) (dk dtX7_isOne_0 1 rfl) (by decide) ?_
  refine g_aload_n F 0 (dk dtX7_isOne_0 2 rfl) rfl ?_
  refine g_get F fa_X7_13 (dk dtX7_isOne_0 3 rfl) (by decide) (cm0 D B _ _) rfl ?_
  refine g_iconst F (nI 2) (dk dtX7_isOne_0 4 rfl) (by decide) ?_
  refine g_iald F (2) (dk dtX7_isOne_0 5 rfl) (by decide) (cm2 D B _ _) (by omega) (by decide) ?_
  refine g_top hn ?_
  refine g_iconst F (nI 1) (dk dtX7_isOne_0 6 rfl) (by decide) ?_
  refine g_isub F (dk dtX7_isOne_0 7 rfl) ?_
  refine g_callSi F (As := [.int v, .int (nI 0), .int ((nI n) - (nI 1))]) (st := []) cs_X7_60 (dk dtX7_isOne_0 8 rfl) rfl rfl (Nat.le_of_ble_eq_true rfl) ⟨by decide, by decide⟩ (k_X7_in l D B _ _ _ _ _) (fun r10 T10 M10 hp10 => ?_)
  obtain ⟨e1, e2, e3⟩ := hp10
  replace e1 := e1.symm; replace e2 := e2.symm; replace e3 := e3.symm; subst e1; subst e2; subst e3
  refine g_zret (F := F) hQ (dk dtX7_isOne_0 9 rfl) (bI_nar) ?_
  exact ⟨inR_sub hn9 _, rfl, rfl⟩
set_option maxRecDepth 100000 in
set_option maxHeartbeats 4000000 in
theorem k_X7_isKind (l : Launch) (D : DX) (B : Nat) (T : Int64) (M : Mem) (v : Int32) (n : Nat) (hn : M 2 0 = nI n) (hn9 : n ≤ 9) : Ci l D B 14 (celM D B) yX7_isKind cX7_isKind 2 (some .boolean) 1 [.ref (B + 0), .int v] T M (fun rz T1 M1 => rz = (bI (inR v n)) ∧ T1 = T ∧ M1 = M) := by
  refine g_entryi (L := [(0, .ref (B + 0)), (1, .int v)]) (by decide) (Nat.le_of_ble_eq_true rfl) rfl ?_
  intro zp ze zs zm zb zt zc Q F hQ
  refine g_iload_n F 1 (dk dtX7_isKind_0 0 rfl) rfl ?_
  refine g_iconst F (nI 0) (dk dtX7_isKind_0 1 rfl) (by decide) ?_
  refine g_aload_n F 0 (dk dtX7_isKind_0 2 rfl) rfl ?_
  refine g_get F fa_X7_13 (dk dtX7_isKind_0 3 rfl) (by decide) (cm0 D B _ _) rfl ?_
  refine g_iconst F (nI 0) (dk dtX7_isKind_0 4 rfl) (by decide) ?_
  refine g_iald F (0) (dk dtX7_isKind_0 5 rfl) (by decide) (cm2 D B _ _) (by omega) (by decide) ?_
  refine g_top hn ?_
  refine g_iconst F (nI 1) (dk dtX7_isKind_0 6 rfl) (by decide) ?_
  refine g_isub F (dk dtX7_isKind_0 7 rfl) ?_
  refine g_callSi F (As := [.int v, .int (nI 0), .int ((nI n) - (nI 1))]) (st := []) cs_X7_60 (dk dtX7_isKind_0 8 rfl) rfl rfl (Nat.le_of_ble_eq_true rfl) ⟨by decide, by decide⟩ (k_X7_in l D B _ _ _ _ _) (fun r10 T10 M10 hp10 => ?_)
  obtain ⟨e1, e2, e3⟩ := hp10
  replace e1 := e1.symm; replace e2 := e2.symm; replace e3 := e3.symm; subst e1; subst e2; subst e3
  refine g_zret (F := F) hQ (dk dtX7_isKind_0 9 rfl) (bI_nar) ?_
  exact ⟨inR_sub hn9 _, rfl, rfl⟩
set_option maxRecDepth 100000 in
set_option maxHeartbeats 4000000 in
theorem k_X7_isPlace (l : Launch) (D : DX) (B : Nat) (T : Int64) (M : Mem) (v : Int32) (n : Nat) (hn : M 2 1 = nI n) (hn9 : n ≤ 9) : Ci l D B 14 (celM D B) yX7_isPlace cX7_isPlace 2 (some .boolean) 1 [.ref (B + 0), .int v] T M (fun rz T1 M1 => rz = (bI (inR v n)) ∧ T1 = T ∧ M1 = M) := by
  refine g_entryi (L := [(0, .ref (B + 0)), (1, .int v)]) (by decide) (Nat.le_of_ble_eq_true rfl) rfl ?_
  intro zp ze zs zm zb zt zc Q F hQ
  refine g_iload_n F 1 (dk dtX7_isPlace_0 0 rfl) rfl ?_
  refine g_iconst F (nI 0) (dk dtX7_isPlace_0 1 rfl) (by decide) ?_
  refine g_aload_n F 0 (dk dtX7_isPlace_0 2 rfl) rfl ?_
  refine g_get F fa_X7_13 (dk dtX7_isPlace_0 3 rfl) (by decide) (cm0 D B _ _) rfl ?_
  refine g_iconst F (nI 1) (dk dtX7_isPlace_0 4 rfl) (by decide) ?_
  refine g_iald F (1) (dk dtX7_isPlace_0 5 rfl) (by decide) (cm2 D B _ _) (by omega) (by decide) ?_
  refine g_top hn ?_
  refine g_iconst F (nI 1) (dk dtX7_isPlace_0 6 rfl) (by decide) ?_
  refine g_isub F (dk dtX7_isPlace_0 7 rfl) ?_
  refine g_callSi F (As := [.int v, .int (nI 0), .int ((nI n) - (nI 1))]) (st := []) cs_X7_60 (dk dtX7_isPlace_0 8 rfl) rfl rfl (Nat.le_of_ble_eq_true rfl) ⟨by decide, by decide⟩ (k_X7_in l D B _ _ _ _ _) (fun r10 T10 M10 hp10 => ?_)
  obtain ⟨e1, e2, e3⟩ := hp10
  replace e1 := e1.symm; replace e2 := e2.symm; replace e3 := e3.symm; subst e1; subst e2; subst e3
  refine g_zret (F := F) hQ (dk dtX7_isPlace_0 9 rfl) (bI_nar) ?_
  exact ⟨inR_sub hn9 _, rfl, rfl⟩
set_option maxRecDepth 100000 in
set_option maxHeartbeats 4000000 in
theorem k_X7_type_bad (l : Launch) (D : DX) (B : Nat) (T : Int64) (M : Mem) (h0 : M 0 0 = nI 0) (v : Int32) (hb : ¬ inR v 256) : Ci l D B 14 (celM D B) yX7_type cX7_type 2 (some .int) 1 [.ref (B + 0), .int v] T M (fun rz T1 M1 => rz = (-1) ∧ T1 = T ∧ M1 = M) := by
  refine g_entryi (L := [(0, .ref (B + 0)), (1, .int v)]) (by decide) (Nat.le_of_ble_eq_true rfl) rfl ?_
  intro zp ze zs zm zb zt zc Q F hQ
  refine g_aload_n F 0 (dk dtX7_type_0 0 rfl) rfl ?_
  refine g_iconst F (nI 0) (dk dtX7_type_0 1 rfl) (by decide) ?_
  refine g_put F fa_X7_56 (dk dtX7_type_0 2 rfl) (by decide) (cm0 D B _ _) (Nat.le_of_ble_eq_true rfl) rfl rfl (cm0 D B _ _) ?_
  refine g_mem (up2_same h0) ?_
  refine g_iload_n F 1 (dk dtX7_type_0 3 rfl) rfl ?_
  refine g_iconst F (nI 0) (dk dtX7_type_0 4 rfl) (by decide) ?_
  refine g_sipush F (nI 255) (dk dtX7_type_0 5 rfl) (by decide) ?_
  refine g_callSi F (As := [.int v, .int (nI 0), .int (nI 255)]) (st := []) cs_X7_60 (dk dtX7_type_0 6 rfl) rfl rfl (Nat.le_of_ble_eq_true rfl) ⟨by decide, by decide⟩ (k_X7_inR l D B _ _ _ 255 (by decide)) (fun r10 T10 M10 hp10 => ?_)
  obtain ⟨e1, e2, e3⟩ := hp10
  replace e1 := e1.symm; replace e2 := e2.symm; replace e3 := e3.symm; subst e1; subst e2; subst e3
  refine g_if_neB F 18 (dk dtX7_type_0 7 rfl) (by decide) (fun c13 => ?_) (fun c13 => ?_)
  · -- taken at 13
    exact absurd c13 hb
  · -- not taken at 13
    refine g_iconst F (-1) (dk dtX7_type_0 8 rfl) (by decide) ?_
    refine g_iret (F := F) hQ (dk dtX7_type_0 9 rfl) ?_
    exact ⟨rfl, rfl, rfl⟩
set_option maxRecDepth 100000 in
set_option maxHeartbeats 4000000 in
theorem k_X7_type_full (l : Launch) (D : DX) (B : Nat) (T : Int64) (M : Mem) (h0 : M 0 0 = nI 0) (v : Int32) (hv : inR v 256) (hty : M 0 3 = nI 150) : Ci l D B 14 (celM D B) yX7_type cX7_type 2 (some .int) 1 [.ref (B + 0), .int v] T M (fun rz T1 M1 => rz = (-3) ∧ T1 = T ∧ M1 = M) := by
  refine g_entryi (L := [(0, .ref (B + 0)), (1, .int v)]) (by decide) (Nat.le_of_ble_eq_true rfl) rfl ?_
  intro zp ze zs zm zb zt zc Q F hQ
  refine g_aload_n F 0 (dk dtX7_type_0 0 rfl) rfl ?_
  refine g_iconst F (nI 0) (dk dtX7_type_0 1 rfl) (by decide) ?_
  refine g_put F fa_X7_56 (dk dtX7_type_0 2 rfl) (by decide) (cm0 D B _ _) (Nat.le_of_ble_eq_true rfl) rfl rfl (cm0 D B _ _) ?_
  refine g_mem (up2_same h0) ?_
  refine g_iload_n F 1 (dk dtX7_type_0 3 rfl) rfl ?_
  refine g_iconst F (nI 0) (dk dtX7_type_0 4 rfl) (by decide) ?_
  refine g_sipush F (nI 255) (dk dtX7_type_0 5 rfl) (by decide) ?_
  refine g_callSi F (As := [.int v, .int (nI 0), .int (nI 255)]) (st := []) cs_X7_60 (dk dtX7_type_0 6 rfl) rfl rfl (Nat.le_of_ble_eq_true rfl) ⟨by decide, by decide⟩ (k_X7_inR l D B _ _ _ 255 (by decide)) (fun r10 T10 M10 hp10 => ?_)
  obtain ⟨e1, e2, e3⟩ := hp10
  replace e1 := e1.symm; replace e2 := e2.symm; replace e3 := e3.symm; subst e1; subst e2; subst e3
  refine g_if_neB F 18 (dk dtX7_type_0 7 rfl) (by decide) (fun c13 => ?_) (fun c13 => ?_)
  · -- taken at 13
    refine g_aload_n F 0 (dk dtX7_type_0 10 rfl) rfl ?_
    refine g_get F fa_X7_64 (dk dtX7_type_0 11 rfl) (by decide) (cm0 D B _ _) rfl ?_
    refine g_top hty ?_
    refine g_sipush F (nI 150) (dk dtX7_type_0 12 rfl) (by decide) ?_
    refine g_icmp_neN F 31 (dk dtX7_type_0 13 rfl) (by decide) (by decide) (by decide) (fun c => absurd c (by decide)) (fun _ => ?_)
    refine g_bipush F (-3) (dk dtX7_type_0 14 rfl) (by decide) ?_
    refine g_iret (F := F) hQ (dk dtX7_type_0 15 rfl) ?_
    exact ⟨rfl, rfl, rfl⟩
  · -- not taken at 13
    exact absurd hv c13
set_option maxRecDepth 100000 in
set_option maxHeartbeats 4000000 in
theorem k_X7_type (l : Launch) (D : DX) (B : Nat) (T : Int64) (M : Mem) (h0 : M 0 0 = nI 0) (v : Int32) (hv : inR v 256) (ty : Nat) (hty : M 0 3 = nI ty) (hty9 : ty ≤ 150) (hty1 : ty < 150) : Ci l D B 14 (celM D B) yX7_type cX7_type 2 (some .int) 1 [.ref (B + 0), .int v] T M (fun r T1 M1 => r = nI (ty + 1) ∧ T1 = T ∧ M1 = up2 (up2 M 1 ty v) 0 3 (nI (ty + 1))) := by
  refine g_entryi (L := [(0, .ref (B + 0)), (1, .int v)]) (by decide) (Nat.le_of_ble_eq_true rfl) rfl ?_
  intro zp ze zs zm zb zt zc Q F hQ
  refine g_aload_n F 0 (dk dtX7_type_0 0 rfl) rfl ?_
  refine g_iconst F (nI 0) (dk dtX7_type_0 1 rfl) (by decide) ?_
  refine g_put F fa_X7_56 (dk dtX7_type_0 2 rfl) (by decide) (cm0 D B _ _) (Nat.le_of_ble_eq_true rfl) rfl rfl (cm0 D B _ _) ?_
  refine g_mem (up2_same h0) ?_
  refine g_iload_n F 1 (dk dtX7_type_0 3 rfl) rfl ?_
  refine g_iconst F (nI 0) (dk dtX7_type_0 4 rfl) (by decide) ?_
  refine g_sipush F (nI 255) (dk dtX7_type_0 5 rfl) (by decide) ?_
  refine g_callSi F (As := [.int v, .int (nI 0), .int (nI 255)]) (st := []) cs_X7_60 (dk dtX7_type_0 6 rfl) rfl rfl (Nat.le_of_ble_eq_true rfl) ⟨by decide, by decide⟩ (k_X7_inR l D B _ _ _ 255 (by decide)) (fun r10 T10 M10 hp10 => ?_)
  obtain ⟨e1, e2, e3⟩ := hp10
  replace e1 := e1.symm; replace e2 := e2.symm; replace e3 := e3.symm; subst e1; subst e2; subst e3
  refine g_if_neB F 18 (dk dtX7_type_0 7 rfl) (by decide) (fun c13 => ?_) (fun c13 => ?_)
  · -- taken at 13
    refine g_aload_n F 0 (dk dtX7_type_0 10 rfl) rfl ?_
    refine g_get F fa_X7_64 (dk dtX7_type_0 11 rfl) (by decide) (cm0 D B _ _) rfl ?_
    refine g_top hty ?_
    refine g_sipush F (nI 150) (dk dtX7_type_0 12 rfl) (by decide) ?_
    refine g_icmp_neN F 31 (dk dtX7_type_0 13 rfl) (by decide) (by omega) (by omega) (fun c25 => ?_) (fun c25 => ?_)
    · -- taken at 25
      refine g_aload_n F 0 (dk dtX7_type_0 16 rfl) rfl ?_
      refine g_get F fa_X7_7 (dk dtX7_type_0 17 rfl) (by decide) (cm0 D B _ _) rfl ?_
      refine g_aload_n F 0 (dk dtX7_type_0 18 rfl) rfl ?_
      refine g_get F fa_X7_64 (dk dtX7_type_0 19 rfl) (by decide) (cm0 D B _ _) rfl ?_
      refine g_top hty ?_
      refine g_iload_n F 1 (dk dtX7_type_0 20 rfl) rfl ?_
      refine g_iast F (ty) (dk dtX7_type_0 21 rfl) (by decide) (fun r => cm1 D B _ r) (by omega) (by decide) ?_
      refine g_aload_n F 0 (dk dtX7_type_0 22 rfl) rfl ?_
      refine g_dup F (dk dtX7_type_0 23 rfl) rfl ?_
      refine g_get F fa_X7_64 (dk dtX7_type_0 24 rfl) (by decide) (cm0 D B _ _) rfl ?_
      refine g_top (congrFun (up2_ne _ _ (by decide)) _) ?_
      refine g_top hty ?_
      refine g_iconst F (nI 1) (dk dtX7_type_0 25 rfl) (by decide) ?_
      refine g_iaddN F (dk dtX7_type_0 26 rfl) ?_
      refine g_put F fa_X7_64 (dk dtX7_type_0 27 rfl) (by decide) (cm0 D B _ _) (Nat.le_of_ble_eq_true rfl) rfl rfl (cm0 D B _ _) ?_
      refine g_aload_n F 0 (dk dtX7_type_0 28 rfl) rfl ?_
      refine g_get F fa_X7_64 (dk dtX7_type_0 29 rfl) (by decide) (cm0 D B _ _) rfl ?_
      refine g_top ((congrFun (up2_self _ _ _ _) _).trans pk_us) ?_
      refine g_iret (F := F) hQ (dk dtX7_type_0 30 rfl) ?_
      exact ⟨rfl, rfl, rfl⟩
    · -- not taken at 25
      exact absurd c25 (by omega)
  · -- not taken at 13
    exact absurd hv c13
set_option maxRecDepth 100000 in
set_option maxHeartbeats 4000000 in
theorem k_X7_clear (l : Launch) (D : DX) (B : Nat) (T : Int64) (M : Mem) (h0 : M 0 0 = nI 0)  : Ci l D B 14 (celM D B) yX7_clear cX7_clear 2 (some .int) 0 [.ref (B + 0)] T M (fun r T1 M1 => r = M 0 3 ∧ T1 = T ∧ M1 = up2 M 0 3 (nI 0)) := by
  refine g_entryi (L := [(0, .ref (B + 0))]) (by decide) (Nat.le_of_ble_eq_true rfl) rfl ?_
  intro zp ze zs zm zb zt zc Q F hQ
  refine g_aload_n F 0 (dk dtX7_clear_0 0 rfl) rfl ?_
  refine g_iconst F (nI 0) (dk dtX7_clear_0 1 rfl) (by decide) ?_
  refine g_put F fa_X7_56 (dk dtX7_clear_0 2 rfl) (by decide) (cm0 D B _ _) (Nat.le_of_ble_eq_true rfl) rfl rfl (cm0 D B _ _) ?_
  refine g_mem (up2_same h0) ?_
  refine g_aload_n F 0 (dk dtX7_clear_0 3 rfl) rfl ?_
  refine g_get F fa_X7_64 (dk dtX7_clear_0 4 rfl) (by decide) (cm0 D B _ _) rfl ?_
  refine g_istore_n F [(1, .int (M 0 3)), (0, .ref (B + 0))] (dk dtX7_clear_0 5 rfl) (by decide) rfl ?_
  refine g_aload_n F 1 (dk dtX7_clear_0 6 rfl) rfl ?_
  refine g_iconst F (nI 0) (dk dtX7_clear_0 7 rfl) (by decide) ?_
  refine g_put F fa_X7_64 (dk dtX7_clear_0 8 rfl) (by decide) (cm0 D B _ _) (Nat.le_of_ble_eq_true rfl) rfl rfl (cm0 D B _ _) ?_
  refine g_iload_n F 0 (dk dtX7_clear_0 9 rfl) rfl ?_
  refine g_iret (F := F) hQ (dk dtX7_clear_0 10 rfl) ?_
  exact ⟨rfl, rfl, rfl⟩
set_option maxRecDepth 100000 in
set_option maxHeartbeats 4000000 in
theorem k_X7_forget (l : Launch) (D : DX) (B : Nat) (T : Int64) (M : Mem) (h0 : M 0 0 = nI 0)  : Ci l D B 14 (celM D B) yX7_forget cX7_forget 2 (some .int) 0 [.ref (B + 0)] T M (fun r T1 M1 => r = M 0 22 ∧ T1 = T ∧ M1 = up2 M 0 22 (nI 0)) := by
  refine g_entryi (L := [(0, .ref (B + 0))]) (by decide) (Nat.le_of_ble_eq_true rfl) rfl ?_
  intro zp ze zs zm zb zt zc Q F hQ
  refine g_aload_n F 0 (dk dtX7_forget_0 0 rfl) rfl ?_
  refine g_iconst F (nI 0) (dk dtX7_forget_0 1 rfl) (by decide) ?_
  refine g_put F fa_X7_56 (dk dtX7_forget_0 2 rfl) (by decide) (cm0 D B _ _) (Nat.le_of_ble_eq_true rfl) rfl rfl (cm0 D B _ _) ?_
  refine g_mem (up2_same h0) ?_
  refine g_aload_n F 0 (dk dtX7_forget_0 3 rfl) rfl ?_
  refine g_get F fa_X7_119 (dk dtX7_forget_0 4 rfl) (by decide) (cm0 D B _ _) rfl ?_
  refine g_istore_n F [(1, .int (M 0 22)), (0, .ref (B + 0))] (dk dtX7_forget_0 5 rfl) (by decide) rfl ?_
  refine g_aload_n F 1 (dk dtX7_forget_0 6 rfl) rfl ?_
  refine g_iconst F (nI 0) (dk dtX7_forget_0 7 rfl) (by decide) ?_
  refine g_put F fa_X7_119 (dk dtX7_forget_0 8 rfl) (by decide) (cm0 D B _ _) (Nat.le_of_ble_eq_true rfl) rfl rfl (cm0 D B _ _) ?_
  refine g_iload_n F 0 (dk dtX7_forget_0 9 rfl) rfl ?_
  refine g_iret (F := F) hQ (dk dtX7_forget_0 10 rfl) ?_
  exact ⟨rfl, rfl, rfl⟩
set_option maxRecDepth 100000 in
set_option maxHeartbeats 4000000 in
theorem k_X7_trace (l : Launch) (D : DX) (B : Nat) (T : Int64) (M : Mem) (h0 : M 0 0 = nI 0)  : Cl l D B 14 (celM D B) yX7_trace cX7_trace 1 (some .long) 0 [.ref (B + 0)] T M (fun r T1 M1 => r = T ∧ T1 = T ∧ M1 = M) := by
  refine g_entryl (L := [(0, .ref (B + 0))]) (by decide) (Nat.le_of_ble_eq_true rfl) rfl ?_
  intro zp ze zs zm zb zt zc Q F hQ
  refine g_aload_n F 0 (dk dtX7_trace_0 0 rfl) rfl ?_
  refine g_iconst F (nI 0) (dk dtX7_trace_0 1 rfl) (by decide) ?_
  refine g_put F fa_X7_56 (dk dtX7_trace_0 2 rfl) (by decide) (cm0 D B _ _) (Nat.le_of_ble_eq_true rfl) rfl rfl (cm0 D B _ _) ?_
  refine g_mem (up2_same h0) ?_
  refine g_aload_n F 0 (dk dtX7_trace_0 3 rfl) rfl ?_
  refine g_get F fa_X7_183 (dk dtX7_trace_0 4 rfl) (by decide) (cm0 D B _ _) rfl ?_
  refine g_lret (F := F) hQ (dk dtX7_trace_0 5 rfl) ?_
  exact ⟨rfl, rfl, rfl⟩
set_option maxRecDepth 100000 in
set_option maxHeartbeats 4000000 in
theorem k_X7_person_0 (l : Launch) (D : DX) (B : Nat) (T : Int64) (M : Mem) (h0 : M 0 0 = nI 0) (P : Nat) (hP : M 2 2 = nI P) (hP5 : P ≤ 5) (p : Nat) (hp : p < P) : Ci l D B 14 (celM D B) yX7_person cX7_person 3 (some .int) 2 [.ref (B + 0), .int (nI p), .int (nI 0)] T M (fun rz T1 M1 => rz = (M 3 p) ∧ T1 = T ∧ M1 = M) := by
  refine g_entryi (L := [(0, .ref (B + 0)), (1, .int (nI p)), (2, .int (nI 0))]) (by decide) (Nat.le_of_ble_eq_true rfl) rfl ?_
  intro zp ze zs zm zb zt zc Q F hQ
  refine g_aload_n F 0 (dk dtX7_person_0 0 rfl) rfl ?_
  refine g_iconst F (nI 0) (dk dtX7_person_0 1 rfl) (by decide) ?_
  refine g_put F fa_X7_56 (dk dtX7_person_0 2 rfl) (by decide) (cm0 D B _ _) (Nat.le_of_ble_eq_true rfl) rfl rfl (cm0 D B _ _) ?_
  refine g_mem (up2_same h0) ?_
  refine g_aload_n F 0 (dk dtX7_person_0 3 rfl) rfl ?_
  refine g_iload_n F 1 (dk dtX7_person_0 4 rfl) rfl ?_
  refine g_callVi F (As := [.int (nI p)]) (st := []) cv_X7_129 (dk dtX7_person_0 5 rfl) (by decide) (cm0 D B _ _) rfl rfl (Nat.le_of_ble_eq_true rfl) ⟨by decide, by decide⟩ (k_X7_isOne l D B _ _ _ P hP (by omega)) (fun r7 T7 M7 hp7 => ?_)
  obtain ⟨e1, e2, e3⟩ := hp7
  replace e1 := e1.symm; replace e2 := e2.symm; replace e3 := e3.symm; subst e1; subst e2; subst e3
  refine g_if_eqB F 22 (dk dtX7_person_0 6 rfl) (by decide) (fun c => absurd (inR_nI (by omega)) c) (fun _ => ?_)
  refine g_iload_n F 2 (dk dtX7_person_0 7 rfl) rfl ?_
  refine g_iconst F (nI 0) (dk dtX7_person_0 8 rfl) (by decide) ?_
  refine g_iconst F (nI 3) (dk dtX7_person_0 9 rfl) (by decide) ?_
  refine g_callSi F (As := [.int (nI 0), .int (nI 0), .int (nI 3)]) (st := []) cs_X7_60 (dk dtX7_person_0 10 rfl) rfl rfl (Nat.le_of_ble_eq_true rfl) ⟨by decide, by decide⟩ (k_X7_inR l D B _ _ _ 3 (by decide)) (fun r16 T16 M16 hp16 => ?_)
  obtain ⟨e1, e2, e3⟩ := hp16
  replace e1 := e1.symm; replace e2 := e2.symm; replace e3 := e3.symm; subst e1; subst e2; subst e3
  refine g_if_neB F 24 (dk dtX7_person_0 11 rfl) (by decide) (fun _ => ?_) (fun c => absurd (inR_nI (by omega)) c)
  refine g_iload_n F 2 (dk dtX7_person_0 14 rfl) rfl ?_
  refine g_if_neN F 37 (dk dtX7_person_0 15 rfl) (by decide) (by decide) (fun c => absurd c (by decide)) (fun _ => ?_)
  refine g_aload_n F 0 (dk dtX7_person_0 16 rfl) rfl ?_
  refine g_get F fa_X7_16 (dk dtX7_person_0 17 rfl) (by decide) (cm0 D B _ _) rfl ?_
  refine g_iload_n F 1 (dk dtX7_person_0 18 rfl) rfl ?_
  refine g_iald F (p) (dk dtX7_person_0 19 rfl) (by decide) (cm3 D B _ _) (by omega) (by decide) ?_
  refine g_goto F 79 (dk dtX7_person_0 20 rfl) (by decide) ?_
  refine g_iret (F := F) hQ (dk dtX7_person_0 46 rfl) ?_
  exact ⟨rfl, rfl, rfl⟩
set_option maxRecDepth 100000 in
set_option maxHeartbeats 4000000 in
theorem k_X7_person_1 (l : Launch) (D : DX) (B : Nat) (T : Int64) (M : Mem) (h0 : M 0 0 = nI 0) (P : Nat) (hP : M 2 2 = nI P) (hP5 : P ≤ 5) (p : Nat) (hp : p < P) : Ci l D B 14 (celM D B) yX7_person cX7_person 3 (some .int) 2 [.ref (B + 0), .int (nI p), .int (nI 1)] T M (fun rz T1 M1 => rz = (M 5 p) ∧ T1 = T ∧ M1 = M) := by
  refine g_entryi (L := [(0, .ref (B + 0)), (1, .int (nI p)), (2, .int (nI 1))]) (by decide) (Nat.le_of_ble_eq_true rfl) rfl ?_
  intro zp ze zs zm zb zt zc Q F hQ
  refine g_aload_n F 0 (dk dtX7_person_0 0 rfl) rfl ?_
  refine g_iconst F (nI 0) (dk dtX7_person_0 1 rfl) (by decide) ?_
  refine g_put F fa_X7_56 (dk dtX7_person_0 2 rfl) (by decide) (cm0 D B _ _) (Nat.le_of_ble_eq_true rfl) rfl rfl (cm0 D B _ _) ?_
  refine g_mem (up2_same h0) ?_
  refine g_aload_n F 0 (dk dtX7_person_0 3 rfl) rfl ?_
  refine g_iload_n F 1 (dk dtX7_person_0 4 rfl) rfl ?_
  refine g_callVi F (As := [.int (nI p)]) (st := []) cv_X7_129 (dk dtX7_person_0 5 rfl) (by decide) (cm0 D B _ _) rfl rfl (Nat.le_of_ble_eq_true rfl) ⟨by decide, by decide⟩ (k_X7_isOne l D B _ _ _ P hP (by omega)) (fun r7 T7 M7 hp7 => ?_)
  obtain ⟨e1, e2, e3⟩ := hp7
  replace e1 := e1.symm; replace e2 := e2.symm; replace e3 := e3.symm; subst e1; subst e2; subst e3
  refine g_if_eqB F 22 (dk dtX7_person_0 6 rfl) (by decide) (fun c => absurd (inR_nI (by omega)) c) (fun _ => ?_)
  refine g_iload_n F 2 (dk dtX7_person_0 7 rfl) rfl ?_
  refine g_iconst F (nI 0) (dk dtX7_person_0 8 rfl) (by decide) ?_
  refine g_iconst F (nI 3) (dk dtX7_person_0 9 rfl) (by decide) ?_
  refine g_callSi F (As := [.int (nI 1), .int (nI 0), .int (nI 3)]) (st := []) cs_X7_60 (dk dtX7_person_0 10 rfl) rfl rfl (Nat.le_of_ble_eq_true rfl) ⟨by decide, by decide⟩ (k_X7_inR l D B _ _ _ 3 (by decide)) (fun r16 T16 M16 hp16 => ?_)
  obtain ⟨e1, e2, e3⟩ := hp16
  replace e1 := e1.symm; replace e2 := e2.symm; replace e3 := e3.symm; subst e1; subst e2; subst e3
  refine g_if_neB F 24 (dk dtX7_person_0 11 rfl) (by decide) (fun _ => ?_) (fun c => absurd (inR_nI (by omega)) c)
  refine g_iload_n F 2 (dk dtX7_person_0 14 rfl) rfl ?_
  refine g_if_neN F 37 (dk dtX7_person_0 15 rfl) (by decide) (by decide) (fun _ => ?_) (fun c => absurd c (by decide))
  refine g_iload_n F 2 (dk dtX7_person_0 21 rfl) rfl ?_
  refine g_iconst F (nI 1) (dk dtX7_person_0 22 rfl) (by decide) ?_
  refine g_icmp_neN F 53 (dk dtX7_person_0 23 rfl) (by decide) (by decide) (by decide) (fun c => absurd c (by decide)) (fun _ => ?_)
  refine g_aload_n F 0 (dk dtX7_person_0 24 rfl) rfl ?_
  refine g_get F fa_X7_22 (dk dtX7_person_0 25 rfl) (by decide) (cm0 D B _ _) rfl ?_
  refine g_iconst F (nI 0) (dk dtX7_person_0 26 rfl) (by decide) ?_
  refine g_iload_n F 1 (dk dtX7_person_0 27 rfl) rfl ?_
  refine g_iadd0 F (dk dtX7_person_0 28 rfl) ?_
  refine g_iald F (p) (dk dtX7_person_0 29 rfl) (by decide) (cm5 D B _ _) (by omega) (by decide) ?_
  refine g_goto F 79 (dk dtX7_person_0 30 rfl) (by decide) ?_
  refine g_iret (F := F) hQ (dk dtX7_person_0 46 rfl) ?_
  exact ⟨rfl, rfl, rfl⟩
set_option maxRecDepth 100000 in
set_option maxHeartbeats 4000000 in
theorem k_X7_person_2 (l : Launch) (D : DX) (B : Nat) (T : Int64) (M : Mem) (h0 : M 0 0 = nI 0) (P : Nat) (hP : M 2 2 = nI P) (hP5 : P ≤ 5) (p : Nat) (hp : p < P) : Ci l D B 14 (celM D B) yX7_person cX7_person 3 (some .int) 2 [.ref (B + 0), .int (nI p), .int (nI 2)] T M (fun rz T1 M1 => rz = (M 5 (25 + p)) ∧ T1 = T ∧ M1 = M) := by
  refine g_entryi (L := [(0, .ref (B + 0)), (1, .int (nI p)), (2, .int (nI 2))]) (by decide) (Nat.le_of_ble_eq_true rfl) rfl ?_
  intro zp ze zs zm zb zt zc Q F hQ
  refine g_aload_n F 0 (dk dtX7_person_0 0 rfl) rfl ?_
  refine g_iconst F (nI 0) (dk dtX7_person_0 1 rfl) (by decide) ?_
  refine g_put F fa_X7_56 (dk dtX7_person_0 2 rfl) (by decide) (cm0 D B _ _) (Nat.le_of_ble_eq_true rfl) rfl rfl (cm0 D B _ _) ?_
  refine g_mem (up2_same h0) ?_
  refine g_aload_n F 0 (dk dtX7_person_0 3 rfl) rfl ?_
  refine g_iload_n F 1 (dk dtX7_person_0 4 rfl) rfl ?_
  refine g_callVi F (As := [.int (nI p)]) (st := []) cv_X7_129 (dk dtX7_person_0 5 rfl) (by decide) (cm0 D B _ _) rfl rfl (Nat.le_of_ble_eq_true rfl) ⟨by decide, by decide⟩ (k_X7_isOne l D B _ _ _ P hP (by omega)) (fun r7 T7 M7 hp7 => ?_)
  obtain ⟨e1, e2, e3⟩ := hp7
  replace e1 := e1.symm; replace e2 := e2.symm; replace e3 := e3.symm; subst e1; subst e2; subst e3
  refine g_if_eqB F 22 (dk dtX7_person_0 6 rfl) (by decide) (fun c => absurd (inR_nI (by omega)) c) (fun _ => ?_)
  refine g_iload_n F 2 (dk dtX7_person_0 7 rfl) rfl ?_
  refine g_iconst F (nI 0) (dk dtX7_person_0 8 rfl) (by decide) ?_
  refine g_iconst F (nI 3) (dk dtX7_person_0 9 rfl) (by decide) ?_
  refine g_callSi F (As := [.int (nI 2), .int (nI 0), .int (nI 3)]) (st := []) cs_X7_60 (dk dtX7_person_0 10 rfl) rfl rfl (Nat.le_of_ble_eq_true rfl) ⟨by decide, by decide⟩ (k_X7_inR l D B _ _ _ 3 (by decide)) (fun r16 T16 M16 hp16 => ?_)
  obtain ⟨e1, e2, e3⟩ := hp16
  replace e1 := e1.symm; replace e2 := e2.symm; replace e3 := e3.symm; subst e1; subst e2; subst e3
  refine g_if_neB F 24 (dk dtX7_person_0 11 rfl) (by decide) (fun _ => ?_) (fun c => absurd (inR_nI (by omega)) c)
  refine g_iload_n F 2 (dk dtX7_person_0 14 rfl) rfl ?_
  refine g_if_neN F 37 (dk dtX7_person_0 15 rfl) (by decide) (by decide) (fun _ => ?_) (fun c => absurd c (by decide))
  refine g_iload_n F 2 (dk dtX7_person_0 21 rfl) rfl ?_
  refine g_iconst F (nI 1) (dk dtX7_person_0 22 rfl) (by decide) ?_
  refine g_icmp_neN F 53 (dk dtX7_person_0 23 rfl) (by decide) (by decide) (by decide) (fun _ => ?_) (fun c => absurd c (by decide))
  refine g_iload_n F 2 (dk dtX7_person_0 31 rfl) rfl ?_
  refine g_iconst F (nI 2) (dk dtX7_person_0 32 rfl) (by decide) ?_
  refine g_icmp_neN F 70 (dk dtX7_person_0 33 rfl) (by decide) (by decide) (by decide) (fun c => absurd c (by decide)) (fun _ => ?_)
  refine g_aload_n F 0 (dk dtX7_person_0 34 rfl) rfl ?_
  refine g_get F fa_X7_22 (dk dtX7_person_0 35 rfl) (by decide) (cm0 D B _ _) rfl ?_
  refine g_bipush F (nI 25) (dk dtX7_person_0 36 rfl) (by decide) ?_
  refine g_iload_n F 1 (dk dtX7_person_0 37 rfl) rfl ?_
  refine g_iaddN F (dk dtX7_person_0 38 rfl) ?_
  refine g_iald F (25 + p) (dk dtX7_person_0 39 rfl) (by decide) (cm5 D B _ _) (by omega) (by decide) ?_
  refine g_goto F 79 (dk dtX7_person_0 40 rfl) (by decide) ?_
  refine g_iret (F := F) hQ (dk dtX7_person_0 46 rfl) ?_
  exact ⟨rfl, rfl, rfl⟩
set_option maxRecDepth 100000 in
set_option maxHeartbeats 4000000 in
theorem k_X7_person_3 (l : Launch) (D : DX) (B : Nat) (T : Int64) (M : Mem) (h0 : M 0 0 = nI 0) (P : Nat) (hP : M 2 2 = nI P) (hP5 : P ≤ 5) (p : Nat) (hp : p < P) : Ci l D B 14 (celM D B) yX7_person cX7_person 3 (some .int) 2 [.ref (B + 0), .int (nI p), .int (nI 3)] T M (fun rz T1 M1 => rz = (aS (M 5) p) ∧ T1 = T ∧ M1 = M) := by
  refine g_entryi (L := [(0, .ref (B + 0)), (1, .int (nI p)), (2, .int (nI 3))]) (by decide) (Nat.le_of_ble_eq_true rfl) rfl ?_
  intro zp ze zs zm zb zt zc Q F hQ
  refine g_aload_n F 0 (dk dtX7_person_0 0 rfl) rfl ?_
  refine g_iconst F (nI 0) (dk dtX7_person_0 1 rfl) (by decide) ?_
  refine g_put F fa_X7_56 (dk dtX7_person_0 2 rfl) (by decide) (cm0 D B _ _) (Nat.le_of_ble_eq_true rfl) rfl rfl (cm0 D B _ _) ?_
  refine g_mem (up2_same h0) ?_
  refine g_aload_n F 0 (dk dtX7_person_0 3 rfl) rfl ?_
  refine g_iload_n F 1 (dk dtX7_person_0 4 rfl) rfl ?_
  refine g_callVi F (As := [.int (nI p)]) (st := []) cv_X7_129 (dk dtX7_person_0 5 rfl) (by decide) (cm0 D B _ _) rfl rfl (Nat.le_of_ble_eq_true rfl) ⟨by decide, by decide⟩ (k_X7_isOne l D B _ _ _ P hP (by omega)) (fun r7 T7 M7 hp7 => ?_)
  obtain ⟨e1, e2, e3⟩ := hp7
  replace e1 := e1.symm; replace e2 := e2.symm; replace e3 := e3.symm; subst e1; subst e2; subst e3
  refine g_if_eqB F 22 (dk dtX7_person_0 6 rfl) (by decide) (fun c => absurd (inR_nI (by omega)) c) (fun _ => ?_)
  refine g_iload_n F 2 (dk dtX7_person_0 7 rfl) rfl ?_
  refine g_iconst F (nI 0) (dk dtX7_person_0 8 rfl) (by decide) ?_
  refine g_iconst F (nI 3) (dk dtX7_person_0 9 rfl) (by decide) ?_
  refine g_callSi F (As := [.int (nI 3), .int (nI 0), .int (nI 3)]) (st := []) cs_X7_60 (dk dtX7_person_0 10 rfl) rfl rfl (Nat.le_of_ble_eq_true rfl) ⟨by decide, by decide⟩ (k_X7_inR l D B _ _ _ 3 (by decide)) (fun r16 T16 M16 hp16 => ?_)
  obtain ⟨e1, e2, e3⟩ := hp16
  replace e1 := e1.symm; replace e2 := e2.symm; replace e3 := e3.symm; subst e1; subst e2; subst e3
  refine g_if_neB F 24 (dk dtX7_person_0 11 rfl) (by decide) (fun _ => ?_) (fun c => absurd (inR_nI (by omega)) c)
  refine g_iload_n F 2 (dk dtX7_person_0 14 rfl) rfl ?_
  refine g_if_neN F 37 (dk dtX7_person_0 15 rfl) (by decide) (by decide) (fun _ => ?_) (fun c => absurd c (by decide))
  refine g_iload_n F 2 (dk dtX7_person_0 21 rfl) rfl ?_
  refine g_iconst F (nI 1) (dk dtX7_person_0 22 rfl) (by decide) ?_
  refine g_icmp_neN F 53 (dk dtX7_person_0 23 rfl) (by decide) (by decide) (by decide) (fun _ => ?_) (fun c => absurd c (by decide))
  refine g_iload_n F 2 (dk dtX7_person_0 31 rfl) rfl ?_
  refine g_iconst F (nI 2) (dk dtX7_person_0 32 rfl) (by decide) ?_
  refine g_icmp_neN F 70 (dk dtX7_person_0 33 rfl) (by decide) (by decide) (by decide) (fun _ => ?_) (fun c => absurd c (by decide))
  refine g_aload_n F 0 (dk dtX7_person_0 41 rfl) rfl ?_
  refine g_aload_n F 0 (dk dtX7_person_0 42 rfl) rfl ?_
  refine g_get F fa_X7_22 (dk dtX7_person_0 43 rfl) (by decide) (cm0 D B _ _) rfl ?_
  refine g_iload_n F 1 (dk dtX7_person_0 44 rfl) rfl ?_
  refine g_callVi F (As := [.ref (B + 5), .int (nI p)]) (st := []) cv_X7_125 (dk dtX7_person_0 45 rfl) (by decide) (cm0 D B _ _) rfl rfl (Nat.le_of_ble_eq_true rfl) ⟨by decide, by decide⟩ (k_X7_allSeen l D B _ _ 5 (isRow5 D B) _ (by omega)) (fun r76 T76 M76 hp76 => ?_)
  obtain ⟨e1, e2, e3⟩ := hp76
  replace e1 := e1.symm; replace e2 := e2.symm; replace e3 := e3.symm; subst e1; subst e2; subst e3
  refine g_iret (F := F) hQ (dk dtX7_person_0 46 rfl) ?_
  exact ⟨rfl, rfl, rfl⟩
set_option maxRecDepth 100000 in
set_option maxHeartbeats 4000000 in
theorem k_X7_person_bad (l : Launch) (D : DX) (B : Nat) (T : Int64) (M : Mem) (h0 : M 0 0 = nI 0) (P : Nat) (hP : M 2 2 = nI P) (hP5 : P ≤ 5) (p w : Int32) (hb : ¬ (inR p P ∧ inR w 4)) : Ci l D B 14 (celM D B) yX7_person cX7_person 3 (some .int) 2 [.ref (B + 0), .int p, .int w] T M (fun rz T1 M1 => rz = (-1) ∧ T1 = T ∧ M1 = M) := by
  refine g_entryi (L := [(0, .ref (B + 0)), (1, .int p), (2, .int w)]) (by decide) (Nat.le_of_ble_eq_true rfl) rfl ?_
  intro zp ze zs zm zb zt zc Q F hQ
  refine g_aload_n F 0 (dk dtX7_person_0 0 rfl) rfl ?_
  refine g_iconst F (nI 0) (dk dtX7_person_0 1 rfl) (by decide) ?_
  refine g_put F fa_X7_56 (dk dtX7_person_0 2 rfl) (by decide) (cm0 D B _ _) (Nat.le_of_ble_eq_true rfl) rfl rfl (cm0 D B _ _) ?_
  refine g_mem (up2_same h0) ?_
  refine g_aload_n F 0 (dk dtX7_person_0 3 rfl) rfl ?_
  refine g_iload_n F 1 (dk dtX7_person_0 4 rfl) rfl ?_
  refine g_callVi F (As := [.int p]) (st := []) cv_X7_129 (dk dtX7_person_0 5 rfl) (by decide) (cm0 D B _ _) rfl rfl (Nat.le_of_ble_eq_true rfl) ⟨by decide, by decide⟩ (k_X7_isOne l D B _ _ _ P hP (by omega)) (fun r7 T7 M7 hp7 => ?_)
  obtain ⟨e1, e2, e3⟩ := hp7
  replace e1 := e1.symm; replace e2 := e2.symm; replace e3 := e3.symm; subst e1; subst e2; subst e3
  refine g_if_eqB F 22 (dk dtX7_person_0 6 rfl) (by decide) (fun c10 => ?_) (fun c10 => ?_)
  · -- taken at 10
    refine g_iconst F (-1) (dk dtX7_person_0 12 rfl) (by decide) ?_
    refine g_iret (F := F) hQ (dk dtX7_person_0 13 rfl) ?_
    exact ⟨rfl, rfl, rfl⟩
  · -- not taken at 10
    refine g_iload_n F 2 (dk dtX7_person_0 7 rfl) rfl ?_
    refine g_iconst F (nI 0) (dk dtX7_person_0 8 rfl) (by decide) ?_
    refine g_iconst F (nI 3) (dk dtX7_person_0 9 rfl) (by decide) ?_
    refine g_callSi F (As := [.int w, .int (nI 0), .int (nI 3)]) (st := []) cs_X7_60 (dk dtX7_person_0 10 rfl) rfl rfl (Nat.le_of_ble_eq_true rfl) ⟨by decide, by decide⟩ (k_X7_inR l D B _ _ _ 3 (by decide)) (fun r16 T16 M16 hp16 => ?_)
    obtain ⟨e1, e2, e3⟩ := hp16
    replace e1 := e1.symm; replace e2 := e2.symm; replace e3 := e3.symm; subst e1; subst e2; subst e3
    refine g_if_neB F 24 (dk dtX7_person_0 11 rfl) (by decide) (fun c19 => ?_) (fun c19 => ?_)
    · -- taken at 19
      exact absurd ⟨c10, c19⟩ hb
    · -- not taken at 19
      refine g_iconst F (-1) (dk dtX7_person_0 12 rfl) (by decide) ?_
      refine g_iret (F := F) hQ (dk dtX7_person_0 13 rfl) ?_
      exact ⟨rfl, rfl, rfl⟩
set_option maxRecDepth 100000 in
set_option maxHeartbeats 4000000 in
theorem k_X7_seen (l : Launch) (D : DX) (B : Nat) (T : Int64) (M : Mem) (h0 : M 0 0 = nI 0) (P : Nat) (hP : M 2 2 = nI P) (hP5 : P ≤ 5) (K : Nat) (hK : M 2 0 = nI K) (hK1 : 1 ≤ K) (hK4 : K ≤ 4) (p k : Nat) (hp : p < P) (hk : k < K) : Ci l D B 14 (celM D B) yX7_seen cX7_seen 3 (some .int) 2 [.ref (B + 0), .int (nI p), .int (nI k)] T M (fun rz T1 M1 => rz = (M 5 (5 + 4 * p + k)) ∧ T1 = T ∧ M1 = M) := by
  refine g_entryi (L := [(0, .ref (B + 0)), (1, .int (nI p)), (2, .int (nI k))]) (by decide) (Nat.le_of_ble_eq_true rfl) rfl ?_
  intro zp ze zs zm zb zt zc Q F hQ
  refine g_aload_n F 0 (dk dtX7_seen_0 0 rfl) rfl ?_
  refine g_iconst F (nI 0) (dk dtX7_seen_0 1 rfl) (by decide) ?_
  refine g_put F fa_X7_56 (dk dtX7_seen_0 2 rfl) (by decide) (cm0 D B _ _) (Nat.le_of_ble_eq_true rfl) rfl rfl (cm0 D B _ _) ?_
  refine g_mem (up2_same h0) ?_
  refine g_aload_n F 0 (dk dtX7_seen_0 3 rfl) rfl ?_
  refine g_iload_n F 1 (dk dtX7_seen_0 4 rfl) rfl ?_
  refine g_callVi F (As := [.int (nI p)]) (st := []) cv_X7_129 (dk dtX7_seen_0 5 rfl) (by decide) (cm0 D B _ _) rfl rfl (Nat.le_of_ble_eq_true rfl) ⟨by decide, by decide⟩ (k_X7_isOne l D B _ _ _ P hP (by omega)) (fun r7 T7 M7 hp7 => ?_)
  obtain ⟨e1, e2, e3⟩ := hp7
  replace e1 := e1.symm; replace e2 := e2.symm; replace e3 := e3.symm; subst e1; subst e2; subst e3
  refine g_if_eqB F 36 (dk dtX7_seen_0 6 rfl) (by decide) (fun c => absurd (inR_nI (by omega)) c) (fun _ => ?_)
  refine g_aload_n F 0 (dk dtX7_seen_0 7 rfl) rfl ?_
  refine g_iload_n F 2 (dk dtX7_seen_0 8 rfl) rfl ?_
  refine g_callVi F (As := [.int (nI k)]) (st := []) cv_X7_132 (dk dtX7_seen_0 9 rfl) (by decide) (cm0 D B _ _) rfl rfl (Nat.le_of_ble_eq_true rfl) ⟨by decide, by decide⟩ (k_X7_isKind l D B _ _ _ K hK (by omega)) (fun r15 T15 M15 hp15 => ?_)
  obtain ⟨e1, e2, e3⟩ := hp15
  replace e1 := e1.symm; replace e2 := e2.symm; replace e3 := e3.symm; subst e1; subst e2; subst e3
  refine g_if_eqB F 36 (dk dtX7_seen_0 10 rfl) (by decide) (fun c => absurd (inR_nI (by omega)) c) (fun _ => ?_)
  refine g_aload_n F 0 (dk dtX7_seen_0 11 rfl) rfl ?_
  refine g_get F fa_X7_22 (dk dtX7_seen_0 12 rfl) (by decide) (cm0 D B _ _) rfl ?_
  refine g_iconst F (nI 5) (dk dtX7_seen_0 13 rfl) (by decide) ?_
  refine g_iconst F (nI 4) (dk dtX7_seen_0 14 rfl) (by decide) ?_
  refine g_iload_n F 1 (dk dtX7_seen_0 15 rfl) rfl ?_
  refine g_imulN F (dk dtX7_seen_0 16 rfl) ?_
  refine g_iaddN F (dk dtX7_seen_0 17 rfl) ?_
  refine g_iload_n F 2 (dk dtX7_seen_0 18 rfl) rfl ?_
  refine g_iaddN F (dk dtX7_seen_0 19 rfl) ?_
  refine g_iald F ((5 + (4 * p)) + k) (dk dtX7_seen_0 20 rfl) (by decide) (cm5 D B _ _) (by omega) (by decide) ?_
  refine g_goto F 37 (dk dtX7_seen_0 21 rfl) (by decide) ?_
  refine g_iret (F := F) hQ (dk dtX7_seen_0 23 rfl) ?_
  exact ⟨rfl, rfl, rfl⟩
set_option maxRecDepth 100000 in
set_option maxHeartbeats 4000000 in
theorem k_X7_seen_bad (l : Launch) (D : DX) (B : Nat) (T : Int64) (M : Mem) (h0 : M 0 0 = nI 0) (P : Nat) (hP : M 2 2 = nI P) (hP5 : P ≤ 5) (K : Nat) (hK : M 2 0 = nI K) (hK1 : 1 ≤ K) (hK4 : K ≤ 4) (p k : Int32) (hb : ¬ (inR p P ∧ inR k K)) : Ci l D B 14 (celM D B) yX7_seen cX7_seen 3 (some .int) 2 [.ref (B + 0), .int p, .int k] T M (fun rz T1 M1 => rz = (-1) ∧ T1 = T ∧ M1 = M) := by
  refine g_entryi (L := [(0, .ref (B + 0)), (1, .int p), (2, .int k)]) (by decide) (Nat.le_of_ble_eq_true rfl) rfl ?_
  intro zp ze zs zm zb zt zc Q F hQ
  refine g_aload_n F 0 (dk dtX7_seen_0 0 rfl) rfl ?_
  refine g_iconst F (nI 0) (dk dtX7_seen_0 1 rfl) (by decide) ?_
  refine g_put F fa_X7_56 (dk dtX7_seen_0 2 rfl) (by decide) (cm0 D B _ _) (Nat.le_of_ble_eq_true rfl) rfl rfl (cm0 D B _ _) ?_
  refine g_mem (up2_same h0) ?_
  refine g_aload_n F 0 (dk dtX7_seen_0 3 rfl) rfl ?_
  refine g_iload_n F 1 (dk dtX7_seen_0 4 rfl) rfl ?_
  refine g_callVi F (As := [.int p]) (st := []) cv_X7_129 (dk dtX7_seen_0 5 rfl) (by decide) (cm0 D B _ _) rfl rfl (Nat.le_of_ble_eq_true rfl) ⟨by decide, by decide⟩ (k_X7_isOne l D B _ _ _ P hP (by omega)) (fun r7 T7 M7 hp7 => ?_)
  obtain ⟨e1, e2, e3⟩ := hp7
  replace e1 := e1.symm; replace e2 := e2.symm; replace e3 := e3.symm; subst e1; subst e2; subst e3
  refine g_if_eqB F 36 (dk dtX7_seen_0 6 rfl) (by decide) (fun c10 => ?_) (fun c10 => ?_)
  · -- taken at 10
    refine g_iconst F (-1) (dk dtX7_seen_0 22 rfl) (by decide) ?_
    refine g_iret (F := F) hQ (dk dtX7_seen_0 23 rfl) ?_
    exact ⟨rfl, rfl, rfl⟩
  · -- not taken at 10
    refine g_aload_n F 0 (dk dtX7_seen_0 7 rfl) rfl ?_
    refine g_iload_n F 2 (dk dtX7_seen_0 8 rfl) rfl ?_
    refine g_callVi F (As := [.int k]) (st := []) cv_X7_132 (dk dtX7_seen_0 9 rfl) (by decide) (cm0 D B _ _) rfl rfl (Nat.le_of_ble_eq_true rfl) ⟨by decide, by decide⟩ (k_X7_isKind l D B _ _ _ K hK (by omega)) (fun r15 T15 M15 hp15 => ?_)
    obtain ⟨e1, e2, e3⟩ := hp15
    replace e1 := e1.symm; replace e2 := e2.symm; replace e3 := e3.symm; subst e1; subst e2; subst e3
    refine g_if_eqB F 36 (dk dtX7_seen_0 10 rfl) (by decide) (fun c18 => ?_) (fun c18 => ?_)
    · -- taken at 18
      refine g_iconst F (-1) (dk dtX7_seen_0 22 rfl) (by decide) ?_
      refine g_iret (F := F) hQ (dk dtX7_seen_0 23 rfl) ?_
      exact ⟨rfl, rfl, rfl⟩
    · -- not taken at 18
      exact absurd ⟨c10, c18⟩ hb
set_option maxRecDepth 100000 in
set_option maxHeartbeats 4000000 in
theorem k_X7_surprise (l : Launch) (D : DX) (B : Nat) (T : Int64) (M : Mem) (h0 : M 0 0 = nI 0) (P : Nat) (hP : M 2 2 = nI P) (hP5 : P ≤ 5) (K : Nat) (hK : M 2 0 = nI K) (hK1 : 1 ≤ K) (hK4 : K ≤ 4) (p k : Nat) (hp : p < P) (hk : k < K) (hW : WR (M 5)) : Ci l D B 14 (celM D B) yX7_surprise cX7_surprise 3 (some .int) 3 [.ref (B + 0), .int (nI p), .int (nI k)] T M (fun rz T1 M1 => rz = (suR (M 2 0) (M 5) p k) ∧ T1 = T ∧ M1 = M) := by
  refine g_entryi (L := [(0, .ref (B + 0)), (1, .int (nI p)), (2, .int (nI k))]) (by decide) (Nat.le_of_ble_eq_true rfl) rfl ?_
  intro zp ze zs zm zb zt zc Q F hQ
  refine g_aload_n F 0 (dk dtX7_surprise_0 0 rfl) rfl ?_
  refine g_iconst F (nI 0) (dk dtX7_surprise_0 1 rfl) (by decide) ?_
  refine g_put F fa_X7_56 (dk dtX7_surprise_0 2 rfl) (by decide) (cm0 D B _ _) (Nat.le_of_ble_eq_true rfl) rfl rfl (cm0 D B _ _) ?_
  refine g_mem (up2_same h0) ?_
  refine g_aload_n F 0 (dk dtX7_surprise_0 3 rfl) rfl ?_
  refine g_iload_n F 1 (dk dtX7_surprise_0 4 rfl) rfl ?_
  refine g_callVi F (As := [.int (nI p)]) (st := []) cv_X7_129 (dk dtX7_surprise_0 5 rfl) (by decide) (cm0 D B _ _) rfl rfl (Nat.le_of_ble_eq_true rfl) ⟨by decide, by decide⟩ (k_X7_isOne l D B _ _ _ P hP (by omega)) (fun r7 T7 M7 hp7 => ?_)
  obtain ⟨e1, e2, e3⟩ := hp7
  replace e1 := e1.symm; replace e2 := e2.symm; replace e3 := e3.symm; subst e1; subst e2; subst e3
  refine g_if_eqB F 34 (dk dtX7_surprise_0 6 rfl) (by decide) (fun c => absurd (inR_nI (by omega)) c) (fun _ => ?_)
  refine g_aload_n F 0 (dk dtX7_surprise_0 7 rfl) rfl ?_
  refine g_iload_n F 2 (dk dtX7_surprise_0 8 rfl) rfl ?_
  refine g_callVi F (As := [.int (nI k)]) (st := []) cv_X7_132 (dk dtX7_surprise_0 9 rfl) (by decide) (cm0 D B _ _) rfl rfl (Nat.le_of_ble_eq_true rfl) ⟨by decide, by decide⟩ (k_X7_isKind l D B _ _ _ K hK (by omega)) (fun r15 T15 M15 hp15 => ?_)
  obtain ⟨e1, e2, e3⟩ := hp15
  replace e1 := e1.symm; replace e2 := e2.symm; replace e3 := e3.symm; subst e1; subst e2; subst e3
  refine g_if_eqB F 34 (dk dtX7_surprise_0 10 rfl) (by decide) (fun c => absurd (inR_nI (by omega)) c) (fun _ => ?_)
  refine g_aload_n F 0 (dk dtX7_surprise_0 11 rfl) rfl ?_
  refine g_aload_n F 0 (dk dtX7_surprise_0 12 rfl) rfl ?_
  refine g_get F fa_X7_22 (dk dtX7_surprise_0 13 rfl) (by decide) (cm0 D B _ _) rfl ?_
  refine g_iload_n F 1 (dk dtX7_surprise_0 14 rfl) rfl ?_
  refine g_iload_n F 2 (dk dtX7_surprise_0 15 rfl) rfl ?_
  refine g_callVi F (As := [.ref (B + 5), .int (nI p), .int (nI k)]) (st := []) cv_X7_135 (dk dtX7_surprise_0 16 rfl) (by decide) (cm0 D B _ _) rfl rfl (Nat.le_of_ble_eq_true rfl) ⟨by decide, by decide⟩ (k_X7_surpriseOf l D B _ _ 5 (isRow5 D B) p k (by omega) (by omega) (dvR hK hW hK1 hK4 (by omega))) (fun r28 T28 M28 hp28 => ?_)
  obtain ⟨e1, e2, e3⟩ := hp28
  replace e1 := e1.symm; replace e2 := e2.symm; replace e3 := e3.symm; subst e1; subst e2; subst e3
  refine g_goto F 35 (dk dtX7_surprise_0 17 rfl) (by decide) ?_
  refine g_iret (F := F) hQ (dk dtX7_surprise_0 19 rfl) ?_
  exact ⟨rfl, rfl, rfl⟩
set_option maxRecDepth 100000 in
set_option maxHeartbeats 4000000 in
theorem k_X7_surprise_bad (l : Launch) (D : DX) (B : Nat) (T : Int64) (M : Mem) (h0 : M 0 0 = nI 0) (P : Nat) (hP : M 2 2 = nI P) (hP5 : P ≤ 5) (K : Nat) (hK : M 2 0 = nI K) (hK1 : 1 ≤ K) (hK4 : K ≤ 4) (p k : Int32) (hb : ¬ (inR p P ∧ inR k K)) : Ci l D B 14 (celM D B) yX7_surprise cX7_surprise 3 (some .int) 3 [.ref (B + 0), .int p, .int k] T M (fun rz T1 M1 => rz = (-1) ∧ T1 = T ∧ M1 = M) := by
  refine g_entryi (L := [(0, .ref (B + 0)), (1, .int p), (2, .int k)]) (by decide) (Nat.le_of_ble_eq_true rfl) rfl ?_
  intro zp ze zs zm zb zt zc Q F hQ
  refine g_aload_n F 0 (dk dtX7_surprise_0 0 rfl) rfl ?_
  refine g_iconst F (nI 0) (dk dtX7_surprise_0 1 rfl) (by decide) ?_
  refine g_put F fa_X7_56 (dk dtX7_surprise_0 2 rfl) (by decide) (cm0 D B _ _) (Nat.le_of_ble_eq_true rfl) rfl rfl (cm0 D B _ _) ?_
  refine g_mem (up2_same h0) ?_
  refine g_aload_n F 0 (dk dtX7_surprise_0 3 rfl) rfl ?_
  refine g_iload_n F 1 (dk dtX7_surprise_0 4 rfl) rfl ?_
  refine g_callVi F (As := [.int p]) (st := []) cv_X7_129 (dk dtX7_surprise_0 5 rfl) (by decide) (cm0 D B _ _) rfl rfl (Nat.le_of_ble_eq_true rfl) ⟨by decide, by decide⟩ (k_X7_isOne l D B _ _ _ P hP (by omega)) (fun r7 T7 M7 hp7 => ?_)
  obtain ⟨e1, e2, e3⟩ := hp7
  replace e1 := e1.symm; replace e2 := e2.symm; replace e3 := e3.symm; subst e1; subst e2; subst e3
  refine g_if_eqB F 34 (dk dtX7_surprise_0 6 rfl) (by decide) (fun c10 => ?_) (fun c10 => ?_)
  · -- taken at 10
    refine g_iconst F (-1) (dk dtX7_surprise_0 18 rfl) (by decide) ?_
    refine g_iret (F := F) hQ (dk dtX7_surprise_0 19 rfl) ?_
    exact ⟨rfl, rfl, rfl⟩
  · -- not taken at 10
    refine g_aload_n F 0 (dk dtX7_surprise_0 7 rfl) rfl ?_
    refine g_iload_n F 2 (dk dtX7_surprise_0 8 rfl) rfl ?_
    refine g_callVi F (As := [.int k]) (st := []) cv_X7_132 (dk dtX7_surprise_0 9 rfl) (by decide) (cm0 D B _ _) rfl rfl (Nat.le_of_ble_eq_true rfl) ⟨by decide, by decide⟩ (k_X7_isKind l D B _ _ _ K hK (by omega)) (fun r15 T15 M15 hp15 => ?_)
    obtain ⟨e1, e2, e3⟩ := hp15
    replace e1 := e1.symm; replace e2 := e2.symm; replace e3 := e3.symm; subst e1; subst e2; subst e3
    refine g_if_eqB F 34 (dk dtX7_surprise_0 10 rfl) (by decide) (fun c18 => ?_) (fun c18 => ?_)
    · -- taken at 18
      refine g_iconst F (-1) (dk dtX7_surprise_0 18 rfl) (by decide) ?_
      refine g_iret (F := F) hQ (dk dtX7_surprise_0 19 rfl) ?_
      exact ⟨rfl, rfl, rfl⟩
    · -- not taken at 18
      exact absurd ⟨c10, c18⟩ hb
set_option maxRecDepth 100000 in
set_option maxHeartbeats 4000000 in
theorem k_X7_now_0 (l : Launch) (D : DX) (B : Nat) (T : Int64) (M : Mem) (h0 : M 0 0 = nI 0)  : Ci l D B 14 (celM D B) yX7_now cX7_now 2 (some .int) 3 [.ref (B + 0), .int (nI 0)] T M (fun rz T1 M1 => rz = (moR (M 5)) ∧ T1 = T ∧ M1 = M) := by
  refine g_entryi (L := [(0, .ref (B + 0)), (1, .int (nI 0))]) (by decide) (Nat.le_of_ble_eq_true rfl) rfl ?_
  intro zp ze zs zm zb zt zc Q F hQ
  refine g_aload_n F 0 (dk dtX7_now_0 0 rfl) rfl ?_
  refine g_iconst F (nI 0) (dk dtX7_now_0 1 rfl) (by decide) ?_
  refine g_put F fa_X7_56 (dk dtX7_now_0 2 rfl) (by decide) (cm0 D B _ _) (Nat.le_of_ble_eq_true rfl) rfl rfl (cm0 D B _ _) ?_
  refine g_mem (up2_same h0) ?_
  refine g_iload_n F 1 (dk dtX7_now_0 3 rfl) rfl ?_
  refine g_iconst F (nI 0) (dk dtX7_now_0 4 rfl) (by decide) ?_
  refine g_iconst F (nI 3) (dk dtX7_now_0 5 rfl) (by decide) ?_
  refine g_callSi F (As := [.int (nI 0), .int (nI 0), .int (nI 3)]) (st := []) cs_X7_60 (dk dtX7_now_0 6 rfl) rfl rfl (Nat.le_of_ble_eq_true rfl) ⟨by decide, by decide⟩ (k_X7_inR l D B _ _ _ 3 (by decide)) (fun r8 T8 M8 hp8 => ?_)
  obtain ⟨e1, e2, e3⟩ := hp8
  replace e1 := e1.symm; replace e2 := e2.symm; replace e3 := e3.symm; subst e1; subst e2; subst e3
  refine g_if_neB F 17 (dk dtX7_now_0 7 rfl) (by decide) (fun _ => ?_) (fun c => absurd (inR_nI (by omega)) c)
  refine g_iload_n F 1 (dk dtX7_now_0 10 rfl) rfl ?_
  refine g_if_neN F 31 (dk dtX7_now_0 11 rfl) (by decide) (by decide) (fun c => absurd c (by decide)) (fun _ => ?_)
  refine g_aload_n F 0 (dk dtX7_now_0 12 rfl) rfl ?_
  refine g_get F fa_X7_22 (dk dtX7_now_0 13 rfl) (by decide) (cm0 D B _ _) rfl ?_
  refine g_callSi F (As := [.ref (B + 5)]) (st := []) cs_X7_140 (dk dtX7_now_0 14 rfl) rfl rfl (Nat.le_of_ble_eq_true rfl) ⟨by decide, by decide⟩ (k_X7_mayorOf l D B _ _ 5 (isRow5 D B)) (fun r25 T25 M25 hp25 => ?_)
  obtain ⟨e1, e2, e3⟩ := hp25
  replace e1 := e1.symm; replace e2 := e2.symm; replace e3 := e3.symm; subst e1; subst e2; subst e3
  refine g_goto F 59 (dk dtX7_now_0 15 rfl) (by decide) ?_
  refine g_iret (F := F) hQ (dk dtX7_now_0 30 rfl) ?_
  exact ⟨rfl, rfl, rfl⟩
set_option maxRecDepth 100000 in
set_option maxHeartbeats 4000000 in
theorem k_X7_now_1 (l : Launch) (D : DX) (B : Nat) (T : Int64) (M : Mem) (h0 : M 0 0 = nI 0) (P : Nat) (hP : M 2 2 = nI P) (hP5 : P ≤ 5)  : Ci l D B 14 (celM D B) yX7_now cX7_now 2 (some .int) 3 [.ref (B + 0), .int (nI 1)] T M (fun rz T1 M1 => rz = (nSum (fun j => M 5 (25 + j)) P) ∧ T1 = T ∧ M1 = M) := by
  refine g_entryi (L := [(0, .ref (B + 0)), (1, .int (nI 1))]) (by decide) (Nat.le_of_ble_eq_true rfl) rfl ?_
  intro zp ze zs zm zb zt zc Q F hQ
  refine g_aload_n F 0 (dk dtX7_now_0 0 rfl) rfl ?_
  refine g_iconst F (nI 0) (dk dtX7_now_0 1 rfl) (by decide) ?_
  refine g_put F fa_X7_56 (dk dtX7_now_0 2 rfl) (by decide) (cm0 D B _ _) (Nat.le_of_ble_eq_true rfl) rfl rfl (cm0 D B _ _) ?_
  refine g_mem (up2_same h0) ?_
  refine g_iload_n F 1 (dk dtX7_now_0 3 rfl) rfl ?_
  refine g_iconst F (nI 0) (dk dtX7_now_0 4 rfl) (by decide) ?_
  refine g_iconst F (nI 3) (dk dtX7_now_0 5 rfl) (by decide) ?_
  refine g_callSi F (As := [.int (nI 1), .int (nI 0), .int (nI 3)]) (st := []) cs_X7_60 (dk dtX7_now_0 6 rfl) rfl rfl (Nat.le_of_ble_eq_true rfl) ⟨by decide, by decide⟩ (k_X7_inR l D B _ _ _ 3 (by decide)) (fun r8 T8 M8 hp8 => ?_)
  obtain ⟨e1, e2, e3⟩ := hp8
  replace e1 := e1.symm; replace e2 := e2.symm; replace e3 := e3.symm; subst e1; subst e2; subst e3
  refine g_if_neB F 17 (dk dtX7_now_0 7 rfl) (by decide) (fun _ => ?_) (fun c => absurd (inR_nI (by omega)) c)
  refine g_iload_n F 1 (dk dtX7_now_0 10 rfl) rfl ?_
  refine g_if_neN F 31 (dk dtX7_now_0 11 rfl) (by decide) (by decide) (fun _ => ?_) (fun c => absurd c (by decide))
  refine g_iload_n F 1 (dk dtX7_now_0 16 rfl) rfl ?_
  refine g_iconst F (nI 1) (dk dtX7_now_0 17 rfl) (by decide) ?_
  refine g_icmp_neN F 43 (dk dtX7_now_0 18 rfl) (by decide) (by decide) (by decide) (fun c => absurd c (by decide)) (fun _ => ?_)
  refine g_aload_n F 0 (dk dtX7_now_0 19 rfl) rfl ?_
  refine g_callVi F (As := []) (st := []) cv_X7_144 (dk dtX7_now_0 20 rfl) (by decide) (cm0 D B _ _) rfl rfl (Nat.le_of_ble_eq_true rfl) ⟨by decide, by decide⟩ (k_X7_allTerms l D B _ _ P hP hP5) (fun r37 T37 M37 hp37 => ?_)
  obtain ⟨e1, e2, e3⟩ := hp37
  replace e1 := e1.symm; replace e2 := e2.symm; replace e3 := e3.symm; subst e1; subst e2; subst e3
  refine g_goto F 59 (dk dtX7_now_0 21 rfl) (by decide) ?_
  refine g_iret (F := F) hQ (dk dtX7_now_0 30 rfl) ?_
  exact ⟨rfl, rfl, rfl⟩
set_option maxRecDepth 100000 in
set_option maxHeartbeats 4000000 in
theorem k_X7_now_2 (l : Launch) (D : DX) (B : Nat) (T : Int64) (M : Mem) (h0 : M 0 0 = nI 0) (P : Nat) (hP : M 2 2 = nI P) (hP5 : P ≤ 5) (K : Nat) (hK : M 2 0 = nI K) (hK1 : 1 ≤ K) (hK4 : K ≤ 4) (hW : WR (M 5)) : Ci l D B 14 (celM D B) yX7_now cX7_now 2 (some .int) 3 [.ref (B + 0), .int (nI 2)] T M (fun rz T1 M1 => rz = (msR (M 2 0) (M 5) K P) ∧ T1 = T ∧ M1 = M) := by
  refine g_entryi (L := [(0, .ref (B + 0)), (1, .int (nI 2))]) (by decide) (Nat.le_of_ble_eq_true rfl) rfl ?_
  intro zp ze zs zm zb zt zc Q F hQ
  refine g_aload_n F 0 (dk dtX7_now_0 0 rfl) rfl ?_
  refine g_iconst F (nI 0) (dk dtX7_now_0 1 rfl) (by decide) ?_
  refine g_put F fa_X7_56 (dk dtX7_now_0 2 rfl) (by decide) (cm0 D B _ _) (Nat.le_of_ble_eq_true rfl) rfl rfl (cm0 D B _ _) ?_
  refine g_mem (up2_same h0) ?_
  refine g_iload_n F 1 (dk dtX7_now_0 3 rfl) rfl ?_
  refine g_iconst F (nI 0) (dk dtX7_now_0 4 rfl) (by decide) ?_
  refine g_iconst F (nI 3) (dk dtX7_now_0 5 rfl) (by decide) ?_
  refine g_callSi F (As := [.int (nI 2), .int (nI 0), .int (nI 3)]) (st := []) cs_X7_60 (dk dtX7_now_0 6 rfl) rfl rfl (Nat.le_of_ble_eq_true rfl) ⟨by decide, by decide⟩ (k_X7_inR l D B _ _ _ 3 (by decide)) (fun r8 T8 M8 hp8 => ?_)
  obtain ⟨e1, e2, e3⟩ := hp8
  replace e1 := e1.symm; replace e2 := e2.symm; replace e3 := e3.symm; subst e1; subst e2; subst e3
  refine g_if_neB F 17 (dk dtX7_now_0 7 rfl) (by decide) (fun _ => ?_) (fun c => absurd (inR_nI (by omega)) c)
  refine g_iload_n F 1 (dk dtX7_now_0 10 rfl) rfl ?_
  refine g_if_neN F 31 (dk dtX7_now_0 11 rfl) (by decide) (by decide) (fun _ => ?_) (fun c => absurd c (by decide))
  refine g_iload_n F 1 (dk dtX7_now_0 16 rfl) rfl ?_
  refine g_iconst F (nI 1) (dk dtX7_now_0 17 rfl) (by decide) ?_
  refine g_icmp_neN F 43 (dk dtX7_now_0 18 rfl) (by decide) (by decide) (by decide) (fun _ => ?_) (fun c => absurd c (by decide))
  refine g_iload_n F 1 (dk dtX7_now_0 22 rfl) rfl ?_
  refine g_iconst F (nI 2) (dk dtX7_now_0 23 rfl) (by decide) ?_
  refine g_icmp_neN F 55 (dk dtX7_now_0 24 rfl) (by decide) (by decide) (by decide) (fun c => absurd c (by decide)) (fun _ => ?_)
  refine g_aload_n F 0 (dk dtX7_now_0 25 rfl) rfl ?_
  refine g_callVi F (As := []) (st := []) cv_X7_148 (dk dtX7_now_0 26 rfl) (by decide) (cm0 D B _ _) rfl rfl (Nat.le_of_ble_eq_true rfl) ⟨by decide, by decide⟩ (k_X7_mostSurprise l D B _ _ K P hK hP hK1 hK4 hP5 hW) (fun r49 T49 M49 hp49 => ?_)
  obtain ⟨e1, e2, e3⟩ := hp49
  replace e1 := e1.symm; replace e2 := e2.symm; replace e3 := e3.symm; subst e1; subst e2; subst e3
  refine g_goto F 59 (dk dtX7_now_0 27 rfl) (by decide) ?_
  refine g_iret (F := F) hQ (dk dtX7_now_0 30 rfl) ?_
  exact ⟨rfl, rfl, rfl⟩
set_option maxRecDepth 100000 in
set_option maxHeartbeats 4000000 in
theorem k_X7_now_3 (l : Launch) (D : DX) (B : Nat) (T : Int64) (M : Mem) (h0 : M 0 0 = nI 0)  : Ci l D B 14 (celM D B) yX7_now cX7_now 2 (some .int) 3 [.ref (B + 0), .int (nI 3)] T M (fun rz T1 M1 => rz = (M 0 18) ∧ T1 = T ∧ M1 = M) := by
  refine g_entryi (L := [(0, .ref (B + 0)), (1, .int (nI 3))]) (by decide) (Nat.le_of_ble_eq_true rfl) rfl ?_
  intro zp ze zs zm zb zt zc Q F hQ
  refine g_aload_n F 0 (dk dtX7_now_0 0 rfl) rfl ?_
  refine g_iconst F (nI 0) (dk dtX7_now_0 1 rfl) (by decide) ?_
  refine g_put F fa_X7_56 (dk dtX7_now_0 2 rfl) (by decide) (cm0 D B _ _) (Nat.le_of_ble_eq_true rfl) rfl rfl (cm0 D B _ _) ?_
  refine g_mem (up2_same h0) ?_
  refine g_iload_n F 1 (dk dtX7_now_0 3 rfl) rfl ?_
  refine g_iconst F (nI 0) (dk dtX7_now_0 4 rfl) (by decide) ?_
  refine g_iconst F (nI 3) (dk dtX7_now_0 5 rfl) (by decide) ?_
  refine g_callSi F (As := [.int (nI 3), .int (nI 0), .int (nI 3)]) (st := []) cs_X7_60 (dk dtX7_now_0 6 rfl) rfl rfl (Nat.le_of_ble_eq_true rfl) ⟨by decide, by decide⟩ (k_X7_inR l D B _ _ _ 3 (by decide)) (fun r8 T8 M8 hp8 => ?_)
  obtain ⟨e1, e2, e3⟩ := hp8
  replace e1 := e1.symm; replace e2 := e2.symm; replace e3 := e3.symm; subst e1; subst e2; subst e3
  refine g_if_neB F 17 (dk dtX7_now_0 7 rfl) (by decide) (fun _ => ?_) (fun c => absurd (inR_nI (by omega)) c)
  refine g_iload_n F 1 (dk dtX7_now_0 10 rfl) rfl ?_
  refine g_if_neN F 31 (dk dtX7_now_0 11 rfl) (by decide) (by decide) (fun _ => ?_) (fun c => absurd c (by decide))
  refine g_iload_n F 1 (dk dtX7_now_0 16 rfl) rfl ?_
  refine g_iconst F (nI 1) (dk dtX7_now_0 17 rfl) (by decide) ?_
  refine g_icmp_neN F 43 (dk dtX7_now_0 18 rfl) (by decide) (by decide) (by decide) (fun _ => ?_) (fun c => absurd c (by decide))
  refine g_iload_n F 1 (dk dtX7_now_0 22 rfl) rfl ?_
  refine g_iconst F (nI 2) (dk dtX7_now_0 23 rfl) (by decide) ?_
  refine g_icmp_neN F 55 (dk dtX7_now_0 24 rfl) (by decide) (by decide) (by decide) (fun _ => ?_) (fun c => absurd c (by decide))
  refine g_aload_n F 0 (dk dtX7_now_0 28 rfl) rfl ?_
  refine g_get F fa_X7_122 (dk dtX7_now_0 29 rfl) (by decide) (cm0 D B _ _) rfl ?_
  refine g_iret (F := F) hQ (dk dtX7_now_0 30 rfl) ?_
  exact ⟨rfl, rfl, rfl⟩
set_option maxRecDepth 100000 in
set_option maxHeartbeats 4000000 in
theorem k_X7_now_bad (l : Launch) (D : DX) (B : Nat) (T : Int64) (M : Mem) (h0 : M 0 0 = nI 0) (w : Int32) (hb : ¬ inR w 4) : Ci l D B 14 (celM D B) yX7_now cX7_now 2 (some .int) 3 [.ref (B + 0), .int w] T M (fun rz T1 M1 => rz = (-1000000) ∧ T1 = T ∧ M1 = M) := by
  refine g_entryi (L := [(0, .ref (B + 0)), (1, .int w)]) (by decide) (Nat.le_of_ble_eq_true rfl) rfl ?_
  intro zp ze zs zm zb zt zc Q F hQ
  refine g_aload_n F 0 (dk dtX7_now_0 0 rfl) rfl ?_
  refine g_iconst F (nI 0) (dk dtX7_now_0 1 rfl) (by decide) ?_
  refine g_put F fa_X7_56 (dk dtX7_now_0 2 rfl) (by decide) (cm0 D B _ _) (Nat.le_of_ble_eq_true rfl) rfl rfl (cm0 D B _ _) ?_
  refine g_mem (up2_same h0) ?_
  refine g_iload_n F 1 (dk dtX7_now_0 3 rfl) rfl ?_
  refine g_iconst F (nI 0) (dk dtX7_now_0 4 rfl) (by decide) ?_
  refine g_iconst F (nI 3) (dk dtX7_now_0 5 rfl) (by decide) ?_
  refine g_callSi F (As := [.int w, .int (nI 0), .int (nI 3)]) (st := []) cs_X7_60 (dk dtX7_now_0 6 rfl) rfl rfl (Nat.le_of_ble_eq_true rfl) ⟨by decide, by decide⟩ (k_X7_inR l D B _ _ _ 3 (by decide)) (fun r8 T8 M8 hp8 => ?_)
  obtain ⟨e1, e2, e3⟩ := hp8
  replace e1 := e1.symm; replace e2 := e2.symm; replace e3 := e3.symm; subst e1; subst e2; subst e3
  refine g_if_neB F 17 (dk dtX7_now_0 7 rfl) (by decide) (fun c11 => ?_) (fun c11 => ?_)
  · -- taken at 11
    exact absurd c11 hb
  · -- not taken at 11
    refine g_ldc F (dk dtX7_now_0 8 rfl) (tw4 10 rfl) ?_
    refine g_iret (F := F) hQ (dk dtX7_now_0 9 rfl) ?_
    exact ⟨rfl, rfl, rfl⟩
set_option maxRecDepth 100000 in
set_option maxHeartbeats 4000000 in
theorem k_X7_count_0 (l : Launch) (D : DX) (B : Nat) (T : Int64) (M : Mem) (h0 : M 0 0 = nI 0)  : Ci l D B 14 (celM D B) yX7_count cX7_count 2 (some .int) 1 [.ref (B + 0), .int (nI 0)] T M (fun rz T1 M1 => rz = (M 2 0) ∧ T1 = T ∧ M1 = M) := by
  refine g_entryi (L := [(0, .ref (B + 0)), (1, .int (nI 0))]) (by decide) (Nat.le_of_ble_eq_true rfl) rfl ?_
  intro zp ze zs zm zb zt zc Q F hQ
  refine g_aload_n F 0 (dk dtX7_count_0 0 rfl) rfl ?_
  refine g_iconst F (nI 0) (dk dtX7_count_0 1 rfl) (by decide) ?_
  refine g_put F fa_X7_56 (dk dtX7_count_0 2 rfl) (by decide) (cm0 D B _ _) (Nat.le_of_ble_eq_true rfl) rfl rfl (cm0 D B _ _) ?_
  refine g_mem (up2_same h0) ?_
  refine g_iload_n F 1 (dk dtX7_count_0 3 rfl) rfl ?_
  refine g_iconst F (nI 0) (dk dtX7_count_0 4 rfl) (by decide) ?_
  refine g_iconst F (nI 2) (dk dtX7_count_0 5 rfl) (by decide) ?_
  refine g_callSi F (As := [.int (nI 0), .int (nI 0), .int (nI 2)]) (st := []) cs_X7_60 (dk dtX7_count_0 6 rfl) rfl rfl (Nat.le_of_ble_eq_true rfl) ⟨by decide, by decide⟩ (k_X7_inR l D B _ _ _ 2 (by decide)) (fun r8 T8 M8 hp8 => ?_)
  obtain ⟨e1, e2, e3⟩ := hp8
  replace e1 := e1.symm; replace e2 := e2.symm; replace e3 := e3.symm; subst e1; subst e2; subst e3
  refine g_if_eqB F 23 (dk dtX7_count_0 7 rfl) (by decide) (fun c => absurd (inR_nI (by omega)) c) (fun _ => ?_)
  refine g_aload_n F 0 (dk dtX7_count_0 8 rfl) rfl ?_
  refine g_get F fa_X7_13 (dk dtX7_count_0 9 rfl) (by decide) (cm0 D B _ _) rfl ?_
  refine g_iload_n F 1 (dk dtX7_count_0 10 rfl) rfl ?_
  refine g_iald F (0) (dk dtX7_count_0 11 rfl) (by decide) (cm2 D B _ _) (by omega) (by decide) ?_
  refine g_goto F 48 (dk dtX7_count_0 12 rfl) (by decide) ?_
  refine g_iret (F := F) hQ (dk dtX7_count_0 26 rfl) ?_
  exact ⟨rfl, rfl, rfl⟩
set_option maxRecDepth 100000 in
set_option maxHeartbeats 4000000 in
theorem k_X7_count_1 (l : Launch) (D : DX) (B : Nat) (T : Int64) (M : Mem) (h0 : M 0 0 = nI 0)  : Ci l D B 14 (celM D B) yX7_count cX7_count 2 (some .int) 1 [.ref (B + 0), .int (nI 1)] T M (fun rz T1 M1 => rz = (M 2 1) ∧ T1 = T ∧ M1 = M) := by
  refine g_entryi (L := [(0, .ref (B + 0)), (1, .int (nI 1))]) (by decide) (Nat.le_of_ble_eq_true rfl) rfl ?_
  intro zp ze zs zm zb zt zc Q F hQ
  refine g_aload_n F 0 (dk dtX7_count_0 0 rfl) rfl ?_
  refine g_iconst F (nI 0) (dk dtX7_count_0 1 rfl) (by decide) ?_
  refine g_put F fa_X7_56 (dk dtX7_count_0 2 rfl) (by decide) (cm0 D B _ _) (Nat.le_of_ble_eq_true rfl) rfl rfl (cm0 D B _ _) ?_
  refine g_mem (up2_same h0) ?_
  refine g_iload_n F 1 (dk dtX7_count_0 3 rfl) rfl ?_
  refine g_iconst F (nI 0) (dk dtX7_count_0 4 rfl) (by decide) ?_
  refine g_iconst F (nI 2) (dk dtX7_count_0 5 rfl) (by decide) ?_
  refine g_callSi F (As := [.int (nI 1), .int (nI 0), .int (nI 2)]) (st := []) cs_X7_60 (dk dtX7_count_0 6 rfl) rfl rfl (Nat.le_of_ble_eq_true rfl) ⟨by decide, by decide⟩ (k_X7_inR l D B _ _ _ 2 (by decide)) (fun r8 T8 M8 hp8 => ?_)
  obtain ⟨e1, e2, e3⟩ := hp8
  replace e1 := e1.symm; replace e2 := e2.symm; replace e3 := e3.symm; subst e1; subst e2; subst e3
  refine g_if_eqB F 23 (dk dtX7_count_0 7 rfl) (by decide) (fun c => absurd (inR_nI (by omega)) c) (fun _ => ?_)
  refine g_aload_n F 0 (dk dtX7_count_0 8 rfl) rfl ?_
  refine g_get F fa_X7_13 (dk dtX7_count_0 9 rfl) (by decide) (cm0 D B _ _) rfl ?_
  refine g_iload_n F 1 (dk dtX7_count_0 10 rfl) rfl ?_
  refine g_iald F (1) (dk dtX7_count_0 11 rfl) (by decide) (cm2 D B _ _) (by omega) (by decide) ?_
  refine g_goto F 48 (dk dtX7_count_0 12 rfl) (by decide) ?_
  refine g_iret (F := F) hQ (dk dtX7_count_0 26 rfl) ?_
  exact ⟨rfl, rfl, rfl⟩
set_option maxRecDepth 100000 in
set_option maxHeartbeats 4000000 in
theorem k_X7_count_2 (l : Launch) (D : DX) (B : Nat) (T : Int64) (M : Mem) (h0 : M 0 0 = nI 0)  : Ci l D B 14 (celM D B) yX7_count cX7_count 2 (some .int) 1 [.ref (B + 0), .int (nI 2)] T M (fun rz T1 M1 => rz = (M 2 2) ∧ T1 = T ∧ M1 = M) := by
  refine g_entryi (L := [(0, .ref (B + 0)), (1, .int (nI 2))]) (by decide) (Nat.le_of_ble_eq_true rfl) rfl ?_
  intro zp ze zs zm zb zt zc Q F hQ
  refine g_aload_n F 0 (dk dtX7_count_0 0 rfl) rfl ?_
  refine g_iconst F (nI 0) (dk dtX7_count_0 1 rfl) (by decide) ?_
  refine g_put F fa_X7_56 (dk dtX7_count_0 2 rfl) (by decide) (cm0 D B _ _) (Nat.le_of_ble_eq_true rfl) rfl rfl (cm0 D B _ _) ?_
  refine g_mem (up2_same h0) ?_
  refine g_iload_n F 1 (dk dtX7_count_0 3 rfl) rfl ?_
  refine g_iconst F (nI 0) (dk dtX7_count_0 4 rfl) (by decide) ?_
  refine g_iconst F (nI 2) (dk dtX7_count_0 5 rfl) (by decide) ?_
  refine g_callSi F (As := [.int (nI 2), .int (nI 0), .int (nI 2)]) (st := []) cs_X7_60 (dk dtX7_count_0 6 rfl) rfl rfl (Nat.le_of_ble_eq_true rfl) ⟨by decide, by decide⟩ (k_X7_inR l D B _ _ _ 2 (by decide)) (fun r8 T8 M8 hp8 => ?_)
  obtain ⟨e1, e2, e3⟩ := hp8
  replace e1 := e1.symm; replace e2 := e2.symm; replace e3 := e3.symm; subst e1; subst e2; subst e3
  refine g_if_eqB F 23 (dk dtX7_count_0 7 rfl) (by decide) (fun c => absurd (inR_nI (by omega)) c) (fun _ => ?_)
  refine g_aload_n F 0 (dk dtX7_count_0 8 rfl) rfl ?_
  refine g_get F fa_X7_13 (dk dtX7_count_0 9 rfl) (by decide) (cm0 D B _ _) rfl ?_
  refine g_iload_n F 1 (dk dtX7_count_0 10 rfl) rfl ?_
  refine g_iald F (2) (dk dtX7_count_0 11 rfl) (by decide) (cm2 D B _ _) (by omega) (by decide) ?_
  refine g_goto F 48 (dk dtX7_count_0 12 rfl) (by decide) ?_
  refine g_iret (F := F) hQ (dk dtX7_count_0 26 rfl) ?_
  exact ⟨rfl, rfl, rfl⟩
set_option maxRecDepth 100000 in
set_option maxHeartbeats 4000000 in
theorem k_X7_count_3 (l : Launch) (D : DX) (B : Nat) (T : Int64) (M : Mem) (h0 : M 0 0 = nI 0)  : Ci l D B 14 (celM D B) yX7_count cX7_count 2 (some .int) 1 [.ref (B + 0), .int (nI 3)] T M (fun rz T1 M1 => rz = (M 0 22) ∧ T1 = T ∧ M1 = M) := by
  refine g_entryi (L := [(0, .ref (B + 0)), (1, .int (nI 3))]) (by decide) (Nat.le_of_ble_eq_true rfl) rfl ?_
  intro zp ze zs zm zb zt zc Q F hQ
  refine g_aload_n F 0 (dk dtX7_count_0 0 rfl) rfl ?_
  refine g_iconst F (nI 0) (dk dtX7_count_0 1 rfl) (by decide) ?_
  refine g_put F fa_X7_56 (dk dtX7_count_0 2 rfl) (by decide) (cm0 D B _ _) (Nat.le_of_ble_eq_true rfl) rfl rfl (cm0 D B _ _) ?_
  refine g_mem (up2_same h0) ?_
  refine g_iload_n F 1 (dk dtX7_count_0 3 rfl) rfl ?_
  refine g_iconst F (nI 0) (dk dtX7_count_0 4 rfl) (by decide) ?_
  refine g_iconst F (nI 2) (dk dtX7_count_0 5 rfl) (by decide) ?_
  refine g_callSi F (As := [.int (nI 3), .int (nI 0), .int (nI 2)]) (st := []) cs_X7_60 (dk dtX7_count_0 6 rfl) rfl rfl (Nat.le_of_ble_eq_true rfl) ⟨by decide, by decide⟩ (k_X7_inR l D B _ _ _ 2 (by decide)) (fun r8 T8 M8 hp8 => ?_)
  obtain ⟨e1, e2, e3⟩ := hp8
  replace e1 := e1.symm; replace e2 := e2.symm; replace e3 := e3.symm; subst e1; subst e2; subst e3
  refine g_if_eqB F 23 (dk dtX7_count_0 7 rfl) (by decide) (fun c11 => ?_) (fun c11 => ?_)
  · -- taken at 11
    refine g_iload_n F 1 (dk dtX7_count_0 13 rfl) rfl ?_
    refine g_iconst F (nI 3) (dk dtX7_count_0 14 rfl) (by decide) ?_
    refine g_icmp_neN F 35 (dk dtX7_count_0 15 rfl) (by decide) (by decide) (by decide) (fun c => absurd c (by decide)) (fun _ => ?_)
    refine g_aload_n F 0 (dk dtX7_count_0 16 rfl) rfl ?_
    refine g_get F fa_X7_119 (dk dtX7_count_0 17 rfl) (by decide) (cm0 D B _ _) rfl ?_
    refine g_goto F 48 (dk dtX7_count_0 18 rfl) (by decide) ?_
    refine g_iret (F := F) hQ (dk dtX7_count_0 26 rfl) ?_
    exact ⟨rfl, rfl, rfl⟩
  · -- not taken at 11
    exact absurd c11 (by decide)
set_option maxRecDepth 100000 in
set_option maxHeartbeats 4000000 in
theorem k_X7_count_4 (l : Launch) (D : DX) (B : Nat) (T : Int64) (M : Mem) (h0 : M 0 0 = nI 0)  : Ci l D B 14 (celM D B) yX7_count cX7_count 2 (some .int) 1 [.ref (B + 0), .int (nI 4)] T M (fun rz T1 M1 => rz = (M 0 3) ∧ T1 = T ∧ M1 = M) := by
  refine g_entryi (L := [(0, .ref (B + 0)), (1, .int (nI 4))]) (by decide) (Nat.le_of_ble_eq_true rfl) rfl ?_
  intro zp ze zs zm zb zt zc Q F hQ
  refine g_aload_n F 0 (dk dtX7_count_0 0 rfl) rfl ?_
  refine g_iconst F (nI 0) (dk dtX7_count_0 1 rfl) (by decide) ?_
  refine g_put F fa_X7_56 (dk dtX7_count_0 2 rfl) (by decide) (cm0 D B _ _) (Nat.le_of_ble_eq_true rfl) rfl rfl (cm0 D B _ _) ?_
  refine g_mem (up2_same h0) ?_
  refine g_iload_n F 1 (dk dtX7_count_0 3 rfl) rfl ?_
  refine g_iconst F (nI 0) (dk dtX7_count_0 4 rfl) (by decide) ?_
  refine g_iconst F (nI 2) (dk dtX7_count_0 5 rfl) (by decide) ?_
  refine g_callSi F (As := [.int (nI 4), .int (nI 0), .int (nI 2)]) (st := []) cs_X7_60 (dk dtX7_count_0 6 rfl) rfl rfl (Nat.le_of_ble_eq_true rfl) ⟨by decide, by decide⟩ (k_X7_inR l D B _ _ _ 2 (by decide)) (fun r8 T8 M8 hp8 => ?_)
  obtain ⟨e1, e2, e3⟩ := hp8
  replace e1 := e1.symm; replace e2 := e2.symm; replace e3 := e3.symm; subst e1; subst e2; subst e3
  refine g_if_eqB F 23 (dk dtX7_count_0 7 rfl) (by decide) (fun c11 => ?_) (fun c11 => ?_)
  · -- taken at 11
    refine g_iload_n F 1 (dk dtX7_count_0 13 rfl) rfl ?_
    refine g_iconst F (nI 3) (dk dtX7_count_0 14 rfl) (by decide) ?_
    refine g_icmp_neN F 35 (dk dtX7_count_0 15 rfl) (by decide) (by decide) (by decide) (fun _ => ?_) (fun c => absurd c (by decide))
    refine g_iload_n F 1 (dk dtX7_count_0 19 rfl) rfl ?_
    refine g_iconst F (nI 4) (dk dtX7_count_0 20 rfl) (by decide) ?_
    refine g_icmp_neN F 47 (dk dtX7_count_0 21 rfl) (by decide) (by decide) (by decide) (fun c => absurd c (by decide)) (fun _ => ?_)
    refine g_aload_n F 0 (dk dtX7_count_0 22 rfl) rfl ?_
    refine g_get F fa_X7_64 (dk dtX7_count_0 23 rfl) (by decide) (cm0 D B _ _) rfl ?_
    refine g_goto F 48 (dk dtX7_count_0 24 rfl) (by decide) ?_
    refine g_iret (F := F) hQ (dk dtX7_count_0 26 rfl) ?_
    exact ⟨rfl, rfl, rfl⟩
  · -- not taken at 11
    exact absurd c11 (by decide)
set_option maxRecDepth 100000 in
set_option maxHeartbeats 4000000 in
theorem k_X7_count_bad (l : Launch) (D : DX) (B : Nat) (T : Int64) (M : Mem) (h0 : M 0 0 = nI 0) (w : Int32) (hb : ¬ inR w 5) : Ci l D B 14 (celM D B) yX7_count cX7_count 2 (some .int) 1 [.ref (B + 0), .int w] T M (fun rz T1 M1 => rz = (-1) ∧ T1 = T ∧ M1 = M) := by
  refine g_entryi (L := [(0, .ref (B + 0)), (1, .int w)]) (by decide) (Nat.le_of_ble_eq_true rfl) rfl ?_
  intro zp ze zs zm zb zt zc Q F hQ
  refine g_aload_n F 0 (dk dtX7_count_0 0 rfl) rfl ?_
  refine g_iconst F (nI 0) (dk dtX7_count_0 1 rfl) (by decide) ?_
  refine g_put F fa_X7_56 (dk dtX7_count_0 2 rfl) (by decide) (cm0 D B _ _) (Nat.le_of_ble_eq_true rfl) rfl rfl (cm0 D B _ _) ?_
  refine g_mem (up2_same h0) ?_
  refine g_iload_n F 1 (dk dtX7_count_0 3 rfl) rfl ?_
  refine g_iconst F (nI 0) (dk dtX7_count_0 4 rfl) (by decide) ?_
  refine g_iconst F (nI 2) (dk dtX7_count_0 5 rfl) (by decide) ?_
  refine g_callSi F (As := [.int w, .int (nI 0), .int (nI 2)]) (st := []) cs_X7_60 (dk dtX7_count_0 6 rfl) rfl rfl (Nat.le_of_ble_eq_true rfl) ⟨by decide, by decide⟩ (k_X7_inR l D B _ _ _ 2 (by decide)) (fun r8 T8 M8 hp8 => ?_)
  obtain ⟨e1, e2, e3⟩ := hp8
  replace e1 := e1.symm; replace e2 := e2.symm; replace e3 := e3.symm; subst e1; subst e2; subst e3
  refine g_if_eqB F 23 (dk dtX7_count_0 7 rfl) (by decide) (fun c11 => ?_) (fun c11 => ?_)
  · -- taken at 11
    refine g_iload_n F 1 (dk dtX7_count_0 13 rfl) rfl ?_
    refine g_iconst F (nI 3) (dk dtX7_count_0 14 rfl) (by decide) ?_
    refine g_icmp_ne F 35 (dk dtX7_count_0 15 rfl) (by decide) (fun c25 => ?_) (fun c25 => ?_)
    · -- taken at 25
      refine g_iload_n F 1 (dk dtX7_count_0 19 rfl) rfl ?_
      refine g_iconst F (nI 4) (dk dtX7_count_0 20 rfl) (by decide) ?_
      refine g_icmp_ne F 47 (dk dtX7_count_0 21 rfl) (by decide) (fun c37 => ?_) (fun c37 => ?_)
      · -- taken at 37
        refine g_iconst F (-1) (dk dtX7_count_0 25 rfl) (by decide) ?_
        refine g_iret (F := F) hQ (dk dtX7_count_0 26 rfl) ?_
        exact ⟨rfl, rfl, rfl⟩
      · -- not taken at 37
        exact absurd (show inR w 5 by rw [c37]; decide) hb
    · -- not taken at 25
      exact absurd (show inR w 5 by rw [c25]; decide) hb
  · -- not taken at 11
    exact absurd ⟨c11.1, fun h => c11.2 (Int32.le_trans (by decide) h)⟩ hb
set_option maxRecDepth 100000 in
set_option maxHeartbeats 4000000 in
theorem k_X7_rate_0 (l : Launch) (D : DX) (B : Nat) (T : Int64) (M : Mem) (h0 : M 0 0 = nI 0) (P : Nat) (hP : M 2 2 = nI P) (hP5 : P ≤ 5) (p : Nat) (hp : p < P) : Ci l D B 14 (celM D B) yX7_rate cX7_rate 6 (some .int) 2 [.ref (B + 0), .int (nI 0), .int (nI p)] T M (fun r T1 M1 => r = M 3 p ∧ T1 = T + 1 ∧ M1 = M) := by
  refine g_entryi (L := [(0, .ref (B + 0)), (1, .int (nI 0)), (2, .int (nI p))]) (by decide) (Nat.le_of_ble_eq_true rfl) rfl ?_
  intro zp ze zs zm zb zt zc Q F hQ
  refine g_aload_n F 0 (dk dtX7_rate_0 0 rfl) rfl ?_
  refine g_iconst F (nI 0) (dk dtX7_rate_0 1 rfl) (by decide) ?_
  refine g_put F fa_X7_56 (dk dtX7_rate_0 2 rfl) (by decide) (cm0 D B _ _) (Nat.le_of_ble_eq_true rfl) rfl rfl (cm0 D B _ _) ?_
  refine g_mem (up2_same h0) ?_
  refine g_iload_n F 1 (dk dtX7_rate_0 3 rfl) rfl ?_
  refine g_iconst F (nI 0) (dk dtX7_rate_0 4 rfl) (by decide) ?_
  refine g_iconst F (nI 5) (dk dtX7_rate_0 5 rfl) (by decide) ?_
  refine g_callSi F (As := [.int (nI 0), .int (nI 0), .int (nI 5)]) (st := []) cs_X7_60 (dk dtX7_rate_0 6 rfl) rfl rfl (Nat.le_of_ble_eq_true rfl) ⟨by decide, by decide⟩ (k_X7_inR l D B _ _ _ 5 (by decide)) (fun r8 T8 M8 hp8 => ?_)
  obtain ⟨e1, e2, e3⟩ := hp8
  replace e1 := e1.symm; replace e2 := e2.symm; replace e3 := e3.symm; subst e1; subst e2; subst e3
  refine g_if_eqB F 22 (dk dtX7_rate_0 7 rfl) (by decide) (fun c => absurd (inR_nI (by omega)) c) (fun _ => ?_)
  refine g_aload_n F 0 (dk dtX7_rate_0 8 rfl) rfl ?_
  refine g_iload_n F 2 (dk dtX7_rate_0 9 rfl) rfl ?_
  refine g_callVi F (As := [.int (nI p)]) (st := []) cv_X7_129 (dk dtX7_rate_0 10 rfl) (by decide) (cm0 D B _ _) rfl rfl (Nat.le_of_ble_eq_true rfl) ⟨by decide, by decide⟩ (k_X7_isOne l D B _ _ _ P hP (by omega)) (fun r16 T16 M16 hp16 => ?_)
  obtain ⟨e1, e2, e3⟩ := hp16
  replace e1 := e1.symm; replace e2 := e2.symm; replace e3 := e3.symm; subst e1; subst e2; subst e3
  refine g_if_neB F 25 (dk dtX7_rate_0 11 rfl) (by decide) (fun _ => ?_) (fun c => absurd (inR_nI (by omega)) c)
  refine g_aload_n F 0 (dk dtX7_rate_0 14 rfl) rfl ?_
  refine g_get F fa_X7_16 (dk dtX7_rate_0 15 rfl) (by decide) (cm0 D B _ _) rfl ?_
  refine g_iload_n F 2 (dk dtX7_rate_0 16 rfl) rfl ?_
  refine g_iald F (p) (dk dtX7_rate_0 17 rfl) (by decide) (cm3 D B _ _) (by omega) (by decide) ?_
  refine g_istore_n F [(3, .int (M 3 p)), (0, .ref (B + 0)), (1, .int (nI 0)), (2, .int (nI p))] (dk dtX7_rate_0 18 rfl) (by decide) rfl ?_
  refine g_iload_n F 0 (dk dtX7_rate_0 19 rfl) rfl ?_
  refine g_aload_n F 1 (dk dtX7_rate_0 20 rfl) rfl ?_
  refine g_get F fa_X7_22 (dk dtX7_rate_0 21 rfl) (by decide) (cm0 D B _ _) rfl ?_
  refine g_bipush F (nI 25) (dk dtX7_rate_0 22 rfl) (by decide) ?_
  refine g_iload_n F 3 (dk dtX7_rate_0 23 rfl) rfl ?_
  refine g_iaddN F (dk dtX7_rate_0 24 rfl) ?_
  refine g_iald F (25 + p) (dk dtX7_rate_0 25 rfl) (by decide) (cm5 D B _ _) (by omega) (by decide) ?_
  refine g_iadd F (dk dtX7_rate_0 26 rfl) ?_
  refine g_istore F [(4, .int ((M 3 p) + (M 5 (25 + p)))), (3, .int (M 3 p)), (0, .ref (B + 0)), (1, .int (nI 0)), (2, .int (nI p))] (dk dtX7_rate_0 27 rfl) (by decide) rfl ?_
  refine g_iload_n F 1 (dk dtX7_rate_0 28 rfl) rfl ?_
  refine g_aload_n F 2 (dk dtX7_rate_0 29 rfl) rfl ?_
  refine g_aload_n F 2 (dk dtX7_rate_0 30 rfl) rfl ?_
  refine g_get F fa_X7_22 (dk dtX7_rate_0 31 rfl) (by decide) (cm0 D B _ _) rfl ?_
  refine g_iload_n F 4 (dk dtX7_rate_0 32 rfl) rfl ?_
  refine g_callVi F (As := [.ref (B + 5), .int (nI p)]) (st := [.int (M 3 p)]) cv_X7_125 (dk dtX7_rate_0 33 rfl) (by decide) (cm0 D B _ _) rfl rfl (Nat.le_of_ble_eq_true rfl) ⟨by decide, by decide⟩ (k_X7_allSeen l D B _ _ 5 (isRow5 D B) _ (by omega)) (fun r52 T52 M52 hp52 => ?_)
  obtain ⟨e1, e2, e3⟩ := hp52
  replace e1 := e1.symm; replace e2 := e2.symm; replace e3 := e3.symm; subst e1; subst e2; subst e3
  refine g_isub F (dk dtX7_rate_0 34 rfl) ?_
  refine g_istore F [(5, .int ((M 3 p) - (aS (M 5) p))), (4, .int ((M 3 p) + (M 5 (25 + p)))), (3, .int (M 3 p)), (0, .ref (B + 0)), (1, .int (nI 0)), (2, .int (nI p))] (dk dtX7_rate_0 35 rfl) (by decide) rfl ?_
  refine g_aload_n F 3 (dk dtX7_rate_0 36 rfl) rfl ?_
  refine g_dup F (dk dtX7_rate_0 37 rfl) rfl ?_
  refine g_get F fa_X7_183 (dk dtX7_rate_0 38 rfl) (by decide) (cm0 D B _ _) rfl ?_
  refine g_iload_n F 4 (dk dtX7_rate_0 39 rfl) rfl ?_
  refine g_if_neN F 71 (dk dtX7_rate_0 40 rfl) (by decide) (by decide) (fun c => absurd c (by decide)) (fun _ => ?_)
  refine g_lconst F 1 (dk dtX7_rate_0 41 rfl) (by decide) ?_
  refine g_goto F 118 (dk dtX7_rate_0 42 rfl) (by decide) ?_
  refine g_ladd F (dk dtX7_rate_1 4 rfl) ?_
  refine g_putG F (T1 := T + 1) (M 0) fa_X7_183 (dk dtX7_rate_1 5 rfl) (by decide) (cm0 D B _ _) (Nat.le_of_ble_eq_true rfl) rfl rfl (cm0 D B _ _) (fun i hi r => celM_T hi r) ?_
  refine g_mem (setR_same _ _) ?_
  refine g_iload_n F 4 (dk dtX7_rate_1 6 rfl) rfl ?_
  refine g_if_neN F 130 (dk dtX7_rate_1 7 rfl) (by decide) (by decide) (fun c => absurd c (by decide)) (fun _ => ?_)
  refine g_iload_n F 2 (dk dtX7_rate_1 8 rfl) rfl ?_
  refine g_goto F 184 (dk dtX7_rate_1 9 rfl) (by decide) ?_
  refine g_iret (F := F) hQ (dk dtX7_rate_1 42 rfl) ?_
  exact ⟨rfl, rfl, rfl⟩
set_option maxRecDepth 100000 in
set_option maxHeartbeats 4000000 in
theorem k_X7_rate_1 (l : Launch) (D : DX) (B : Nat) (T : Int64) (M : Mem) (h0 : M 0 0 = nI 0) (P : Nat) (hP : M 2 2 = nI P) (hP5 : P ≤ 5) (p : Nat) (hp : p < P) : Ci l D B 14 (celM D B) yX7_rate cX7_rate 6 (some .int) 2 [.ref (B + 0), .int (nI 1), .int (nI p)] T M (fun r T1 M1 => r = M 3 p + M 5 (25 + p) ∧ T1 = T + 11 ∧ M1 = M) := by
  refine g_entryi (L := [(0, .ref (B + 0)), (1, .int (nI 1)), (2, .int (nI p))]) (by decide) (Nat.le_of_ble_eq_true rfl) rfl ?_
  intro zp ze zs zm zb zt zc Q F hQ
  refine g_aload_n F 0 (dk dtX7_rate_0 0 rfl) rfl ?_
  refine g_iconst F (nI 0) (dk dtX7_rate_0 1 rfl) (by decide) ?_
  refine g_put F fa_X7_56 (dk dtX7_rate_0 2 rfl) (by decide) (cm0 D B _ _) (Nat.le_of_ble_eq_true rfl) rfl rfl (cm0 D B _ _) ?_
  refine g_mem (up2_same h0) ?_
  refine g_iload_n F 1 (dk dtX7_rate_0 3 rfl) rfl ?_
  refine g_iconst F (nI 0) (dk dtX7_rate_0 4 rfl) (by decide) ?_
  refine g_iconst F (nI 5) (dk dtX7_rate_0 5 rfl) (by decide) ?_
  refine g_callSi F (As := [.int (nI 1), .int (nI 0), .int (nI 5)]) (st := []) cs_X7_60 (dk dtX7_rate_0 6 rfl) rfl rfl (Nat.le_of_ble_eq_true rfl) ⟨by decide, by decide⟩ (k_X7_inR l D B _ _ _ 5 (by decide)) (fun r8 T8 M8 hp8 => ?_)
  obtain ⟨e1, e2, e3⟩ := hp8
  replace e1 := e1.symm; replace e2 := e2.symm; replace e3 := e3.symm; subst e1; subst e2; subst e3
  refine g_if_eqB F 22 (dk dtX7_rate_0 7 rfl) (by decide) (fun c => absurd (inR_nI (by omega)) c) (fun _ => ?_)
  refine g_aload_n F 0 (dk dtX7_rate_0 8 rfl) rfl ?_
  refine g_iload_n F 2 (dk dtX7_rate_0 9 rfl) rfl ?_
  refine g_callVi F (As := [.int (nI p)]) (st := []) cv_X7_129 (dk dtX7_rate_0 10 rfl) (by decide) (cm0 D B _ _) rfl rfl (Nat.le_of_ble_eq_true rfl) ⟨by decide, by decide⟩ (k_X7_isOne l D B _ _ _ P hP (by omega)) (fun r16 T16 M16 hp16 => ?_)
  obtain ⟨e1, e2, e3⟩ := hp16
  replace e1 := e1.symm; replace e2 := e2.symm; replace e3 := e3.symm; subst e1; subst e2; subst e3
  refine g_if_neB F 25 (dk dtX7_rate_0 11 rfl) (by decide) (fun _ => ?_) (fun c => absurd (inR_nI (by omega)) c)
  refine g_aload_n F 0 (dk dtX7_rate_0 14 rfl) rfl ?_
  refine g_get F fa_X7_16 (dk dtX7_rate_0 15 rfl) (by decide) (cm0 D B _ _) rfl ?_
  refine g_iload_n F 2 (dk dtX7_rate_0 16 rfl) rfl ?_
  refine g_iald F (p) (dk dtX7_rate_0 17 rfl) (by decide) (cm3 D B _ _) (by omega) (by decide) ?_
  refine g_istore_n F [(3, .int (M 3 p)), (0, .ref (B + 0)), (1, .int (nI 1)), (2, .int (nI p))] (dk dtX7_rate_0 18 rfl) (by decide) rfl ?_
  refine g_iload_n F 0 (dk dtX7_rate_0 19 rfl) rfl ?_
  refine g_aload_n F 1 (dk dtX7_rate_0 20 rfl) rfl ?_
  refine g_get F fa_X7_22 (dk dtX7_rate_0 21 rfl) (by decide) (cm0 D B _ _) rfl ?_
  refine g_bipush F (nI 25) (dk dtX7_rate_0 22 rfl) (by decide) ?_
  refine g_iload_n F 3 (dk dtX7_rate_0 23 rfl) rfl ?_
  refine g_iaddN F (dk dtX7_rate_0 24 rfl) ?_
  refine g_iald F (25 + p) (dk dtX7_rate_0 25 rfl) (by decide) (cm5 D B _ _) (by omega) (by decide) ?_
  refine g_iadd F (dk dtX7_rate_0 26 rfl) ?_
  refine g_istore F [(4, .int ((M 3 p) + (M 5 (25 + p)))), (3, .int (M 3 p)), (0, .ref (B + 0)), (1, .int (nI 1)), (2, .int (nI p))] (dk dtX7_rate_0 27 rfl) (by decide) rfl ?_
  refine g_iload_n F 1 (dk dtX7_rate_0 28 rfl) rfl ?_
  refine g_aload_n F 2 (dk dtX7_rate_0 29 rfl) rfl ?_
  refine g_aload_n F 2 (dk dtX7_rate_0 30 rfl) rfl ?_
  refine g_get F fa_X7_22 (dk dtX7_rate_0 31 rfl) (by decide) (cm0 D B _ _) rfl ?_
  refine g_iload_n F 4 (dk dtX7_rate_0 32 rfl) rfl ?_
  refine g_callVi F (As := [.ref (B + 5), .int (nI p)]) (st := [.int (M 3 p)]) cv_X7_125 (dk dtX7_rate_0 33 rfl) (by decide) (cm0 D B _ _) rfl rfl (Nat.le_of_ble_eq_true rfl) ⟨by decide, by decide⟩ (k_X7_allSeen l D B _ _ 5 (isRow5 D B) _ (by omega)) (fun r52 T52 M52 hp52 => ?_)
  obtain ⟨e1, e2, e3⟩ := hp52
  replace e1 := e1.symm; replace e2 := e2.symm; replace e3 := e3.symm; subst e1; subst e2; subst e3
  refine g_isub F (dk dtX7_rate_0 34 rfl) ?_
  refine g_istore F [(5, .int ((M 3 p) - (aS (M 5) p))), (4, .int ((M 3 p) + (M 5 (25 + p)))), (3, .int (M 3 p)), (0, .ref (B + 0)), (1, .int (nI 1)), (2, .int (nI p))] (dk dtX7_rate_0 35 rfl) (by decide) rfl ?_
  refine g_aload_n F 3 (dk dtX7_rate_0 36 rfl) rfl ?_
  refine g_dup F (dk dtX7_rate_0 37 rfl) rfl ?_
  refine g_get F fa_X7_183 (dk dtX7_rate_0 38 rfl) (by decide) (cm0 D B _ _) rfl ?_
  refine g_iload_n F 4 (dk dtX7_rate_0 39 rfl) rfl ?_
  refine g_if_neN F 71 (dk dtX7_rate_0 40 rfl) (by decide) (by decide) (fun _ => ?_) (fun c => absurd c (by decide))
  refine g_iload_n F 4 (dk dtX7_rate_0 43 rfl) rfl ?_
  refine g_iconst F (nI 1) (dk dtX7_rate_0 44 rfl) (by decide) ?_
  refine g_icmp_neN F 82 (dk dtX7_rate_0 45 rfl) (by decide) (by decide) (by decide) (fun c => absurd c (by decide)) (fun _ => ?_)
  refine g_ldc2 F (dk dtX7_rate_0 46 rfl) (tw4 120 rfl) ?_
  refine g_goto F 118 (dk dtX7_rate_0 47 rfl) (by decide) ?_
  refine g_ladd F (dk dtX7_rate_1 4 rfl) ?_
  refine g_putG F (T1 := T + 11) (M 0) fa_X7_183 (dk dtX7_rate_1 5 rfl) (by decide) (cm0 D B _ _) (Nat.le_of_ble_eq_true rfl) rfl rfl (cm0 D B _ _) (fun i hi r => celM_T hi r) ?_
  refine g_mem (setR_same _ _) ?_
  refine g_iload_n F 4 (dk dtX7_rate_1 6 rfl) rfl ?_
  refine g_if_neN F 130 (dk dtX7_rate_1 7 rfl) (by decide) (by decide) (fun _ => ?_) (fun c => absurd c (by decide))
  refine g_iload_n F 4 (dk dtX7_rate_1 10 rfl) rfl ?_
  refine g_iconst F (nI 1) (dk dtX7_rate_1 11 rfl) (by decide) ?_
  refine g_icmp_neN F 140 (dk dtX7_rate_1 12 rfl) (by decide) (by decide) (by decide) (fun c => absurd c (by decide)) (fun _ => ?_)
  refine g_iload F 1 (dk dtX7_rate_1 13 rfl) rfl ?_
  refine g_goto F 184 (dk dtX7_rate_1 14 rfl) (by decide) ?_
  refine g_iret (F := F) hQ (dk dtX7_rate_1 42 rfl) ?_
  exact ⟨rfl, rfl, rfl⟩
set_option maxRecDepth 100000 in
set_option maxHeartbeats 4000000 in
theorem k_X7_rate_2 (l : Launch) (D : DX) (B : Nat) (T : Int64) (M : Mem) (h0 : M 0 0 = nI 0) (P : Nat) (hP : M 2 2 = nI P) (hP5 : P ≤ 5) (p : Nat) (hp : p < P) : Ci l D B 14 (celM D B) yX7_rate cX7_rate 6 (some .int) 2 [.ref (B + 0), .int (nI 2), .int (nI p)] T M (fun r T1 M1 => r = M 3 p - aS (M 5) p ∧ T1 = T + 101 ∧ M1 = M) := by
  refine g_entryi (L := [(0, .ref (B + 0)), (1, .int (nI 2)), (2, .int (nI p))]) (by decide) (Nat.le_of_ble_eq_true rfl) rfl ?_
  intro zp ze zs zm zb zt zc Q F hQ
  refine g_aload_n F 0 (dk dtX7_rate_0 0 rfl) rfl ?_
  refine g_iconst F (nI 0) (dk dtX7_rate_0 1 rfl) (by decide) ?_
  refine g_put F fa_X7_56 (dk dtX7_rate_0 2 rfl) (by decide) (cm0 D B _ _) (Nat.le_of_ble_eq_true rfl) rfl rfl (cm0 D B _ _) ?_
  refine g_mem (up2_same h0) ?_
  refine g_iload_n F 1 (dk dtX7_rate_0 3 rfl) rfl ?_
  refine g_iconst F (nI 0) (dk dtX7_rate_0 4 rfl) (by decide) ?_
  refine g_iconst F (nI 5) (dk dtX7_rate_0 5 rfl) (by decide) ?_
  refine g_callSi F (As := [.int (nI 2), .int (nI 0), .int (nI 5)]) (st := []) cs_X7_60 (dk dtX7_rate_0 6 rfl) rfl rfl (Nat.le_of_ble_eq_true rfl) ⟨by decide, by decide⟩ (k_X7_inR l D B _ _ _ 5 (by decide)) (fun r8 T8 M8 hp8 => ?_)
  obtain ⟨e1, e2, e3⟩ := hp8
  replace e1 := e1.symm; replace e2 := e2.symm; replace e3 := e3.symm; subst e1; subst e2; subst e3
  refine g_if_eqB F 22 (dk dtX7_rate_0 7 rfl) (by decide) (fun c => absurd (inR_nI (by omega)) c) (fun _ => ?_)
  refine g_aload_n F 0 (dk dtX7_rate_0 8 rfl) rfl ?_
  refine g_iload_n F 2 (dk dtX7_rate_0 9 rfl) rfl ?_
  refine g_callVi F (As := [.int (nI p)]) (st := []) cv_X7_129 (dk dtX7_rate_0 10 rfl) (by decide) (cm0 D B _ _) rfl rfl (Nat.le_of_ble_eq_true rfl) ⟨by decide, by decide⟩ (k_X7_isOne l D B _ _ _ P hP (by omega)) (fun r16 T16 M16 hp16 => ?_)
  obtain ⟨e1, e2, e3⟩ := hp16
  replace e1 := e1.symm; replace e2 := e2.symm; replace e3 := e3.symm; subst e1; subst e2; subst e3
  refine g_if_neB F 25 (dk dtX7_rate_0 11 rfl) (by decide) (fun _ => ?_) (fun c => absurd (inR_nI (by omega)) c)
  refine g_aload_n F 0 (dk dtX7_rate_0 14 rfl) rfl ?_
  refine g_get F fa_X7_16 (dk dtX7_rate_0 15 rfl) (by decide) (cm0 D B _ _) rfl ?_
  refine g_iload_n F 2 (dk dtX7_rate_0 16 rfl) rfl ?_
  refine g_iald F (p) (dk dtX7_rate_0 17 rfl) (by decide) (cm3 D B _ _) (by omega) (by decide) ?_
  refine g_istore_n F [(3, .int (M 3 p)), (0, .ref (B + 0)), (1, .int (nI 2)), (2, .int (nI p))] (dk dtX7_rate_0 18 rfl) (by decide) rfl ?_
  refine g_iload_n F 0 (dk dtX7_rate_0 19 rfl) rfl ?_
  refine g_aload_n F 1 (dk dtX7_rate_0 20 rfl) rfl ?_
  refine g_get F fa_X7_22 (dk dtX7_rate_0 21 rfl) (by decide) (cm0 D B _ _) rfl ?_
  refine g_bipush F (nI 25) (dk dtX7_rate_0 22 rfl) (by decide) ?_
  refine g_iload_n F 3 (dk dtX7_rate_0 23 rfl) rfl ?_
  refine g_iaddN F (dk dtX7_rate_0 24 rfl) ?_
  refine g_iald F (25 + p) (dk dtX7_rate_0 25 rfl) (by decide) (cm5 D B _ _) (by omega) (by decide) ?_
  refine g_iadd F (dk dtX7_rate_0 26 rfl) ?_
  refine g_istore F [(4, .int ((M 3 p) + (M 5 (25 + p)))), (3, .int (M 3 p)), (0, .ref (B + 0)), (1, .int (nI 2)), (2, .int (nI p))] (dk dtX7_rate_0 27 rfl) (by decide) rfl ?_
  refine g_iload_n F 1 (dk dtX7_rate_0 28 rfl) rfl ?_
  refine g_aload_n F 2 (dk dtX7_rate_0 29 rfl) rfl ?_
  refine g_aload_n F 2 (dk dtX7_rate_0 30 rfl) rfl ?_
  refine g_get F fa_X7_22 (dk dtX7_rate_0 31 rfl) (by decide) (cm0 D B _ _) rfl ?_
  refine g_iload_n F 4 (dk dtX7_rate_0 32 rfl) rfl ?_
  refine g_callVi F (As := [.ref (B + 5), .int (nI p)]) (st := [.int (M 3 p)]) cv_X7_125 (dk dtX7_rate_0 33 rfl) (by decide) (cm0 D B _ _) rfl rfl (Nat.le_of_ble_eq_true rfl) ⟨by decide, by decide⟩ (k_X7_allSeen l D B _ _ 5 (isRow5 D B) _ (by omega)) (fun r52 T52 M52 hp52 => ?_)
  obtain ⟨e1, e2, e3⟩ := hp52
  replace e1 := e1.symm; replace e2 := e2.symm; replace e3 := e3.symm; subst e1; subst e2; subst e3
  refine g_isub F (dk dtX7_rate_0 34 rfl) ?_
  refine g_istore F [(5, .int ((M 3 p) - (aS (M 5) p))), (4, .int ((M 3 p) + (M 5 (25 + p)))), (3, .int (M 3 p)), (0, .ref (B + 0)), (1, .int (nI 2)), (2, .int (nI p))] (dk dtX7_rate_0 35 rfl) (by decide) rfl ?_
  refine g_aload_n F 3 (dk dtX7_rate_0 36 rfl) rfl ?_
  refine g_dup F (dk dtX7_rate_0 37 rfl) rfl ?_
  refine g_get F fa_X7_183 (dk dtX7_rate_0 38 rfl) (by decide) (cm0 D B _ _) rfl ?_
  refine g_iload_n F 4 (dk dtX7_rate_0 39 rfl) rfl ?_
  refine g_if_neN F 71 (dk dtX7_rate_0 40 rfl) (by decide) (by decide) (fun _ => ?_) (fun c => absurd c (by decide))
  refine g_iload_n F 4 (dk dtX7_rate_0 43 rfl) rfl ?_
  refine g_iconst F (nI 1) (dk dtX7_rate_0 44 rfl) (by decide) ?_
  refine g_icmp_neN F 82 (dk dtX7_rate_0 45 rfl) (by decide) (by decide) (by decide) (fun _ => ?_) (fun c => absurd c (by decide))
  refine g_iload_n F 4 (dk dtX7_rate_0 48 rfl) rfl ?_
  refine g_iconst F (nI 2) (dk dtX7_rate_0 49 rfl) (by decide) ?_
  refine g_icmp_neN F 93 (dk dtX7_rate_0 50 rfl) (by decide) (by decide) (by decide) (fun c => absurd c (by decide)) (fun _ => ?_)
  refine g_ldc2 F (dk dtX7_rate_0 51 rfl) (tw4 121 rfl) ?_
  refine g_goto F 118 (dk dtX7_rate_0 52 rfl) (by decide) ?_
  refine g_ladd F (dk dtX7_rate_1 4 rfl) ?_
  refine g_putG F (T1 := T + 101) (M 0) fa_X7_183 (dk dtX7_rate_1 5 rfl) (by decide) (cm0 D B _ _) (Nat.le_of_ble_eq_true rfl) rfl rfl (cm0 D B _ _) (fun i hi r => celM_T hi r) ?_
  refine g_mem (setR_same _ _) ?_
  refine g_iload_n F 4 (dk dtX7_rate_1 6 rfl) rfl ?_
  refine g_if_neN F 130 (dk dtX7_rate_1 7 rfl) (by decide) (by decide) (fun _ => ?_) (fun c => absurd c (by decide))
  refine g_iload_n F 4 (dk dtX7_rate_1 10 rfl) rfl ?_
  refine g_iconst F (nI 1) (dk dtX7_rate_1 11 rfl) (by decide) ?_
  refine g_icmp_neN F 140 (dk dtX7_rate_1 12 rfl) (by decide) (by decide) (by decide) (fun _ => ?_) (fun c => absurd c (by decide))
  refine g_iload_n F 4 (dk dtX7_rate_1 15 rfl) rfl ?_
  refine g_iconst F (nI 2) (dk dtX7_rate_1 16 rfl) (by decide) ?_
  refine g_icmp_neN F 150 (dk dtX7_rate_1 17 rfl) (by decide) (by decide) (by decide) (fun c => absurd c (by decide)) (fun _ => ?_)
  refine g_iload F 0 (dk dtX7_rate_1 18 rfl) rfl ?_
  refine g_goto F 184 (dk dtX7_rate_1 19 rfl) (by decide) ?_
  refine g_iret (F := F) hQ (dk dtX7_rate_1 42 rfl) ?_
  exact ⟨rfl, rfl, rfl⟩
set_option maxRecDepth 100000 in
set_option maxHeartbeats 4000000 in
theorem k_X7_rate_3 (l : Launch) (D : DX) (B : Nat) (T : Int64) (M : Mem) (h0 : M 0 0 = nI 0) (P : Nat) (hP : M 2 2 = nI P) (hP5 : P ≤ 5) (p : Nat) (hp : p < P) : Ci l D B 14 (celM D B) yX7_rate cX7_rate 6 (some .int) 2 [.ref (B + 0), .int (nI 3), .int (nI p)] T M (fun r T1 M1 => r = nI 2 * (M 3 p + M 5 (25 + p)) ∧ T1 = T + 1011 ∧ M1 = M) := by
  refine g_entryi (L := [(0, .ref (B + 0)), (1, .int (nI 3)), (2, .int (nI p))]) (by decide) (Nat.le_of_ble_eq_true rfl) rfl ?_
  intro zp ze zs zm zb zt zc Q F hQ
  refine g_aload_n F 0 (dk dtX7_rate_0 0 rfl) rfl ?_
  refine g_iconst F (nI 0) (dk dtX7_rate_0 1 rfl) (by decide) ?_
  refine g_put F fa_X7_56 (dk dtX7_rate_0 2 rfl) (by decide) (cm0 D B _ _) (Nat.le_of_ble_eq_true rfl) rfl rfl (cm0 D B _ _) ?_
  refine g_mem (up2_same h0) ?_
  refine g_iload_n F 1 (dk dtX7_rate_0 3 rfl) rfl ?_
  refine g_iconst F (nI 0) (dk dtX7_rate_0 4 rfl) (by decide) ?_
  refine g_iconst F (nI 5) (dk dtX7_rate_0 5 rfl) (by decide) ?_
  refine g_callSi F (As := [.int (nI 3), .int (nI 0), .int (nI 5)]) (st := []) cs_X7_60 (dk dtX7_rate_0 6 rfl) rfl rfl (Nat.le_of_ble_eq_true rfl) ⟨by decide, by decide⟩ (k_X7_inR l D B _ _ _ 5 (by decide)) (fun r8 T8 M8 hp8 => ?_)
  obtain ⟨e1, e2, e3⟩ := hp8
  replace e1 := e1.symm; replace e2 := e2.symm; replace e3 := e3.symm; subst e1; subst e2; subst e3
  refine g_if_eqB F 22 (dk dtX7_rate_0 7 rfl) (by decide) (fun c => absurd (inR_nI (by omega)) c) (fun _ => ?_)
  refine g_aload_n F 0 (dk dtX7_rate_0 8 rfl) rfl ?_
  refine g_iload_n F 2 (dk dtX7_rate_0 9 rfl) rfl ?_
  refine g_callVi F (As := [.int (nI p)]) (st := []) cv_X7_129 (dk dtX7_rate_0 10 rfl) (by decide) (cm0 D B _ _) rfl rfl (Nat.le_of_ble_eq_true rfl) ⟨by decide, by decide⟩ (k_X7_isOne l D B _ _ _ P hP (by omega)) (fun r16 T16 M16 hp16 => ?_)
  obtain ⟨e1, e2, e3⟩ := hp16
  replace e1 := e1.symm; replace e2 := e2.symm; replace e3 := e3.symm; subst e1; subst e2; subst e3
  refine g_if_neB F 25 (dk dtX7_rate_0 11 rfl) (by decide) (fun _ => ?_) (fun c => absurd (inR_nI (by omega)) c)
  refine g_aload_n F 0 (dk dtX7_rate_0 14 rfl) rfl ?_
  refine g_get F fa_X7_16 (dk dtX7_rate_0 15 rfl) (by decide) (cm0 D B _ _) rfl ?_
  refine g_iload_n F 2 (dk dtX7_rate_0 16 rfl) rfl ?_
  refine g_iald F (p) (dk dtX7_rate_0 17 rfl) (by decide) (cm3 D B _ _) (by omega) (by decide) ?_
  refine g_istore_n F [(3, .int (M 3 p)), (0, .ref (B + 0)), (1, .int (nI 3)), (2, .int (nI p))] (dk dtX7_rate_0 18 rfl) (by decide) rfl ?_
  refine g_iload_n F 0 (dk dtX7_rate_0 19 rfl) rfl ?_
  refine g_aload_n F 1 (dk dtX7_rate_0 20 rfl) rfl ?_
  refine g_get F fa_X7_22 (dk dtX7_rate_0 21 rfl) (by decide) (cm0 D B _ _) rfl ?_
  refine g_bipush F (nI 25) (dk dtX7_rate_0 22 rfl) (by decide) ?_
  refine g_iload_n F 3 (dk dtX7_rate_0 23 rfl) rfl ?_
  refine g_iaddN F (dk dtX7_rate_0 24 rfl) ?_
  refine g_iald F (25 + p) (dk dtX7_rate_0 25 rfl) (by decide) (cm5 D B _ _) (by omega) (by decide) ?_
  refine g_iadd F (dk dtX7_rate_0 26 rfl) ?_
  refine g_istore F [(4, .int ((M 3 p) + (M 5 (25 + p)))), (3, .int (M 3 p)), (0, .ref (B + 0)), (1, .int (nI 3)), (2, .int (nI p))] (dk dtX7_rate_0 27 rfl) (by decide) rfl ?_
  refine g_iload_n F 1 (dk dtX7_rate_0 28 rfl) rfl ?_
  refine g_aload_n F 2 (dk dtX7_rate_0 29 rfl) rfl ?_
  refine g_aload_n F 2 (dk dtX7_rate_0 30 rfl) rfl ?_
  refine g_get F fa_X7_22 (dk dtX7_rate_0 31 rfl) (by decide) (cm0 D B _ _) rfl ?_
  refine g_iload_n F 4 (dk dtX7_rate_0 32 rfl) rfl ?_
  refine g_callVi F (As := [.ref (B + 5), .int (nI p)]) (st := [.int (M 3 p)]) cv_X7_125 (dk dtX7_rate_0 33 rfl) (by decide) (cm0 D B _ _) rfl rfl (Nat.le_of_ble_eq_true rfl) ⟨by decide, by decide⟩ (k_X7_allSeen l D B _ _ 5 (isRow5 D B) _ (by omega)) (fun r52 T52 M52 hp52 => ?_)
  obtain ⟨e1, e2, e3⟩ := hp52
  replace e1 := e1.symm; replace e2 := e2.symm; replace e3 := e3.symm; subst e1; subst e2; subst e3
  refine g_isub F (dk dtX7_rate_0 34 rfl) ?_
  refine g_istore F [(5, .int ((M 3 p) - (aS (M 5) p))), (4, .int ((M 3 p) + (M 5 (25 + p)))), (3, .int (M 3 p)), (0, .ref (B + 0)), (1, .int (nI 3)), (2, .int (nI p))] (dk dtX7_rate_0 35 rfl) (by decide) rfl ?_
  refine g_aload_n F 3 (dk dtX7_rate_0 36 rfl) rfl ?_
  refine g_dup F (dk dtX7_rate_0 37 rfl) rfl ?_
  refine g_get F fa_X7_183 (dk dtX7_rate_0 38 rfl) (by decide) (cm0 D B _ _) rfl ?_
  refine g_iload_n F 4 (dk dtX7_rate_0 39 rfl) rfl ?_
  refine g_if_neN F 71 (dk dtX7_rate_0 40 rfl) (by decide) (by decide) (fun _ => ?_) (fun c => absurd c (by decide))
  refine g_iload_n F 4 (dk dtX7_rate_0 43 rfl) rfl ?_
  refine g_iconst F (nI 1) (dk dtX7_rate_0 44 rfl) (by decide) ?_
  refine g_icmp_neN F 82 (dk dtX7_rate_0 45 rfl) (by decide) (by decide) (by decide) (fun _ => ?_) (fun c => absurd c (by decide))
  refine g_iload_n F 4 (dk dtX7_rate_0 48 rfl) rfl ?_
  refine g_iconst F (nI 2) (dk dtX7_rate_0 49 rfl) (by decide) ?_
  refine g_icmp_neN F 93 (dk dtX7_rate_0 50 rfl) (by decide) (by decide) (by decide) (fun _ => ?_) (fun c => absurd c (by decide))
  refine g_iload_n F 4 (dk dtX7_rate_0 53 rfl) rfl ?_
  refine g_iconst F (nI 3) (dk dtX7_rate_0 54 rfl) (by decide) ?_
  refine g_icmp_neN F 104 (dk dtX7_rate_0 55 rfl) (by decide) (by decide) (by decide) (fun c => absurd c (by decide)) (fun _ => ?_)
  refine g_ldc2 F (dk dtX7_rate_0 56 rfl) (tw4 122 rfl) ?_
  refine g_goto F 118 (dk dtX7_rate_0 57 rfl) (by decide) ?_
  refine g_ladd F (dk dtX7_rate_1 4 rfl) ?_
  refine g_putG F (T1 := T + 1011) (M 0) fa_X7_183 (dk dtX7_rate_1 5 rfl) (by decide) (cm0 D B _ _) (Nat.le_of_ble_eq_true rfl) rfl rfl (cm0 D B _ _) (fun i hi r => celM_T hi r) ?_
  refine g_mem (setR_same _ _) ?_
  refine g_iload_n F 4 (dk dtX7_rate_1 6 rfl) rfl ?_
  refine g_if_neN F 130 (dk dtX7_rate_1 7 rfl) (by decide) (by decide) (fun _ => ?_) (fun c => absurd c (by decide))
  refine g_iload_n F 4 (dk dtX7_rate_1 10 rfl) rfl ?_
  refine g_iconst F (nI 1) (dk dtX7_rate_1 11 rfl) (by decide) ?_
  refine g_icmp_neN F 140 (dk dtX7_rate_1 12 rfl) (by decide) (by decide) (by decide) (fun _ => ?_) (fun c => absurd c (by decide))
  refine g_iload_n F 4 (dk dtX7_rate_1 15 rfl) rfl ?_
  refine g_iconst F (nI 2) (dk dtX7_rate_1 16 rfl) (by decide) ?_
  refine g_icmp_neN F 150 (dk dtX7_rate_1 17 rfl) (by decide) (by decide) (by decide) (fun _ => ?_) (fun c => absurd c (by decide))
  refine g_iload_n F 4 (dk dtX7_rate_1 20 rfl) rfl ?_
  refine g_iconst F (nI 3) (dk dtX7_rate_1 21 rfl) (by decide) ?_
  refine g_icmp_neN F 162 (dk dtX7_rate_1 22 rfl) (by decide) (by decide) (by decide) (fun c => absurd c (by decide)) (fun _ => ?_)
  refine g_iconst F (nI 2) (dk dtX7_rate_1 23 rfl) (by decide) ?_
  refine g_iload F 1 (dk dtX7_rate_1 24 rfl) rfl ?_
  refine g_imul F (dk dtX7_rate_1 25 rfl) ?_
  refine g_goto F 184 (dk dtX7_rate_1 26 rfl) (by decide) ?_
  refine g_iret (F := F) hQ (dk dtX7_rate_1 42 rfl) ?_
  exact ⟨rfl, rfl, rfl⟩
set_option maxRecDepth 100000 in
set_option maxHeartbeats 4000000 in
theorem k_X7_rate_4 (l : Launch) (D : DX) (B : Nat) (T : Int64) (M : Mem) (h0 : M 0 0 = nI 0) (P : Nat) (hP : M 2 2 = nI P) (hP5 : P ≤ 5) (p : Nat) (hp : p < P) : Ci l D B 14 (celM D B) yX7_rate cX7_rate 6 (some .int) 2 [.ref (B + 0), .int (nI 4), .int (nI p)] T M (fun r T1 M1 => r = M 3 p - aS (M 5) p + nI p ∧ T1 = T + 10101 ∧ M1 = M) := by
  refine g_entryi (L := [(0, .ref (B + 0)), (1, .int (nI 4)), (2, .int (nI p))]) (by decide) (Nat.le_of_ble_eq_true rfl) rfl ?_
  intro zp ze zs zm zb zt zc Q F hQ
  refine g_aload_n F 0 (dk dtX7_rate_0 0 rfl) rfl ?_
  refine g_iconst F (nI 0) (dk dtX7_rate_0 1 rfl) (by decide) ?_
  refine g_put F fa_X7_56 (dk dtX7_rate_0 2 rfl) (by decide) (cm0 D B _ _) (Nat.le_of_ble_eq_true rfl) rfl rfl (cm0 D B _ _) ?_
  refine g_mem (up2_same h0) ?_
  refine g_iload_n F 1 (dk dtX7_rate_0 3 rfl) rfl ?_
  refine g_iconst F (nI 0) (dk dtX7_rate_0 4 rfl) (by decide) ?_
  refine g_iconst F (nI 5) (dk dtX7_rate_0 5 rfl) (by decide) ?_
  refine g_callSi F (As := [.int (nI 4), .int (nI 0), .int (nI 5)]) (st := []) cs_X7_60 (dk dtX7_rate_0 6 rfl) rfl rfl (Nat.le_of_ble_eq_true rfl) ⟨by decide, by decide⟩ (k_X7_inR l D B _ _ _ 5 (by decide)) (fun r8 T8 M8 hp8 => ?_)
  obtain ⟨e1, e2, e3⟩ := hp8
  replace e1 := e1.symm; replace e2 := e2.symm; replace e3 := e3.symm; subst e1; subst e2; subst e3
  refine g_if_eqB F 22 (dk dtX7_rate_0 7 rfl) (by decide) (fun c => absurd (inR_nI (by omega)) c) (fun _ => ?_)
  refine g_aload_n F 0 (dk dtX7_rate_0 8 rfl) rfl ?_
  refine g_iload_n F 2 (dk dtX7_rate_0 9 rfl) rfl ?_
  refine g_callVi F (As := [.int (nI p)]) (st := []) cv_X7_129 (dk dtX7_rate_0 10 rfl) (by decide) (cm0 D B _ _) rfl rfl (Nat.le_of_ble_eq_true rfl) ⟨by decide, by decide⟩ (k_X7_isOne l D B _ _ _ P hP (by omega)) (fun r16 T16 M16 hp16 => ?_)
  obtain ⟨e1, e2, e3⟩ := hp16
  replace e1 := e1.symm; replace e2 := e2.symm; replace e3 := e3.symm; subst e1; subst e2; subst e3
  refine g_if_neB F 25 (dk dtX7_rate_0 11 rfl) (by decide) (fun _ => ?_) (fun c => absurd (inR_nI (by omega)) c)
  refine g_aload_n F 0 (dk dtX7_rate_0 14 rfl) rfl ?_
  refine g_get F fa_X7_16 (dk dtX7_rate_0 15 rfl) (by decide) (cm0 D B _ _) rfl ?_
  refine g_iload_n F 2 (dk dtX7_rate_0 16 rfl) rfl ?_
  refine g_iald F (p) (dk dtX7_rate_0 17 rfl) (by decide) (cm3 D B _ _) (by omega) (by decide) ?_
  refine g_istore_n F [(3, .int (M 3 p)), (0, .ref (B + 0)), (1, .int (nI 4)), (2, .int (nI p))] (dk dtX7_rate_0 18 rfl) (by decide) rfl ?_
  refine g_iload_n F 0 (dk dtX7_rate_0 19 rfl) rfl ?_
  refine g_aload_n F 1 (dk dtX7_rate_0 20 rfl) rfl ?_
  refine g_get F fa_X7_22 (dk dtX7_rate_0 21 rfl) (by decide) (cm0 D B _ _) rfl ?_
  refine g_bipush F (nI 25) (dk dtX7_rate_0 22 rfl) (by decide) ?_
  refine g_iload_n F 3 (dk dtX7_rate_0 23 rfl) rfl ?_
  refine g_iaddN F (dk dtX7_rate_0 24 rfl) ?_
  refine g_iald F (25 + p) (dk dtX7_rate_0 25 rfl) (by decide) (cm5 D B _ _) (by omega) (by decide) ?_
  refine g_iadd F (dk dtX7_rate_0 26 rfl) ?_
  refine g_istore F [(4, .int ((M 3 p) + (M 5 (25 + p)))), (3, .int (M 3 p)), (0, .ref (B + 0)), (1, .int (nI 4)), (2, .int (nI p))] (dk dtX7_rate_0 27 rfl) (by decide) rfl ?_
  refine g_iload_n F 1 (dk dtX7_rate_0 28 rfl) rfl ?_
  refine g_aload_n F 2 (dk dtX7_rate_0 29 rfl) rfl ?_
  refine g_aload_n F 2 (dk dtX7_rate_0 30 rfl) rfl ?_
  refine g_get F fa_X7_22 (dk dtX7_rate_0 31 rfl) (by decide) (cm0 D B _ _) rfl ?_
  refine g_iload_n F 4 (dk dtX7_rate_0 32 rfl) rfl ?_
  refine g_callVi F (As := [.ref (B + 5), .int (nI p)]) (st := [.int (M 3 p)]) cv_X7_125 (dk dtX7_rate_0 33 rfl) (by decide) (cm0 D B _ _) rfl rfl (Nat.le_of_ble_eq_true rfl) ⟨by decide, by decide⟩ (k_X7_allSeen l D B _ _ 5 (isRow5 D B) _ (by omega)) (fun r52 T52 M52 hp52 => ?_)
  obtain ⟨e1, e2, e3⟩ := hp52
  replace e1 := e1.symm; replace e2 := e2.symm; replace e3 := e3.symm; subst e1; subst e2; subst e3
  refine g_isub F (dk dtX7_rate_0 34 rfl) ?_
  refine g_istore F [(5, .int ((M 3 p) - (aS (M 5) p))), (4, .int ((M 3 p) + (M 5 (25 + p)))), (3, .int (M 3 p)), (0, .ref (B + 0)), (1, .int (nI 4)), (2, .int (nI p))] (dk dtX7_rate_0 35 rfl) (by decide) rfl ?_
  refine g_aload_n F 3 (dk dtX7_rate_0 36 rfl) rfl ?_
  refine g_dup F (dk dtX7_rate_0 37 rfl) rfl ?_
  refine g_get F fa_X7_183 (dk dtX7_rate_0 38 rfl) (by decide) (cm0 D B _ _) rfl ?_
  refine g_iload_n F 4 (dk dtX7_rate_0 39 rfl) rfl ?_
  refine g_if_neN F 71 (dk dtX7_rate_0 40 rfl) (by decide) (by decide) (fun _ => ?_) (fun c => absurd c (by decide))
  refine g_iload_n F 4 (dk dtX7_rate_0 43 rfl) rfl ?_
  refine g_iconst F (nI 1) (dk dtX7_rate_0 44 rfl) (by decide) ?_
  refine g_icmp_neN F 82 (dk dtX7_rate_0 45 rfl) (by decide) (by decide) (by decide) (fun _ => ?_) (fun c => absurd c (by decide))
  refine g_iload_n F 4 (dk dtX7_rate_0 48 rfl) rfl ?_
  refine g_iconst F (nI 2) (dk dtX7_rate_0 49 rfl) (by decide) ?_
  refine g_icmp_neN F 93 (dk dtX7_rate_0 50 rfl) (by decide) (by decide) (by decide) (fun _ => ?_) (fun c => absurd c (by decide))
  refine g_iload_n F 4 (dk dtX7_rate_0 53 rfl) rfl ?_
  refine g_iconst F (nI 3) (dk dtX7_rate_0 54 rfl) (by decide) ?_
  refine g_icmp_neN F 104 (dk dtX7_rate_0 55 rfl) (by decide) (by decide) (by decide) (fun _ => ?_) (fun c => absurd c (by decide))
  refine g_iload_n F 4 (dk dtX7_rate_0 58 rfl) rfl ?_
  refine g_iconst F (nI 4) (dk dtX7_rate_0 59 rfl) (by decide) ?_
  refine g_icmp_neN F 115 (dk dtX7_rate_1 0 rfl) (by decide) (by decide) (by decide) (fun c => absurd c (by decide)) (fun _ => ?_)
  refine g_ldc2 F (dk dtX7_rate_1 1 rfl) (tw4 123 rfl) ?_
  refine g_goto F 118 (dk dtX7_rate_1 2 rfl) (by decide) ?_
  refine g_ladd F (dk dtX7_rate_1 4 rfl) ?_
  refine g_putG F (T1 := T + 10101) (M 0) fa_X7_183 (dk dtX7_rate_1 5 rfl) (by decide) (cm0 D B _ _) (Nat.le_of_ble_eq_true rfl) rfl rfl (cm0 D B _ _) (fun i hi r => celM_T hi r) ?_
  refine g_mem (setR_same _ _) ?_
  refine g_iload_n F 4 (dk dtX7_rate_1 6 rfl) rfl ?_
  refine g_if_neN F 130 (dk dtX7_rate_1 7 rfl) (by decide) (by decide) (fun _ => ?_) (fun c => absurd c (by decide))
  refine g_iload_n F 4 (dk dtX7_rate_1 10 rfl) rfl ?_
  refine g_iconst F (nI 1) (dk dtX7_rate_1 11 rfl) (by decide) ?_
  refine g_icmp_neN F 140 (dk dtX7_rate_1 12 rfl) (by decide) (by decide) (by decide) (fun _ => ?_) (fun c => absurd c (by decide))
  refine g_iload_n F 4 (dk dtX7_rate_1 15 rfl) rfl ?_
  refine g_iconst F (nI 2) (dk dtX7_rate_1 16 rfl) (by decide) ?_
  refine g_icmp_neN F 150 (dk dtX7_rate_1 17 rfl) (by decide) (by decide) (by decide) (fun _ => ?_) (fun c => absurd c (by decide))
  refine g_iload_n F 4 (dk dtX7_rate_1 20 rfl) rfl ?_
  refine g_iconst F (nI 3) (dk dtX7_rate_1 21 rfl) (by decide) ?_
  refine g_icmp_neN F 162 (dk dtX7_rate_1 22 rfl) (by decide) (by decide) (by decide) (fun _ => ?_) (fun c => absurd c (by decide))
  refine g_iload_n F 4 (dk dtX7_rate_1 27 rfl) rfl ?_
  refine g_iconst F (nI 4) (dk dtX7_rate_1 28 rfl) (by decide) ?_
  refine g_icmp_neN F 174 (dk dtX7_rate_1 29 rfl) (by decide) (by decide) (by decide) (fun c => absurd c (by decide)) (fun _ => ?_)
  refine g_iload F 0 (dk dtX7_rate_1 30 rfl) rfl ?_
  refine g_iload_n F 5 (dk dtX7_rate_1 31 rfl) rfl ?_
  refine g_iadd F (dk dtX7_rate_1 32 rfl) ?_
  refine g_goto F 184 (dk dtX7_rate_1 33 rfl) (by decide) ?_
  refine g_iret (F := F) hQ (dk dtX7_rate_1 42 rfl) ?_
  exact ⟨rfl, rfl, rfl⟩
set_option maxRecDepth 100000 in
set_option maxHeartbeats 4000000 in
theorem k_X7_rate_5 (l : Launch) (D : DX) (B : Nat) (T : Int64) (M : Mem) (h0 : M 0 0 = nI 0) (P : Nat) (hP : M 2 2 = nI P) (hP5 : P ≤ 5) (p : Nat) (hp : p < P) : Ci l D B 14 (celM D B) yX7_rate cX7_rate 6 (some .int) 2 [.ref (B + 0), .int (nI 5), .int (nI p)] T M (fun r T1 M1 => r = M 3 p + M 5 p ∧ T1 = T + 100001 ∧ M1 = M) := by
  refine g_entryi (L := [(0, .ref (B + 0)), (1, .int (nI 5)), (2, .int (nI p))]) (by decide) (Nat.le_of_ble_eq_true rfl) rfl ?_
  intro zp ze zs zm zb zt zc Q F hQ
  refine g_aload_n F 0 (dk dtX7_rate_0 0 rfl) rfl ?_
  refine g_iconst F (nI 0) (dk dtX7_rate_0 1 rfl) (by decide) ?_
  refine g_put F fa_X7_56 (dk dtX7_rate_0 2 rfl) (by decide) (cm0 D B _ _) (Nat.le_of_ble_eq_true rfl) rfl rfl (cm0 D B _ _) ?_
  refine g_mem (up2_same h0) ?_
  refine g_iload_n F 1 (dk dtX7_rate_0 3 rfl) rfl ?_
  refine g_iconst F (nI 0) (dk dtX7_rate_0 4 rfl) (by decide) ?_
  refine g_iconst F (nI 5) (dk dtX7_rate_0 5 rfl) (by decide) ?_
  refine g_callSi F (As := [.int (nI 5), .int (nI 0), .int (nI 5)]) (st := []) cs_X7_60 (dk dtX7_rate_0 6 rfl) rfl rfl (Nat.le_of_ble_eq_true rfl) ⟨by decide, by decide⟩ (k_X7_inR l D B _ _ _ 5 (by decide)) (fun r8 T8 M8 hp8 => ?_)
  obtain ⟨e1, e2, e3⟩ := hp8
  replace e1 := e1.symm; replace e2 := e2.symm; replace e3 := e3.symm; subst e1; subst e2; subst e3
  refine g_if_eqB F 22 (dk dtX7_rate_0 7 rfl) (by decide) (fun c => absurd (inR_nI (by omega)) c) (fun _ => ?_)
  refine g_aload_n F 0 (dk dtX7_rate_0 8 rfl) rfl ?_
  refine g_iload_n F 2 (dk dtX7_rate_0 9 rfl) rfl ?_
  refine g_callVi F (As := [.int (nI p)]) (st := []) cv_X7_129 (dk dtX7_rate_0 10 rfl) (by decide) (cm0 D B _ _) rfl rfl (Nat.le_of_ble_eq_true rfl) ⟨by decide, by decide⟩ (k_X7_isOne l D B _ _ _ P hP (by omega)) (fun r16 T16 M16 hp16 => ?_)
  obtain ⟨e1, e2, e3⟩ := hp16
  replace e1 := e1.symm; replace e2 := e2.symm; replace e3 := e3.symm; subst e1; subst e2; subst e3
  refine g_if_neB F 25 (dk dtX7_rate_0 11 rfl) (by decide) (fun _ => ?_) (fun c => absurd (inR_nI (by omega)) c)
  refine g_aload_n F 0 (dk dtX7_rate_0 14 rfl) rfl ?_
  refine g_get F fa_X7_16 (dk dtX7_rate_0 15 rfl) (by decide) (cm0 D B _ _) rfl ?_
  refine g_iload_n F 2 (dk dtX7_rate_0 16 rfl) rfl ?_
  refine g_iald F (p) (dk dtX7_rate_0 17 rfl) (by decide) (cm3 D B _ _) (by omega) (by decide) ?_
  refine g_istore_n F [(3, .int (M 3 p)), (0, .ref (B + 0)), (1, .int (nI 5)), (2, .int (nI p))] (dk dtX7_rate_0 18 rfl) (by decide) rfl ?_
  refine g_iload_n F 0 (dk dtX7_rate_0 19 rfl) rfl ?_
  refine g_aload_n F 1 (dk dtX7_rate_0 20 rfl) rfl ?_
  refine g_get F fa_X7_22 (dk dtX7_rate_0 21 rfl) (by decide) (cm0 D B _ _) rfl ?_
  refine g_bipush F (nI 25) (dk dtX7_rate_0 22 rfl) (by decide) ?_
  refine g_iload_n F 3 (dk dtX7_rate_0 23 rfl) rfl ?_
  refine g_iaddN F (dk dtX7_rate_0 24 rfl) ?_
  refine g_iald F (25 + p) (dk dtX7_rate_0 25 rfl) (by decide) (cm5 D B _ _) (by omega) (by decide) ?_
  refine g_iadd F (dk dtX7_rate_0 26 rfl) ?_
  refine g_istore F [(4, .int ((M 3 p) + (M 5 (25 + p)))), (3, .int (M 3 p)), (0, .ref (B + 0)), (1, .int (nI 5)), (2, .int (nI p))] (dk dtX7_rate_0 27 rfl) (by decide) rfl ?_
  refine g_iload_n F 1 (dk dtX7_rate_0 28 rfl) rfl ?_
  refine g_aload_n F 2 (dk dtX7_rate_0 29 rfl) rfl ?_
  refine g_aload_n F 2 (dk dtX7_rate_0 30 rfl) rfl ?_
  refine g_get F fa_X7_22 (dk dtX7_rate_0 31 rfl) (by decide) (cm0 D B _ _) rfl ?_
  refine g_iload_n F 4 (dk dtX7_rate_0 32 rfl) rfl ?_
  refine g_callVi F (As := [.ref (B + 5), .int (nI p)]) (st := [.int (M 3 p)]) cv_X7_125 (dk dtX7_rate_0 33 rfl) (by decide) (cm0 D B _ _) rfl rfl (Nat.le_of_ble_eq_true rfl) ⟨by decide, by decide⟩ (k_X7_allSeen l D B _ _ 5 (isRow5 D B) _ (by omega)) (fun r52 T52 M52 hp52 => ?_)
  obtain ⟨e1, e2, e3⟩ := hp52
  replace e1 := e1.symm; replace e2 := e2.symm; replace e3 := e3.symm; subst e1; subst e2; subst e3
  refine g_isub F (dk dtX7_rate_0 34 rfl) ?_
  refine g_istore F [(5, .int ((M 3 p) - (aS (M 5) p))), (4, .int ((M 3 p) + (M 5 (25 + p)))), (3, .int (M 3 p)), (0, .ref (B + 0)), (1, .int (nI 5)), (2, .int (nI p))] (dk dtX7_rate_0 35 rfl) (by decide) rfl ?_
  refine g_aload_n F 3 (dk dtX7_rate_0 36 rfl) rfl ?_
  refine g_dup F (dk dtX7_rate_0 37 rfl) rfl ?_
  refine g_get F fa_X7_183 (dk dtX7_rate_0 38 rfl) (by decide) (cm0 D B _ _) rfl ?_
  refine g_iload_n F 4 (dk dtX7_rate_0 39 rfl) rfl ?_
  refine g_if_neN F 71 (dk dtX7_rate_0 40 rfl) (by decide) (by decide) (fun _ => ?_) (fun c => absurd c (by decide))
  refine g_iload_n F 4 (dk dtX7_rate_0 43 rfl) rfl ?_
  refine g_iconst F (nI 1) (dk dtX7_rate_0 44 rfl) (by decide) ?_
  refine g_icmp_neN F 82 (dk dtX7_rate_0 45 rfl) (by decide) (by decide) (by decide) (fun _ => ?_) (fun c => absurd c (by decide))
  refine g_iload_n F 4 (dk dtX7_rate_0 48 rfl) rfl ?_
  refine g_iconst F (nI 2) (dk dtX7_rate_0 49 rfl) (by decide) ?_
  refine g_icmp_neN F 93 (dk dtX7_rate_0 50 rfl) (by decide) (by decide) (by decide) (fun _ => ?_) (fun c => absurd c (by decide))
  refine g_iload_n F 4 (dk dtX7_rate_0 53 rfl) rfl ?_
  refine g_iconst F (nI 3) (dk dtX7_rate_0 54 rfl) (by decide) ?_
  refine g_icmp_neN F 104 (dk dtX7_rate_0 55 rfl) (by decide) (by decide) (by decide) (fun _ => ?_) (fun c => absurd c (by decide))
  refine g_iload_n F 4 (dk dtX7_rate_0 58 rfl) rfl ?_
  refine g_iconst F (nI 4) (dk dtX7_rate_0 59 rfl) (by decide) ?_
  refine g_icmp_neN F 115 (dk dtX7_rate_1 0 rfl) (by decide) (by decide) (by decide) (fun _ => ?_) (fun c => absurd c (by decide))
  refine g_ldc2 F (dk dtX7_rate_1 3 rfl) (tw4 124 rfl) ?_
  refine g_ladd F (dk dtX7_rate_1 4 rfl) ?_
  refine g_putG F (T1 := T + 100001) (M 0) fa_X7_183 (dk dtX7_rate_1 5 rfl) (by decide) (cm0 D B _ _) (Nat.le_of_ble_eq_true rfl) rfl rfl (cm0 D B _ _) (fun i hi r => celM_T hi r) ?_
  refine g_mem (setR_same _ _) ?_
  refine g_iload_n F 4 (dk dtX7_rate_1 6 rfl) rfl ?_
  refine g_if_neN F 130 (dk dtX7_rate_1 7 rfl) (by decide) (by decide) (fun _ => ?_) (fun c => absurd c (by decide))
  refine g_iload_n F 4 (dk dtX7_rate_1 10 rfl) rfl ?_
  refine g_iconst F (nI 1) (dk dtX7_rate_1 11 rfl) (by decide) ?_
  refine g_icmp_neN F 140 (dk dtX7_rate_1 12 rfl) (by decide) (by decide) (by decide) (fun _ => ?_) (fun c => absurd c (by decide))
  refine g_iload_n F 4 (dk dtX7_rate_1 15 rfl) rfl ?_
  refine g_iconst F (nI 2) (dk dtX7_rate_1 16 rfl) (by decide) ?_
  refine g_icmp_neN F 150 (dk dtX7_rate_1 17 rfl) (by decide) (by decide) (by decide) (fun _ => ?_) (fun c => absurd c (by decide))
  refine g_iload_n F 4 (dk dtX7_rate_1 20 rfl) rfl ?_
  refine g_iconst F (nI 3) (dk dtX7_rate_1 21 rfl) (by decide) ?_
  refine g_icmp_neN F 162 (dk dtX7_rate_1 22 rfl) (by decide) (by decide) (by decide) (fun _ => ?_) (fun c => absurd c (by decide))
  refine g_iload_n F 4 (dk dtX7_rate_1 27 rfl) rfl ?_
  refine g_iconst F (nI 4) (dk dtX7_rate_1 28 rfl) (by decide) ?_
  refine g_icmp_neN F 174 (dk dtX7_rate_1 29 rfl) (by decide) (by decide) (by decide) (fun _ => ?_) (fun c => absurd c (by decide))
  refine g_iload_n F 2 (dk dtX7_rate_1 34 rfl) rfl ?_
  refine g_aload_n F 3 (dk dtX7_rate_1 35 rfl) rfl ?_
  refine g_get F fa_X7_22 (dk dtX7_rate_1 36 rfl) (by decide) (cm0 D B _ _) rfl ?_
  refine g_iconst F (nI 0) (dk dtX7_rate_1 37 rfl) (by decide) ?_
  refine g_iload_n F 5 (dk dtX7_rate_1 38 rfl) rfl ?_
  refine g_iadd0 F (dk dtX7_rate_1 39 rfl) ?_
  refine g_iald F (p) (dk dtX7_rate_1 40 rfl) (by decide) (cm5 D B _ _) (by omega) (by decide) ?_
  refine g_iadd F (dk dtX7_rate_1 41 rfl) ?_
  refine g_iret (F := F) hQ (dk dtX7_rate_1 42 rfl) ?_
  exact ⟨rfl, rfl, rfl⟩
set_option maxRecDepth 100000 in
set_option maxHeartbeats 4000000 in
theorem k_X7_rate_bad (l : Launch) (D : DX) (B : Nat) (T : Int64) (M : Mem) (h0 : M 0 0 = nI 0) (P : Nat) (hP : M 2 2 = nI P) (hP5 : P ≤ 5) (w p : Int32) (hb : ¬ (inR w 6 ∧ inR p P)) : Ci l D B 14 (celM D B) yX7_rate cX7_rate 6 (some .int) 2 [.ref (B + 0), .int w, .int p] T M (fun rz T1 M1 => rz = (-1000000) ∧ T1 = T ∧ M1 = M) := by
  refine g_entryi (L := [(0, .ref (B + 0)), (1, .int w), (2, .int p)]) (by decide) (Nat.le_of_ble_eq_true rfl) rfl ?_
  intro zp ze zs zm zb zt zc Q F hQ
  refine g_aload_n F 0 (dk dtX7_rate_0 0 rfl) rfl ?_
  refine g_iconst F (nI 0) (dk dtX7_rate_0 1 rfl) (by decide) ?_
  refine g_put F fa_X7_56 (dk dtX7_rate_0 2 rfl) (by decide) (cm0 D B _ _) (Nat.le_of_ble_eq_true rfl) rfl rfl (cm0 D B _ _) ?_
  refine g_mem (up2_same h0) ?_
  refine g_iload_n F 1 (dk dtX7_rate_0 3 rfl) rfl ?_
  refine g_iconst F (nI 0) (dk dtX7_rate_0 4 rfl) (by decide) ?_
  refine g_iconst F (nI 5) (dk dtX7_rate_0 5 rfl) (by decide) ?_
  refine g_callSi F (As := [.int w, .int (nI 0), .int (nI 5)]) (st := []) cs_X7_60 (dk dtX7_rate_0 6 rfl) rfl rfl (Nat.le_of_ble_eq_true rfl) ⟨by decide, by decide⟩ (k_X7_inR l D B _ _ _ 5 (by decide)) (fun r8 T8 M8 hp8 => ?_)
  obtain ⟨e1, e2, e3⟩ := hp8
  replace e1 := e1.symm; replace e2 := e2.symm; replace e3 := e3.symm; subst e1; subst e2; subst e3
  refine g_if_eqB F 22 (dk dtX7_rate_0 7 rfl) (by decide) (fun c11 => ?_) (fun c11 => ?_)
  · -- taken at 11
    refine g_ldc F (dk dtX7_rate_0 12 rfl) (tw4 10 rfl) ?_
    refine g_iret (F := F) hQ (dk dtX7_rate_0 13 rfl) ?_
    exact ⟨rfl, rfl, rfl⟩
  · -- not taken at 11
    refine g_aload_n F 0 (dk dtX7_rate_0 8 rfl) rfl ?_
    refine g_iload_n F 2 (dk dtX7_rate_0 9 rfl) rfl ?_
    refine g_callVi F (As := [.int p]) (st := []) cv_X7_129 (dk dtX7_rate_0 10 rfl) (by decide) (cm0 D B _ _) rfl rfl (Nat.le_of_ble_eq_true rfl) ⟨by decide, by decide⟩ (k_X7_isOne l D B _ _ _ P hP (by omega)) (fun r16 T16 M16 hp16 => ?_)
    obtain ⟨e1, e2, e3⟩ := hp16
    replace e1 := e1.symm; replace e2 := e2.symm; replace e3 := e3.symm; subst e1; subst e2; subst e3
    refine g_if_neB F 25 (dk dtX7_rate_0 11 rfl) (by decide) (fun c19 => ?_) (fun c19 => ?_)
    · -- taken at 19
      exact absurd ⟨c11, c19⟩ hb
    · -- not taken at 19
      refine g_ldc F (dk dtX7_rate_0 12 rfl) (tw4 10 rfl) ?_
      refine g_iret (F := F) hQ (dk dtX7_rate_0 13 rfl) ?_
      exact ⟨rfl, rfl, rfl⟩
set_option maxRecDepth 100000 in
set_option maxHeartbeats 4000000 in
theorem k_X7_notes (l : Launch) (D : DX) (B : Nat) (T : Int64) (M : Mem) (h0 : M 0 0 = nI 0) (P : Nat) (hP : M 2 2 = nI P) (hP5 : P ≤ 5) (K : Nat) (hK : M 2 0 = nI K) (hK1 : 1 ≤ K) (hK4 : K ≤ 4) (nn : Nat) (hnn : M 0 22 = nI nn) (hnn6 : nn < 6) (p k j : Nat) (hp : p < P) (hk : k < K) (hj : j < 2) : Ci l D B 14 (celM D B) yX7_notes cX7_notes 4 (some .int) 2 [.ref (B + 0), .int (nI p), .int (nI k), .int (nI j)] T M (fun r T1 M1 => r = nI (nn + 1) ∧ T1 = T ∧ M1 = up2 (up2 (up2 (up2 M 10 nn (nI p)) 11 nn (nI k)) 12 nn (nI j)) 0 22 (nI (nn + 1))) := by
  refine g_entryi (L := [(0, .ref (B + 0)), (1, .int (nI p)), (2, .int (nI k)), (3, .int (nI j))]) (by decide) (Nat.le_of_ble_eq_true rfl) rfl ?_
  intro zp ze zs zm zb zt zc Q F hQ
  refine g_aload_n F 0 (dk dtX7_notes_0 0 rfl) rfl ?_
  refine g_iconst F (nI 0) (dk dtX7_notes_0 1 rfl) (by decide) ?_
  refine g_put F fa_X7_56 (dk dtX7_notes_0 2 rfl) (by decide) (cm0 D B _ _) (Nat.le_of_ble_eq_true rfl) rfl rfl (cm0 D B _ _) ?_
  refine g_mem (up2_same h0) ?_
  refine g_aload_n F 0 (dk dtX7_notes_0 3 rfl) rfl ?_
  refine g_iload_n F 1 (dk dtX7_notes_0 4 rfl) rfl ?_
  refine g_callVi F (As := [.int (nI p)]) (st := []) cv_X7_129 (dk dtX7_notes_0 5 rfl) (by decide) (cm0 D B _ _) rfl rfl (Nat.le_of_ble_eq_true rfl) ⟨by decide, by decide⟩ (k_X7_isOne l D B _ _ _ P hP (by omega)) (fun r7 T7 M7 hp7 => ?_)
  obtain ⟨e1, e2, e3⟩ := hp7
  replace e1 := e1.symm; replace e2 := e2.symm; replace e3 := e3.symm; subst e1; subst e2; subst e3
  refine g_if_eqB F 30 (dk dtX7_notes_0 6 rfl) (by decide) (fun c => absurd (inR_nI (by omega)) c) (fun _ => ?_)
  refine g_aload_n F 0 (dk dtX7_notes_0 7 rfl) rfl ?_
  refine g_iload_n F 2 (dk dtX7_notes_0 8 rfl) rfl ?_
  refine g_callVi F (As := [.int (nI k)]) (st := []) cv_X7_132 (dk dtX7_notes_0 9 rfl) (by decide) (cm0 D B _ _) rfl rfl (Nat.le_of_ble_eq_true rfl) ⟨by decide, by decide⟩ (k_X7_isKind l D B _ _ _ K hK (by omega)) (fun r15 T15 M15 hp15 => ?_)
  obtain ⟨e1, e2, e3⟩ := hp15
  replace e1 := e1.symm; replace e2 := e2.symm; replace e3 := e3.symm; subst e1; subst e2; subst e3
  refine g_if_eqB F 30 (dk dtX7_notes_0 10 rfl) (by decide) (fun c => absurd (inR_nI (by omega)) c) (fun _ => ?_)
  refine g_iload_n F 3 (dk dtX7_notes_0 11 rfl) rfl ?_
  refine g_iconst F (nI 0) (dk dtX7_notes_0 12 rfl) (by decide) ?_
  refine g_iconst F (nI 1) (dk dtX7_notes_0 13 rfl) (by decide) ?_
  refine g_callSi F (As := [.int (nI j), .int (nI 0), .int (nI 1)]) (st := []) cs_X7_60 (dk dtX7_notes_0 14 rfl) rfl rfl (Nat.le_of_ble_eq_true rfl) ⟨by decide, by decide⟩ (k_X7_inR l D B _ _ _ 1 (by decide)) (fun r24 T24 M24 hp24 => ?_)
  obtain ⟨e1, e2, e3⟩ := hp24
  replace e1 := e1.symm; replace e2 := e2.symm; replace e3 := e3.symm; subst e1; subst e2; subst e3
  refine g_if_neB F 32 (dk dtX7_notes_0 15 rfl) (by decide) (fun _ => ?_) (fun c => absurd (inR_nI (by omega)) c)
  refine g_aload_n F 0 (dk dtX7_notes_0 18 rfl) rfl ?_
  refine g_get F fa_X7_119 (dk dtX7_notes_0 19 rfl) (by decide) (cm0 D B _ _) rfl ?_
  refine g_top hnn ?_
  refine g_bipush F (nI 6) (dk dtX7_notes_0 20 rfl) (by decide) ?_
  refine g_icmp_neN F 44 (dk dtX7_notes_0 21 rfl) (by decide) (by omega) (by omega) (fun c38 => ?_) (fun c38 => ?_)
  · -- taken at 38
    refine g_aload_n F 0 (dk dtX7_notes_0 24 rfl) rfl ?_
    refine g_get F fa_X7_38 (dk dtX7_notes_0 25 rfl) (by decide) (cm0 D B _ _) rfl ?_
    refine g_aload_n F 0 (dk dtX7_notes_0 26 rfl) rfl ?_
    refine g_get F fa_X7_119 (dk dtX7_notes_0 27 rfl) (by decide) (cm0 D B _ _) rfl ?_
    refine g_top hnn ?_
    refine g_iload_n F 1 (dk dtX7_notes_0 28 rfl) rfl ?_
    refine g_iast F (nn) (dk dtX7_notes_0 29 rfl) (by decide) (fun r => cm10 D B _ r) (by omega) (by decide) ?_
    refine g_aload_n F 0 (dk dtX7_notes_0 30 rfl) rfl ?_
    refine g_get F fa_X7_41 (dk dtX7_notes_0 31 rfl) (by decide) (cm0 D B _ _) rfl ?_
    refine g_aload_n F 0 (dk dtX7_notes_0 32 rfl) rfl ?_
    refine g_get F fa_X7_119 (dk dtX7_notes_0 33 rfl) (by decide) (cm0 D B _ _) rfl ?_
    refine g_top (congrFun (up2_ne _ _ (by decide)) _) ?_
    refine g_top hnn ?_
    refine g_iload_n F 2 (dk dtX7_notes_0 34 rfl) rfl ?_
    refine g_iast F (nn) (dk dtX7_notes_0 35 rfl) (by decide) (fun r => cm11 D B _ r) (by omega) (by decide) ?_
    refine g_aload_n F 0 (dk dtX7_notes_0 36 rfl) rfl ?_
    refine g_get F fa_X7_44 (dk dtX7_notes_0 37 rfl) (by decide) (cm0 D B _ _) rfl ?_
    refine g_aload_n F 0 (dk dtX7_notes_0 38 rfl) rfl ?_
    refine g_get F fa_X7_119 (dk dtX7_notes_0 39 rfl) (by decide) (cm0 D B _ _) rfl ?_
    refine g_top (congrFun (up2_ne _ _ (by decide)) _) ?_
    refine g_top (congrFun (up2_ne _ _ (by decide)) _) ?_
    refine g_top hnn ?_
    refine g_iload_n F 3 (dk dtX7_notes_0 40 rfl) rfl ?_
    refine g_iast F (nn) (dk dtX7_notes_0 41 rfl) (by decide) (fun r => cm12 D B _ r) (by omega) (by decide) ?_
    refine g_aload_n F 0 (dk dtX7_notes_0 42 rfl) rfl ?_
    refine g_dup F (dk dtX7_notes_0 43 rfl) rfl ?_
    refine g_get F fa_X7_119 (dk dtX7_notes_0 44 rfl) (by decide) (cm0 D B _ _) rfl ?_
    refine g_top (congrFun (up2_ne _ _ (by decide)) _) ?_
    refine g_top (congrFun (up2_ne _ _ (by decide)) _) ?_
    refine g_top (congrFun (up2_ne _ _ (by decide)) _) ?_
    refine g_top hnn ?_
    refine g_iconst F (nI 1) (dk dtX7_notes_0 45 rfl) (by decide) ?_
    refine g_iaddN F (dk dtX7_notes_0 46 rfl) ?_
    refine g_put F fa_X7_119 (dk dtX7_notes_0 47 rfl) (by decide) (cm0 D B _ _) (Nat.le_of_ble_eq_true rfl) rfl rfl (cm0 D B _ _) ?_
    refine g_aload_n F 0 (dk dtX7_notes_0 48 rfl) rfl ?_
    refine g_get F fa_X7_119 (dk dtX7_notes_0 49 rfl) (by decide) (cm0 D B _ _) rfl ?_
    refine g_top ((congrFun (up2_self _ _ _ _) _).trans pk_us) ?_
    refine g_iret (F := F) hQ (dk dtX7_notes_0 50 rfl) ?_
    exact ⟨rfl, rfl, rfl⟩
  · -- not taken at 38
    exact absurd c38 (by omega)
set_option maxRecDepth 100000 in
set_option maxHeartbeats 4000000 in
theorem k_X7_notes_full (l : Launch) (D : DX) (B : Nat) (T : Int64) (M : Mem) (h0 : M 0 0 = nI 0) (P : Nat) (hP : M 2 2 = nI P) (hP5 : P ≤ 5) (K : Nat) (hK : M 2 0 = nI K) (hK1 : 1 ≤ K) (hK4 : K ≤ 4) (hnn : M 0 22 = nI 6) (p k j : Nat) (hp : p < P) (hk : k < K) (hj : j < 2) : Ci l D B 14 (celM D B) yX7_notes cX7_notes 4 (some .int) 2 [.ref (B + 0), .int (nI p), .int (nI k), .int (nI j)] T M (fun rz T1 M1 => rz = (-3) ∧ T1 = T ∧ M1 = M) := by
  refine g_entryi (L := [(0, .ref (B + 0)), (1, .int (nI p)), (2, .int (nI k)), (3, .int (nI j))]) (by decide) (Nat.le_of_ble_eq_true rfl) rfl ?_
  intro zp ze zs zm zb zt zc Q F hQ
  refine g_aload_n F 0 (dk dtX7_notes_0 0 rfl) rfl ?_
  refine g_iconst F (nI 0) (dk dtX7_notes_0 1 rfl) (by decide) ?_
  refine g_put F fa_X7_56 (dk dtX7_notes_0 2 rfl) (by decide) (cm0 D B _ _) (Nat.le_of_ble_eq_true rfl) rfl rfl (cm0 D B _ _) ?_
  refine g_mem (up2_same h0) ?_
  refine g_aload_n F 0 (dk dtX7_notes_0 3 rfl) rfl ?_
  refine g_iload_n F 1 (dk dtX7_notes_0 4 rfl) rfl ?_
  refine g_callVi F (As := [.int (nI p)]) (st := []) cv_X7_129 (dk dtX7_notes_0 5 rfl) (by decide) (cm0 D B _ _) rfl rfl (Nat.le_of_ble_eq_true rfl) ⟨by decide, by decide⟩ (k_X7_isOne l D B _ _ _ P hP (by omega)) (fun r7 T7 M7 hp7 => ?_)
  obtain ⟨e1, e2, e3⟩ := hp7
  replace e1 := e1.symm; replace e2 := e2.symm; replace e3 := e3.symm; subst e1; subst e2; subst e3
  refine g_if_eqB F 30 (dk dtX7_notes_0 6 rfl) (by decide) (fun c => absurd (inR_nI (by omega)) c) (fun _ => ?_)
  refine g_aload_n F 0 (dk dtX7_notes_0 7 rfl) rfl ?_
  refine g_iload_n F 2 (dk dtX7_notes_0 8 rfl) rfl ?_
  refine g_callVi F (As := [.int (nI k)]) (st := []) cv_X7_132 (dk dtX7_notes_0 9 rfl) (by decide) (cm0 D B _ _) rfl rfl (Nat.le_of_ble_eq_true rfl) ⟨by decide, by decide⟩ (k_X7_isKind l D B _ _ _ K hK (by omega)) (fun r15 T15 M15 hp15 => ?_)
  obtain ⟨e1, e2, e3⟩ := hp15
  replace e1 := e1.symm; replace e2 := e2.symm; replace e3 := e3.symm; subst e1; subst e2; subst e3
  refine g_if_eqB F 30 (dk dtX7_notes_0 10 rfl) (by decide) (fun c => absurd (inR_nI (by omega)) c) (fun _ => ?_)
  refine g_iload_n F 3 (dk dtX7_notes_0 11 rfl) rfl ?_
  refine g_iconst F (nI 0) (dk dtX7_notes_0 12 rfl) (by decide) ?_
  refine g_iconst F (nI 1) (dk dtX7_notes_0 13 rfl) (by decide) ?_
  refine g_callSi F (As := [.int (nI j), .int (nI 0), .int (nI 1)]) (st := []) cs_X7_60 (dk dtX7_notes_0 14 rfl) rfl rfl (Nat.le_of_ble_eq_true rfl) ⟨by decide, by decide⟩ (k_X7_inR l D B _ _ _ 1 (by decide)) (fun r24 T24 M24 hp24 => ?_)
  obtain ⟨e1, e2, e3⟩ := hp24
  replace e1 := e1.symm; replace e2 := e2.symm; replace e3 := e3.symm; subst e1; subst e2; subst e3
  refine g_if_neB F 32 (dk dtX7_notes_0 15 rfl) (by decide) (fun _ => ?_) (fun c => absurd (inR_nI (by omega)) c)
  refine g_aload_n F 0 (dk dtX7_notes_0 18 rfl) rfl ?_
  refine g_get F fa_X7_119 (dk dtX7_notes_0 19 rfl) (by decide) (cm0 D B _ _) rfl ?_
  refine g_top hnn ?_
  refine g_bipush F (nI 6) (dk dtX7_notes_0 20 rfl) (by decide) ?_
  refine g_icmp_neN F 44 (dk dtX7_notes_0 21 rfl) (by decide) (by decide) (by decide) (fun c => absurd c (by decide)) (fun _ => ?_)
  refine g_bipush F (-3) (dk dtX7_notes_0 22 rfl) (by decide) ?_
  refine g_iret (F := F) hQ (dk dtX7_notes_0 23 rfl) ?_
  exact ⟨rfl, rfl, rfl⟩
set_option maxRecDepth 100000 in
set_option maxHeartbeats 4000000 in
theorem k_X7_notes_bad (l : Launch) (D : DX) (B : Nat) (T : Int64) (M : Mem) (h0 : M 0 0 = nI 0) (P : Nat) (hP : M 2 2 = nI P) (hP5 : P ≤ 5) (K : Nat) (hK : M 2 0 = nI K) (hK1 : 1 ≤ K) (hK4 : K ≤ 4) (p k j : Int32) (hb : ¬ (inR p P ∧ inR k K ∧ inR j 2)) : Ci l D B 14 (celM D B) yX7_notes cX7_notes 4 (some .int) 2 [.ref (B + 0), .int p, .int k, .int j] T M (fun rz T1 M1 => rz = (-1) ∧ T1 = T ∧ M1 = M) := by
  refine g_entryi (L := [(0, .ref (B + 0)), (1, .int p), (2, .int k), (3, .int j)]) (by decide) (Nat.le_of_ble_eq_true rfl) rfl ?_
  intro zp ze zs zm zb zt zc Q F hQ
  refine g_aload_n F 0 (dk dtX7_notes_0 0 rfl) rfl ?_
  refine g_iconst F (nI 0) (dk dtX7_notes_0 1 rfl) (by decide) ?_
  refine g_put F fa_X7_56 (dk dtX7_notes_0 2 rfl) (by decide) (cm0 D B _ _) (Nat.le_of_ble_eq_true rfl) rfl rfl (cm0 D B _ _) ?_
  refine g_mem (up2_same h0) ?_
  refine g_aload_n F 0 (dk dtX7_notes_0 3 rfl) rfl ?_
  refine g_iload_n F 1 (dk dtX7_notes_0 4 rfl) rfl ?_
  refine g_callVi F (As := [.int p]) (st := []) cv_X7_129 (dk dtX7_notes_0 5 rfl) (by decide) (cm0 D B _ _) rfl rfl (Nat.le_of_ble_eq_true rfl) ⟨by decide, by decide⟩ (k_X7_isOne l D B _ _ _ P hP (by omega)) (fun r7 T7 M7 hp7 => ?_)
  obtain ⟨e1, e2, e3⟩ := hp7
  replace e1 := e1.symm; replace e2 := e2.symm; replace e3 := e3.symm; subst e1; subst e2; subst e3
  refine g_if_eqB F 30 (dk dtX7_notes_0 6 rfl) (by decide) (fun c10 => ?_) (fun c10 => ?_)
  · -- taken at 10
    refine g_iconst F (-1) (dk dtX7_notes_0 16 rfl) (by decide) ?_
    refine g_iret (F := F) hQ (dk dtX7_notes_0 17 rfl) ?_
    exact ⟨rfl, rfl, rfl⟩
  · -- not taken at 10
    refine g_aload_n F 0 (dk dtX7_notes_0 7 rfl) rfl ?_
    refine g_iload_n F 2 (dk dtX7_notes_0 8 rfl) rfl ?_
    refine g_callVi F (As := [.int k]) (st := []) cv_X7_132 (dk dtX7_notes_0 9 rfl) (by decide) (cm0 D B _ _) rfl rfl (Nat.le_of_ble_eq_true rfl) ⟨by decide, by decide⟩ (k_X7_isKind l D B _ _ _ K hK (by omega)) (fun r15 T15 M15 hp15 => ?_)
    obtain ⟨e1, e2, e3⟩ := hp15
    replace e1 := e1.symm; replace e2 := e2.symm; replace e3 := e3.symm; subst e1; subst e2; subst e3
    refine g_if_eqB F 30 (dk dtX7_notes_0 10 rfl) (by decide) (fun c18 => ?_) (fun c18 => ?_)
    · -- taken at 18
      refine g_iconst F (-1) (dk dtX7_notes_0 16 rfl) (by decide) ?_
      refine g_iret (F := F) hQ (dk dtX7_notes_0 17 rfl) ?_
      exact ⟨rfl, rfl, rfl⟩
    · -- not taken at 18
      refine g_iload_n F 3 (dk dtX7_notes_0 11 rfl) rfl ?_
      refine g_iconst F (nI 0) (dk dtX7_notes_0 12 rfl) (by decide) ?_
      refine g_iconst F (nI 1) (dk dtX7_notes_0 13 rfl) (by decide) ?_
      refine g_callSi F (As := [.int j, .int (nI 0), .int (nI 1)]) (st := []) cs_X7_60 (dk dtX7_notes_0 14 rfl) rfl rfl (Nat.le_of_ble_eq_true rfl) ⟨by decide, by decide⟩ (k_X7_inR l D B _ _ _ 1 (by decide)) (fun r24 T24 M24 hp24 => ?_)
      obtain ⟨e1, e2, e3⟩ := hp24
      replace e1 := e1.symm; replace e2 := e2.symm; replace e3 := e3.symm; subst e1; subst e2; subst e3
      refine g_if_neB F 32 (dk dtX7_notes_0 15 rfl) (by decide) (fun c27 => ?_) (fun c27 => ?_)
      · -- taken at 27
        exact absurd ⟨c10, c18, c27⟩ hb
      · -- not taken at 27
        refine g_iconst F (-1) (dk dtX7_notes_0 16 rfl) (by decide) ?_
        refine g_iret (F := F) hQ (dk dtX7_notes_0 17 rfl) ?_
        exact ⟨rfl, rfl, rfl⟩
end
section
def putn (u row : Nat → Int32) (d n : Nat) : Nat → Int32 := fun j => if d ≤ j ∧ j < d + n then row (j - d) else u j
theorem putn_0 {M : Mem} {k : Nat} {u : Nat → Int32} (hu : M k = u) (row : Nat → Int32) (d : Nat) : M = setR M k (putn u row d 0) := by
  subst hu
  funext i
  by_cases h : i = k
  · subst h
    rw [setR_self]
    funext j
    simp only [putn]
    rw [if_neg (by omega)]
  · rw [setR_ne _ _ h]
theorem putn_s (u row : Nat → Int32) (d n : Nat) : upd (putn u row d n) (d + n) (row n) = putn u row d (n + 1) := by
  funext j
  by_cases h : j = d + n
  · subst h
    simp only [upd, putn, if_true]
    rw [if_pos (by omega), show d + n - d = n by omega]
  · simp only [upd, putn, if_neg h]
    by_cases h2 : d ≤ j ∧ j < d + n
    · rw [if_pos h2, if_pos (by omega)]
    · rw [if_neg h2, if_neg (by omega)]
def shn (u : Nat → Int32) (n : Nat) : Nat → Int32 := fun j => if j < n then u (j + 31) else u j
theorem shn_0 (M : Mem) (k : Nat) : M = setR M k (shn (M k) 0) := by
  funext i
  by_cases h : i = k
  · subst h
    rw [setR_self]
    funext j
    simp [shn]
  · rw [setR_ne _ _ h]
theorem shn_hi (u : Nat → Int32) {n j : Nat} (h : n ≤ j) : shn u n j = u j := by simp [shn, Nat.not_lt.mpr h]
theorem shn_s (u : Nat → Int32) (n : Nat) : upd (shn u n) n (u (n + 31)) = shn u (n + 1) := by
  funext j
  by_cases h : j = n
  · subst h; simp [upd, shn]
  · by_cases h2 : j < n
    · simp [upd, shn, h, h2, Nat.lt_succ_of_lt h2]
    · simp [upd, shn, h, h2, show ¬ j < n + 1 by omega]
def kb (M : Mem) (U : Nat) : Mem := if U = 10 then up2 (setR (up2 (setR M 9 (shn (M 9) 279)) 0 18 (nI 9)) 9 (putn (shn (M 9) 279) (M 5) 279 31)) 0 18 (nI 10) else up2 (setR M 9 (putn (M 9) (M 5) (31 * U) 31)) 0 18 (nI (U + 1))
theorem kb_fr (M : Mem) (U : Nat) {c : Nat} (h : c ≠ 0 ∧ c ≠ 9) : kb M U c = M c := by
  unfold kb
  split
  · rw [up2_ne _ _ h.1, setR_ne _ _ h.2, up2_ne _ _ h.1, setR_ne _ _ h.2]
  · rw [up2_ne _ _ h.1, setR_ne _ _ h.2]
def tlR (row : Nat → Int32) (p k : Nat) : Nat → Int32 := upd row (5 + 4 * p + k) (row (5 + 4 * p + k) + (if row (5 + 4 * p + k) < nI 999 then nI 1 else nI 0))
theorem tlR_n1 {row : Nat → Int32} {p k : Nat} (h : nI 999 ≤ row (5 + 4 * p + k)) : row (5 + 4 * p + k) + nI 0 = tlR row p k (5 + 4 * p + k) := by
  simp only [tlR, upd, if_true]
  rw [if_neg (Int32.not_lt.mpr h)]
theorem tlR_y1 {row : Nat → Int32} {p k : Nat} (h : ¬ nI 999 ≤ row (5 + 4 * p + k)) : row (5 + 4 * p + k) + nI 1 = tlR row p k (5 + 4 * p + k) := by
  simp only [tlR, upd, if_true]
  rw [if_pos (Int32.not_le.mp h)]
theorem tlR_nM (M : Mem) (U : Nat) {p k : Nat} (h : nI 999 ≤ M 5 (5 + 4 * p + k)) : up2 (kb M U) 5 (5 + 4 * p + k) (M 5 (5 + 4 * p + k) + nI 0) = setR (kb M U) 5 (tlR (M 5) p k) := by
  unfold up2
  rw [kb_fr M U (by decide)]
  simp only [tlR]
  rw [if_neg (Int32.not_lt.mpr h)]
theorem tlR_yM (M : Mem) (U : Nat) {p k : Nat} (h : ¬ nI 999 ≤ M 5 (5 + 4 * p + k)) : up2 (kb M U) 5 (5 + 4 * p + k) (M 5 (5 + 4 * p + k) + nI 1) = setR (kb M U) 5 (tlR (M 5) p k) := by
  unfold up2
  rw [kb_fr M U (by decide)]
  simp only [tlR]
  rw [if_pos (Int32.not_le.mp h)]
theorem cpU_0 (M : Mem) (U : Nat) : up2 M 0 18 (nI U) = setR (up2 M 0 18 (nI U)) 5 (cpR (fun j => M 9 (31 * U + j)) (M 5) 0) := by
  funext i
  by_cases h : i = 5
  · subst h
    rw [setR_self, up2_ne _ _ (by decide)]
    funext j
    simp [cpR]
  · rw [setR_ne _ _ h]
theorem cpB_0 (M : Mem) (g : Nat) : M = setR M 5 (cpR (fun j => M 7 (31 * g + j)) (M 5) 0) := by
  funext i
  by_cases h : i = 5
  · subst h
    rw [setR_self]
    funext j
    simp [cpR]
  · rw [setR_ne _ _ h]
def Sm (M M1 : Mem) : Prop := ∀ i, i ≠ 6 → i ≠ 13 → M1 i = M i
theorem WR_upd {row : Nat → Int32} (h : WR row) {i : Nat} {v : Int32} (hv : (i < 5 ∨ 25 ≤ i) ∨ ∃ s : Nat, s ≤ 999 ∧ v = nI s) : WR (upd row i v) := by
  intro j hj
  by_cases hi : 5 + j = i
  · rcases hv with hv | ⟨s, hs, e⟩
    · omega
    · exact ⟨s, hs, by simp [upd, hi, e]⟩
  · obtain ⟨s, hs, e⟩ := h j hj
    exact ⟨s, hs, by simp [upd, hi, e]⟩
theorem e2_WR {R1 : Nat → Int32} (h : WR R1) {k : Nat} (hk : k < 4) (x : Int32) (n : Nat) : WR (e2 R1 k x n) := by
  induction n with
  | zero => exact h
  | succ n ih =>
    simp only [e2]
    apply WR_upd ih
    by_cases hn : 4 * n + k < 20
    · right
      obtain ⟨s, hs, e⟩ := ih (4 * n + k) hn
      rw [show 5 + 4 * n + k = 5 + (4 * n + k) by omega, e]
      split
      · rename_i hc
        have := (nI_ltI (by omega) (by omega)).mp hc.2
        exact ⟨s + 1, by omega, by rw [nI_add]⟩
      · exact ⟨s, hs, by rw [nI_add]; rfl⟩
    · left
      omega
theorem e1_WR {row : Nat → Int32} (h : WR row) (f : Int32) : WR (e1 row f) := by
  unfold e1
  split
  · exact h
  · exact WR_upd (WR_upd h (Or.inl (by omega))) (Or.inl (by omega))
theorem evR_WR {nv : Nat → Int32} {Kv : Int32} {row : Nat → Int32} (h : WR row) {k : Nat} (hk : k < 4) {x : Int32} {P : Nat} : WR (evR nv Kv row k x P) := e2_WR (e1_WR h _) hk x P
def stA (nv : Nat → Int32) (Kv : Int32) (k : Nat) (x : Int32) (P : Nat) : (Nat → Int32) → Nat → Nat → Int32
  | _, _, 0 => -9
  | row, n, f + 1 => if (eF nv Kv row k x P).1 = 0 then nI n else stA nv Kv k x P (evR nv Kv row k x P) (n + 1) f
theorem stA_s {nv : Nat → Int32} {Kv : Int32} {k : Nat} {x : Int32} {P : Nat} {row : Nat → Int32} {i : Nat} {v : Int32} (hi : i < 100) (hc : ¬ (eF nv Kv row k x P).1 = 0) (h : stA nv Kv k x P row i (100 - i) = v) : stA nv Kv k x P (evR nv Kv row k x P) (i + 1) (100 - (i + 1)) = v := by
  rw [show 100 - i = (100 - (i + 1)) + 1 by omega] at h
  simp only [stA] at h
  rwa [if_neg hc] at h
theorem stA_hit {nv : Nat → Int32} {Kv : Int32} {k : Nat} {x : Int32} {P : Nat} {row : Nat → Int32} {i : Nat} {v : Int32} (hi : i < 100) (hc : (eF nv Kv row k x P).1 = 0) (h : stA nv Kv k x P row i (100 - i) = v) : v = nI i := by
  rw [show 100 - i = (100 - (i + 1)) + 1 by omega] at h
  simp only [stA] at h
  rw [if_pos hc] at h
  exact h.symm
set_option maxRecDepth 100000 in
set_option maxHeartbeats 4000000 in
theorem k_X7_keeps_lt (l : Launch) (D : DX) (B : Nat) (T : Int64) (M : Mem) (U : Nat) (hU : M 0 18 = nI U) (hU9 : U < 10) : Cv l D B 14 (celM D B) yX7_keepsBefore cX7_keepsBefore 2 none 0 [.ref (B + 0)] T M (fun T1 M1 => T1 = T ∧ M1 = up2 (setR M 9 (putn (M 9) (M 5) (31 * U) 31)) 0 18 (nI (U + 1))) := by
  refine g_entryv (L := [(0, .ref (B + 0))]) (by decide) (Nat.le_of_ble_eq_true rfl) rfl ?_
  intro zp ze zs zm zb zt zc Q F hQ
  refine g_aload_n F 0 (dk dtX7_keepsBefore_0 0 rfl) rfl ?_
  refine g_get F fa_X7_122 (dk dtX7_keepsBefore_0 1 rfl) (by decide) (cm0 D B _ _) rfl ?_
  refine g_top hU ?_
  refine g_bipush F (nI 10) (dk dtX7_keepsBefore_0 2 rfl) (by decide) ?_
  refine g_icmp_neN F 45 (dk dtX7_keepsBefore_0 3 rfl) (by decide) (by omega) (by omega) (fun c6 => ?_) (fun c6 => ?_)
  · -- taken at 6
    refine g_iconst F (nI 0) (dk dtX7_keepsBefore_0 24 rfl) (by decide) ?_
    refine g_istore_n F [(1, .int (nI 0)), (0, .ref (B + 0))] (dk dtX7_keepsBefore_0 25 rfl) (by decide) rfl ?_
    have lp47 : ∀ (fz : Nat) (i : Nat), i ≤ 31 → (31 - i) < fz → G zp l ze { frames := 0, cells := 0, slots := 0, locals := 40 * 0 } zs zm [.ref (B + 0)].toArray zb zt zc 2 D B 14 (celM D B) Q T (setR M 9 (putn (M 9) (M 5) (31 * U) i)) 47 [(0, .ref (B + 0)), (1, .int (nI i))] [] := by
      intro n47
      induction n47 with
      | zero => intro i hI hn; exact absurd hn (Nat.not_lt_zero _)
      | succ n47 ih47 =>
        intro i hI47 hn47
        refine g_iload_n F 1 (dk dtX7_keepsBefore_0 26 rfl) rfl ?_
        refine g_bipush F (nI 31) (dk dtX7_keepsBefore_0 27 rfl) (by decide) ?_
        refine g_icmp_geN F 79 (dk dtX7_keepsBefore_0 28 rfl) (by decide) (by omega) (by omega) (fun c50 => ?_) (fun c50 => ?_)
        · -- taken at 50
          obtain rfl : 31 = i := by omega
          refine g_aload_n F 0 (dk dtX7_keepsBefore_0 44 rfl) rfl ?_
          refine g_dup F (dk dtX7_keepsBefore_0 45 rfl) rfl ?_
          refine g_get F fa_X7_122 (dk dtX7_keepsBefore_0 46 rfl) (by decide) (cm0 D B _ _) rfl ?_
          refine g_top (congrFun (setR_ne _ _ (by decide)) _) ?_
          refine g_top hU ?_
          refine g_iconst F (nI 1) (dk dtX7_keepsBefore_0 47 rfl) (by decide) ?_
          refine g_iaddN F (dk dtX7_keepsBefore_0 48 rfl) ?_
          refine g_put F fa_X7_122 (dk dtX7_keepsBefore_0 49 rfl) (by decide) (cm0 D B _ _) (Nat.le_of_ble_eq_true rfl) rfl rfl (cm0 D B _ _) ?_
          refine g_vret (F := F) hQ (dk dtX7_keepsBefore_0 50 rfl) ?_
          exact ⟨rfl, rfl⟩
        · -- not taken at 50
          refine g_aload_n F 0 (dk dtX7_keepsBefore_0 29 rfl) rfl ?_
          refine g_get F fa_X7_35 (dk dtX7_keepsBefore_0 30 rfl) (by decide) (cm0 D B _ _) rfl ?_
          refine g_bipush F (nI 31) (dk dtX7_keepsBefore_0 31 rfl) (by decide) ?_
          refine g_aload_n F 0 (dk dtX7_keepsBefore_0 32 rfl) rfl ?_
          refine g_get F fa_X7_122 (dk dtX7_keepsBefore_0 33 rfl) (by decide) (cm0 D B _ _) rfl ?_
          refine g_top (congrFun (setR_ne _ _ (by decide)) _) ?_
          refine g_top hU ?_
          refine g_imulN F (dk dtX7_keepsBefore_0 34 rfl) ?_
          refine g_iload_n F 1 (dk dtX7_keepsBefore_0 35 rfl) rfl ?_
          refine g_iaddN F (dk dtX7_keepsBefore_0 36 rfl) ?_
          refine g_aload_n F 0 (dk dtX7_keepsBefore_0 37 rfl) rfl ?_
          refine g_get F fa_X7_22 (dk dtX7_keepsBefore_0 38 rfl) (by decide) (cm0 D B _ _) rfl ?_
          refine g_iload_n F 1 (dk dtX7_keepsBefore_0 39 rfl) rfl ?_
          refine g_iald F (i) (dk dtX7_keepsBefore_0 40 rfl) (by decide) (cm5 D B _ _) (by omega) (by decide) ?_
          refine g_top (congrFun (setR_ne _ _ (by decide)) _) ?_
          refine g_iast F ((31 * U) + i) (dk dtX7_keepsBefore_0 41 rfl) (by decide) (fun r => cm9 D B _ r) (by omega) (by decide) ?_
          refine g_iinc F 1 (nI (i + 1)) [(1, .int (nI (i + 1))), (0, .ref (B + 0))] (dk dtX7_keepsBefore_0 42 rfl) rfl (nI_1 _) (by decide) rfl ?_
          refine g_goto F 47 (dk dtX7_keepsBefore_0 43 rfl) (by decide) ?_
          refine g_sub [1, 0] (L1 := [(0, .ref (B + 0)), (1, .int (nI (i + 1)))]) rfl ?_
          refine g_st (M1 := setR M 9 (putn (M 9) (M 5) (31 * U) (i + 1))) (L1 := [(0, .ref (B + 0)), (1, .int (nI (i + 1)))]) (by rw [up2_setR]; exact congrArg (setR M 9) (putn_s _ _ _ _)) rfl rfl ?_
          exact ih47 (i + 1) (by omega) (by omega)
    refine g_sub [1, 0] (L1 := [(0, .ref (B + 0)), (1, .int (nI 0))]) rfl ?_
    exact g_mem (putn_0 rfl _ _) (lp47 32 0 (by omega) (by omega))
  · -- not taken at 6
    exact absurd c6 (by omega)
set_option maxRecDepth 100000 in
set_option maxHeartbeats 4000000 in
theorem k_X7_keeps_10 (l : Launch) (D : DX) (B : Nat) (T : Int64) (M : Mem) (hU : M 0 18 = nI 10) : Cv l D B 14 (celM D B) yX7_keepsBefore cX7_keepsBefore 2 none 0 [.ref (B + 0)] T M (fun T1 M1 => T1 = T ∧ M1 = up2 (setR (up2 (setR M 9 (shn (M 9) 279)) 0 18 (nI 9)) 9 (putn (shn (M 9) 279) (M 5) 279 31)) 0 18 (nI 10)) := by
  refine g_entryv (L := [(0, .ref (B + 0))]) (by decide) (Nat.le_of_ble_eq_true rfl) rfl ?_
  intro zp ze zs zm zb zt zc Q F hQ
  refine g_aload_n F 0 (dk dtX7_keepsBefore_0 0 rfl) rfl ?_
  refine g_get F fa_X7_122 (dk dtX7_keepsBefore_0 1 rfl) (by decide) (cm0 D B _ _) rfl ?_
  refine g_top hU ?_
  refine g_bipush F (nI 10) (dk dtX7_keepsBefore_0 2 rfl) (by decide) ?_
  refine g_icmp_neN F 45 (dk dtX7_keepsBefore_0 3 rfl) (by decide) (by decide) (by decide) (fun c => absurd c (by decide)) (fun _ => ?_)
  refine g_iconst F (nI 0) (dk dtX7_keepsBefore_0 4 rfl) (by decide) ?_
  refine g_istore_n F [(1, .int (nI 0)), (0, .ref (B + 0))] (dk dtX7_keepsBefore_0 5 rfl) (by decide) rfl ?_
  have lp11 : ∀ (fz : Nat) (i : Nat), i ≤ 279 → (279 - i) < fz → G zp l ze { frames := 0, cells := 0, slots := 0, locals := 40 * 0 } zs zm [.ref (B + 0)].toArray zb zt zc 2 D B 14 (celM D B) Q T (setR M 9 (shn (M 9) i)) 11 [(0, .ref (B + 0)), (1, .int (nI i))] [] := by
    intro n11
    induction n11 with
    | zero => intro i hI hn; exact absurd hn (Nat.not_lt_zero _)
    | succ n11 ih11 =>
      intro i hI11 hn11
      refine g_iload_n F 1 (dk dtX7_keepsBefore_0 6 rfl) rfl ?_
      refine g_sipush F (nI 279) (dk dtX7_keepsBefore_0 7 rfl) (by decide) ?_
      refine g_icmp_geN F 39 (dk dtX7_keepsBefore_0 8 rfl) (by decide) (by omega) (by omega) (fun c15 => ?_) (fun c15 => ?_)
      · -- taken at 15
        obtain rfl : 279 = i := by omega
        refine g_aload_n F 0 (dk dtX7_keepsBefore_0 21 rfl) rfl ?_
        refine g_bipush F (nI 9) (dk dtX7_keepsBefore_0 22 rfl) (by decide) ?_
        refine g_put F fa_X7_122 (dk dtX7_keepsBefore_0 23 rfl) (by decide) (cm0 D B _ _) (Nat.le_of_ble_eq_true rfl) rfl rfl (cm0 D B _ _) ?_
        refine g_iconst F (nI 0) (dk dtX7_keepsBefore_0 24 rfl) (by decide) ?_
        refine g_istore_n F [(1, .int (nI 0)), (0, .ref (B + 0))] (dk dtX7_keepsBefore_0 25 rfl) (by decide) rfl ?_
        have lp47 : ∀ (fz : Nat) (i : Nat), i ≤ 31 → (31 - i) < fz → G zp l ze { frames := 0, cells := 0, slots := 0, locals := 40 * 0 } zs zm [.ref (B + 0)].toArray zb zt zc 2 D B 14 (celM D B) Q T (setR (up2 (setR M 9 (shn (M 9) 279)) 0 18 (nI 9)) 9 (putn (shn (M 9) 279) (M 5) 279 i)) 47 [(0, .ref (B + 0)), (1, .int (nI i))] [] := by
          intro n47
          induction n47 with
          | zero => intro i hI hn; exact absurd hn (Nat.not_lt_zero _)
          | succ n47 ih47 =>
            intro i hI47 hn47
            refine g_iload_n F 1 (dk dtX7_keepsBefore_0 26 rfl) rfl ?_
            refine g_bipush F (nI 31) (dk dtX7_keepsBefore_0 27 rfl) (by decide) ?_
            refine g_icmp_geN F 79 (dk dtX7_keepsBefore_0 28 rfl) (by decide) (by omega) (by omega) (fun c50 => ?_) (fun c50 => ?_)
            · -- taken at 50
              obtain rfl : 31 = i := by omega
              refine g_aload_n F 0 (dk dtX7_keepsBefore_0 44 rfl) rfl ?_
              refine g_dup F (dk dtX7_keepsBefore_0 45 rfl) rfl ?_
              refine g_get F fa_X7_122 (dk dtX7_keepsBefore_0 46 rfl) (by decide) (cm0 D B _ _) rfl ?_
              refine g_top (congrFun (setR_ne _ _ (by decide)) _) ?_
              refine g_top ((congrFun (up2_self _ _ _ _) _).trans pk_us) ?_
              refine g_iconst F (nI 1) (dk dtX7_keepsBefore_0 47 rfl) (by decide) ?_
              refine g_iaddN F (dk dtX7_keepsBefore_0 48 rfl) ?_
              refine g_put F fa_X7_122 (dk dtX7_keepsBefore_0 49 rfl) (by decide) (cm0 D B _ _) (Nat.le_of_ble_eq_true rfl) rfl rfl (cm0 D B _ _) ?_
              refine g_vret (F := F) hQ (dk dtX7_keepsBefore_0 50 rfl) ?_
              exact ⟨rfl, rfl⟩
            · -- not taken at 50
              refine g_aload_n F 0 (dk dtX7_keepsBefore_0 29 rfl) rfl ?_
              refine g_get F fa_X7_35 (dk dtX7_keepsBefore_0 30 rfl) (by decide) (cm0 D B _ _) rfl ?_
              refine g_bipush F (nI 31) (dk dtX7_keepsBefore_0 31 rfl) (by decide) ?_
              refine g_aload_n F 0 (dk dtX7_keepsBefore_0 32 rfl) rfl ?_
              refine g_get F fa_X7_122 (dk dtX7_keepsBefore_0 33 rfl) (by decide) (cm0 D B _ _) rfl ?_
              refine g_top (congrFun (setR_ne _ _ (by decide)) _) ?_
              refine g_top ((congrFun (up2_self _ _ _ _) _).trans pk_us) ?_
              refine g_imulN F (dk dtX7_keepsBefore_0 34 rfl) ?_
              refine g_iload_n F 1 (dk dtX7_keepsBefore_0 35 rfl) rfl ?_
              refine g_iaddN F (dk dtX7_keepsBefore_0 36 rfl) ?_
              refine g_aload_n F 0 (dk dtX7_keepsBefore_0 37 rfl) rfl ?_
              refine g_get F fa_X7_22 (dk dtX7_keepsBefore_0 38 rfl) (by decide) (cm0 D B _ _) rfl ?_
              refine g_iload_n F 1 (dk dtX7_keepsBefore_0 39 rfl) rfl ?_
              refine g_iald F (i) (dk dtX7_keepsBefore_0 40 rfl) (by decide) (cm5 D B _ _) (by omega) (by decide) ?_
              refine g_top (congrFun (setR_ne _ _ (by decide)) _) ?_
              refine g_top (congrFun (up2_ne _ _ (by decide)) _) ?_
              refine g_top (congrFun (setR_ne _ _ (by decide)) _) ?_
              refine g_iast F ((31 * 9) + i) (dk dtX7_keepsBefore_0 41 rfl) (by decide) (fun r => cm9 D B _ r) (by omega) (by decide) ?_
              refine g_iinc F 1 (nI (i + 1)) [(1, .int (nI (i + 1))), (0, .ref (B + 0))] (dk dtX7_keepsBefore_0 42 rfl) rfl (nI_1 _) (by decide) rfl ?_
              refine g_goto F 47 (dk dtX7_keepsBefore_0 43 rfl) (by decide) ?_
              refine g_sub [1, 0] (L1 := [(0, .ref (B + 0)), (1, .int (nI (i + 1)))]) rfl ?_
              refine g_st (M1 := setR (up2 (setR M 9 (shn (M 9) 279)) 0 18 (nI 9)) 9 (putn (shn (M 9) 279) (M 5) 279 (i + 1))) (L1 := [(0, .ref (B + 0)), (1, .int (nI (i + 1)))]) (by rw [up2_setR]; exact congrArg (setR _ 9) (putn_s _ _ 279 _)) rfl rfl ?_
              exact ih47 (i + 1) (by omega) (by omega)
        refine g_sub [1, 0] (L1 := [(0, .ref (B + 0)), (1, .int (nI 0))]) rfl ?_
        exact g_mem (putn_0 ((up2_ne _ _ (by decide)).trans (setR_self _ _ _)) _ _) (lp47 32 0 (by omega) (by omega))
      · -- not taken at 15
        refine g_aload_n F 0 (dk dtX7_keepsBefore_0 9 rfl) rfl ?_
        refine g_get F fa_X7_35 (dk dtX7_keepsBefore_0 10 rfl) (by decide) (cm0 D B _ _) rfl ?_
        refine g_iload_n F 1 (dk dtX7_keepsBefore_0 11 rfl) rfl ?_
        refine g_aload_n F 0 (dk dtX7_keepsBefore_0 12 rfl) rfl ?_
        refine g_get F fa_X7_35 (dk dtX7_keepsBefore_0 13 rfl) (by decide) (cm0 D B _ _) rfl ?_
        refine g_iload_n F 1 (dk dtX7_keepsBefore_0 14 rfl) rfl ?_
        refine g_bipush F (nI 31) (dk dtX7_keepsBefore_0 15 rfl) (by decide) ?_
        refine g_iaddN F (dk dtX7_keepsBefore_0 16 rfl) ?_
        refine g_iald F (i + 31) (dk dtX7_keepsBefore_0 17 rfl) (by decide) (cm9 D B _ _) (by omega) (by decide) ?_
        refine g_top (congrFun (setR_self _ _ _) _) ?_
        refine g_top (shn_hi _ (by omega)) ?_
        refine g_iast F (i) (dk dtX7_keepsBefore_0 18 rfl) (by decide) (fun r => cm9 D B _ r) (by omega) (by decide) ?_
        refine g_iinc F 1 (nI (i + 1)) [(1, .int (nI (i + 1))), (0, .ref (B + 0))] (dk dtX7_keepsBefore_0 19 rfl) rfl (nI_1 _) (by decide) rfl ?_
        refine g_goto F 11 (dk dtX7_keepsBefore_0 20 rfl) (by decide) ?_
        refine g_sub [1, 0] (L1 := [(0, .ref (B + 0)), (1, .int (nI (i + 1)))]) rfl ?_
        refine g_st (M1 := setR M 9 (shn (M 9) (i + 1))) (L1 := [(0, .ref (B + 0)), (1, .int (nI (i + 1)))]) (by rw [up2_setR]; exact congrArg (setR M 9) (shn_s _ _)) rfl rfl ?_
        exact ih11 (i + 1) (by omega) (by omega)
  refine g_sub [1, 0] (L1 := [(0, .ref (B + 0)), (1, .int (nI 0))]) rfl ?_
  exact g_mem (shn_0 _ _) (lp11 280 0 (by omega) (by omega))
theorem k_X7_keepsBefore (l : Launch) (D : DX) (B : Nat) (T : Int64) (M : Mem) (U : Nat) (hU : M 0 18 = nI U) (hU10 : U ≤ 10) : Cv l D B 14 (celM D B) yX7_keepsBefore cX7_keepsBefore 2 none 0 [.ref (B + 0)] T M (fun T1 M1 => T1 = T ∧ M1 = kb M U) := by
  by_cases h : U = 10
  · subst h
    have h1 := k_X7_keeps_10 l D B T M hU
    simpa only [kb, if_true] using h1
  · have h1 := k_X7_keeps_lt l D B T M U hU (by omega)
    simpa only [kb, if_neg h] using h1
theorem k_X7_eventR (l : Launch) (D : DX) (B : Nat) (T : Int64) (M : Mem) (c : Nat) (hc : IsRow D B c) (k : Nat) (hk : k < 4) (x : Int32) (nv : Nat → Int32) (Kv : Int32) (row : Nat → Int32) (h3 : M 3 = nv) (h2 : M 2 0 = Kv) (hr : M c = row) (K P : Nat) (hK : Kv = nI K) (hP : M 2 2 = nI P) (hK1 : 1 ≤ K) (hK4 : K ≤ 4) (hP5 : P ≤ 5) (hW : WR row) : Ci l D B 14 (celM D B) yX7_event cX7_event 9 (some .int) 2 [.ref (B + 0), .ref (B + c), .int (nI k), .int x] T M (fun r T1 M1 => r = (eF nv Kv row k x P).1 ∧ T1 = T ∧ M1 = setR M c (evR nv Kv row k x P)) := by
  subst h3 h2 hr
  exact k_X7_event l D B T M c hc k hk x K P hK hP hK1 hK4 hP5 hW
theorem k_X7_mayorOfR (l : Launch) (D : DX) (B : Nat) (T : Int64) (M : Mem) (c : Nat) (hc : IsRow D B c) (row : Nat → Int32) (hr : M c = row) : Ci l D B 14 (celM D B) yX7_mayorOf cX7_mayorOf 1 (some .int) 0 [.ref (B + c)] T M (fun r T1 M1 => r = moR row ∧ T1 = T ∧ M1 = M) := by
  subst hr
  exact k_X7_mayorOf l D B T M c hc
set_option maxRecDepth 100000 in
set_option maxHeartbeats 4000000 in
theorem k_X7_happens (l : Launch) (D : DX) (B : Nat) (T : Int64) (M : Mem) (h0 : M 0 0 = nI 0) (P : Nat) (hP : M 2 2 = nI P) (hP5 : P ≤ 5) (K : Nat) (hK : M 2 0 = nI K) (hK1 : 1 ≤ K) (hK4 : K ≤ 4) (X : Nat) (hX : M 2 1 = nI X) (hX1 : 1 ≤ X) (hX4 : X ≤ 4) (k x : Nat) (hk : k < K) (hx : x < X) (hW : WR (M 5)) (U : Nat) (hU : M 0 18 = nI U) (hU10 : U ≤ 10)  : Ci l D B 14 (celM D B) yX7_happens cX7_happens 3 (some .int) 3 [.ref (B + 0), .int (nI k), .int (nI x)] T M (fun r T1 M1 => r = (eF (M 3) (M 2 0) (M 5) k (nI x) P).1 ∧ T1 = T ∧ M1 = setR (kb M U) 5 (evR (M 3) (M 2 0) (M 5) k (nI x) P)) := by
  refine g_entryi (L := [(0, .ref (B + 0)), (1, .int (nI k)), (2, .int (nI x))]) (by decide) (Nat.le_of_ble_eq_true rfl) rfl ?_
  intro zp ze zs zm zb zt zc Q F hQ
  refine g_aload_n F 0 (dk dtX7_happens_0 0 rfl) rfl ?_
  refine g_iconst F (nI 0) (dk dtX7_happens_0 1 rfl) (by decide) ?_
  refine g_put F fa_X7_56 (dk dtX7_happens_0 2 rfl) (by decide) (cm0 D B _ _) (Nat.le_of_ble_eq_true rfl) rfl rfl (cm0 D B _ _) ?_
  refine g_mem (up2_same h0) ?_
  refine g_aload_n F 0 (dk dtX7_happens_0 3 rfl) rfl ?_
  refine g_iload_n F 1 (dk dtX7_happens_0 4 rfl) rfl ?_
  refine g_callVi F (As := [.int (nI k)]) (st := []) cv_X7_132 (dk dtX7_happens_0 5 rfl) (by decide) (cm0 D B _ _) rfl rfl (Nat.le_of_ble_eq_true rfl) ⟨by decide, by decide⟩ (k_X7_isKind l D B _ _ _ K hK (by omega)) (fun r7 T7 M7 hp7 => ?_)
  obtain ⟨e1, e2, e3⟩ := hp7
  replace e1 := e1.symm; replace e2 := e2.symm; replace e3 := e3.symm; subst e1; subst e2; subst e3
  refine g_if_eqB F 21 (dk dtX7_happens_0 6 rfl) (by decide) (fun c => absurd (inR_nI (by omega)) c) (fun _ => ?_)
  refine g_aload_n F 0 (dk dtX7_happens_0 7 rfl) rfl ?_
  refine g_iload_n F 2 (dk dtX7_happens_0 8 rfl) rfl ?_
  refine g_callVi F (As := [.int (nI x)]) (st := []) cv_X7_151 (dk dtX7_happens_0 9 rfl) (by decide) (cm0 D B _ _) rfl rfl (Nat.le_of_ble_eq_true rfl) ⟨by decide, by decide⟩ (k_X7_isPlace l D B _ _ _ X hX (by omega)) (fun r15 T15 M15 hp15 => ?_)
  obtain ⟨e1, e2, e3⟩ := hp15
  replace e1 := e1.symm; replace e2 := e2.symm; replace e3 := e3.symm; subst e1; subst e2; subst e3
  refine g_if_neB F 23 (dk dtX7_happens_0 10 rfl) (by decide) (fun _ => ?_) (fun c => absurd (inR_nI (by omega)) c)
  refine g_aload_n F 0 (dk dtX7_happens_0 13 rfl) rfl ?_
  refine g_callVv F (As := []) (st := []) cv_X7_154 (dk dtX7_happens_0 14 rfl) (by decide) (cm0 D B _ _) rfl rfl (Nat.le_of_ble_eq_true rfl) ⟨by decide, by decide⟩ (k_X7_keepsBefore l D B _ _ U hU hU10) (fun T24 M24 hp24 => ?_)
  obtain ⟨e2, e3⟩ := hp24
  replace e2 := e2.symm; replace e3 := e3.symm; subst e2; subst e3
  refine g_aload_n F 0 (dk dtX7_happens_0 15 rfl) rfl ?_
  refine g_aload_n F 0 (dk dtX7_happens_0 16 rfl) rfl ?_
  refine g_get F fa_X7_22 (dk dtX7_happens_0 17 rfl) (by decide) (cm0 D B _ _) rfl ?_
  refine g_iload_n F 1 (dk dtX7_happens_0 18 rfl) rfl ?_
  refine g_iload_n F 2 (dk dtX7_happens_0 19 rfl) rfl ?_
  refine g_callVi F (As := [.ref (B + 5), .int (nI k), .int (nI x)]) (st := []) cv_X7_157 (dk dtX7_happens_0 20 rfl) (by decide) (cm0 D B _ _) rfl rfl (Nat.le_of_ble_eq_true rfl) ⟨by decide, by decide⟩ (k_X7_eventR l D B _ _ 5 (isRow5 D B) k (by omega) (nI x) (M 3) ((M 2) 0) (M 5) (kb_fr _ _ (by decide)) (congrFun (kb_fr _ _ (by decide)) 0) (kb_fr _ _ (by decide)) K P hK ((congrFun (kb_fr _ _ (by decide)) _).trans hP) hK1 hK4 hP5 hW) (fun r34 T34 M34 hp34 => ?_)
  obtain ⟨e1, e2, e3⟩ := hp34
  replace e1 := e1.symm; replace e2 := e2.symm; replace e3 := e3.symm; subst e1; subst e2; subst e3
  refine g_iret (F := F) hQ (dk dtX7_happens_0 21 rfl) ?_
  exact ⟨rfl, rfl, rfl⟩
set_option maxRecDepth 100000 in
set_option maxHeartbeats 4000000 in
theorem k_X7_happens_bad (l : Launch) (D : DX) (B : Nat) (T : Int64) (M : Mem) (h0 : M 0 0 = nI 0) (K : Nat) (hK : M 2 0 = nI K) (hK1 : 1 ≤ K) (hK4 : K ≤ 4) (X : Nat) (hX : M 2 1 = nI X) (hX1 : 1 ≤ X) (hX4 : X ≤ 4) (k x : Int32) (hb : ¬ (inR k K ∧ inR x X)) : Ci l D B 14 (celM D B) yX7_happens cX7_happens 3 (some .int) 3 [.ref (B + 0), .int k, .int x] T M (fun rz T1 M1 => rz = (-1) ∧ T1 = T ∧ M1 = M) := by
  refine g_entryi (L := [(0, .ref (B + 0)), (1, .int k), (2, .int x)]) (by decide) (Nat.le_of_ble_eq_true rfl) rfl ?_
  intro zp ze zs zm zb zt zc Q F hQ
  refine g_aload_n F 0 (dk dtX7_happens_0 0 rfl) rfl ?_
  refine g_iconst F (nI 0) (dk dtX7_happens_0 1 rfl) (by decide) ?_
  refine g_put F fa_X7_56 (dk dtX7_happens_0 2 rfl) (by decide) (cm0 D B _ _) (Nat.le_of_ble_eq_true rfl) rfl rfl (cm0 D B _ _) ?_
  refine g_mem (up2_same h0) ?_
  refine g_aload_n F 0 (dk dtX7_happens_0 3 rfl) rfl ?_
  refine g_iload_n F 1 (dk dtX7_happens_0 4 rfl) rfl ?_
  refine g_callVi F (As := [.int k]) (st := []) cv_X7_132 (dk dtX7_happens_0 5 rfl) (by decide) (cm0 D B _ _) rfl rfl (Nat.le_of_ble_eq_true rfl) ⟨by decide, by decide⟩ (k_X7_isKind l D B _ _ _ K hK (by omega)) (fun r7 T7 M7 hp7 => ?_)
  obtain ⟨e1, e2, e3⟩ := hp7
  replace e1 := e1.symm; replace e2 := e2.symm; replace e3 := e3.symm; subst e1; subst e2; subst e3
  refine g_if_eqB F 21 (dk dtX7_happens_0 6 rfl) (by decide) (fun c10 => ?_) (fun c10 => ?_)
  · -- taken at 10
    refine g_iconst F (-1) (dk dtX7_happens_0 11 rfl) (by decide) ?_
    refine g_iret (F := F) hQ (dk dtX7_happens_0 12 rfl) ?_
    exact ⟨rfl, rfl, rfl⟩
  · -- not taken at 10
    refine g_aload_n F 0 (dk dtX7_happens_0 7 rfl) rfl ?_
    refine g_iload_n F 2 (dk dtX7_happens_0 8 rfl) rfl ?_
    refine g_callVi F (As := [.int x]) (st := []) cv_X7_151 (dk dtX7_happens_0 9 rfl) (by decide) (cm0 D B _ _) rfl rfl (Nat.le_of_ble_eq_true rfl) ⟨by decide, by decide⟩ (k_X7_isPlace l D B _ _ _ X hX (by omega)) (fun r15 T15 M15 hp15 => ?_)
    obtain ⟨e1, e2, e3⟩ := hp15
    replace e1 := e1.symm; replace e2 := e2.symm; replace e3 := e3.symm; subst e1; subst e2; subst e3
    refine g_if_neB F 23 (dk dtX7_happens_0 10 rfl) (by decide) (fun c18 => ?_) (fun c18 => ?_)
    · -- taken at 18
      exact absurd ⟨c10, c18⟩ hb
    · -- not taken at 18
      refine g_iconst F (-1) (dk dtX7_happens_0 11 rfl) (by decide) ?_
      refine g_iret (F := F) hQ (dk dtX7_happens_0 12 rfl) ?_
      exact ⟨rfl, rfl, rfl⟩
set_option maxRecDepth 100000 in
set_option maxHeartbeats 4000000 in
theorem k_X7_walks_state (l : Launch) (D : DX) (B : Nat) (T : Int64) (M : Mem) (h0 : M 0 0 = nI 0) (P : Nat) (hP : M 2 2 = nI P) (hP5 : P ≤ 5) (X : Nat) (hX : M 2 1 = nI X) (hX1 : 1 ≤ X) (hX4 : X ≤ 4) (p x : Nat) (hp : p < P) (hx : x < X) (hs : M 5 p = nI x) : Ci l D B 14 (celM D B) yX7_walks cX7_walks 4 (some .int) 2 [.ref (B + 0), .int (nI p), .int (nI x)] T M (fun rz T1 M1 => rz = (-2) ∧ T1 = T ∧ M1 = M) := by
  refine g_entryi (L := [(0, .ref (B + 0)), (1, .int (nI p)), (2, .int (nI x))]) (by decide) (Nat.le_of_ble_eq_true rfl) rfl ?_
  intro zp ze zs zm zb zt zc Q F hQ
  refine g_aload_n F 0 (dk dtX7_walks_0 0 rfl) rfl ?_
  refine g_iconst F (nI 0) (dk dtX7_walks_0 1 rfl) (by decide) ?_
  refine g_put F fa_X7_56 (dk dtX7_walks_0 2 rfl) (by decide) (cm0 D B _ _) (Nat.le_of_ble_eq_true rfl) rfl rfl (cm0 D B _ _) ?_
  refine g_mem (up2_same h0) ?_
  refine g_aload_n F 0 (dk dtX7_walks_0 3 rfl) rfl ?_
  refine g_iload_n F 1 (dk dtX7_walks_0 4 rfl) rfl ?_
  refine g_callVi F (As := [.int (nI p)]) (st := []) cv_X7_129 (dk dtX7_walks_0 5 rfl) (by decide) (cm0 D B _ _) rfl rfl (Nat.le_of_ble_eq_true rfl) ⟨by decide, by decide⟩ (k_X7_isOne l D B _ _ _ P hP (by omega)) (fun r7 T7 M7 hp7 => ?_)
  obtain ⟨e1, e2, e3⟩ := hp7
  replace e1 := e1.symm; replace e2 := e2.symm; replace e3 := e3.symm; subst e1; subst e2; subst e3
  refine g_if_eqB F 21 (dk dtX7_walks_0 6 rfl) (by decide) (fun c => absurd (inR_nI (by omega)) c) (fun _ => ?_)
  refine g_aload_n F 0 (dk dtX7_walks_0 7 rfl) rfl ?_
  refine g_iload_n F 2 (dk dtX7_walks_0 8 rfl) rfl ?_
  refine g_callVi F (As := [.int (nI x)]) (st := []) cv_X7_151 (dk dtX7_walks_0 9 rfl) (by decide) (cm0 D B _ _) rfl rfl (Nat.le_of_ble_eq_true rfl) ⟨by decide, by decide⟩ (k_X7_isPlace l D B _ _ _ X hX (by omega)) (fun r15 T15 M15 hp15 => ?_)
  obtain ⟨e1, e2, e3⟩ := hp15
  replace e1 := e1.symm; replace e2 := e2.symm; replace e3 := e3.symm; subst e1; subst e2; subst e3
  refine g_if_neB F 23 (dk dtX7_walks_0 10 rfl) (by decide) (fun _ => ?_) (fun c => absurd (inR_nI (by omega)) c)
  refine g_aload_n F 0 (dk dtX7_walks_0 13 rfl) rfl ?_
  refine g_get F fa_X7_22 (dk dtX7_walks_0 14 rfl) (by decide) (cm0 D B _ _) rfl ?_
  refine g_iconst F (nI 0) (dk dtX7_walks_0 15 rfl) (by decide) ?_
  refine g_iload_n F 1 (dk dtX7_walks_0 16 rfl) rfl ?_
  refine g_iadd0 F (dk dtX7_walks_0 17 rfl) ?_
  refine g_iald F (p) (dk dtX7_walks_0 18 rfl) (by decide) (cm5 D B _ _) (by omega) (by decide) ?_
  refine g_top hs ?_
  refine g_istore_n F [(3, .int (nI x)), (0, .ref (B + 0)), (1, .int (nI p)), (2, .int (nI x))] (dk dtX7_walks_0 19 rfl) (by decide) rfl ?_
  refine g_iload_n F 0 (dk dtX7_walks_0 20 rfl) rfl ?_
  refine g_iload_n F 3 (dk dtX7_walks_0 21 rfl) rfl ?_
  refine g_icmp_neN F 40 (dk dtX7_walks_0 22 rfl) (by decide) (by omega) (by omega) (fun c34 => ?_) (fun c34 => ?_)
  · -- taken at 34
    exact absurd rfl c34
  · -- not taken at 34
    refine g_bipush F (-2) (dk dtX7_walks_0 23 rfl) (by decide) ?_
    refine g_iret (F := F) hQ (dk dtX7_walks_0 24 rfl) ?_
    exact ⟨rfl, rfl, rfl⟩
set_option maxRecDepth 100000 in
set_option maxHeartbeats 4000000 in
theorem k_X7_walks (l : Launch) (D : DX) (B : Nat) (T : Int64) (M : Mem) (h0 : M 0 0 = nI 0) (P : Nat) (hP : M 2 2 = nI P) (hP5 : P ≤ 5) (X : Nat) (hX : M 2 1 = nI X) (hX1 : 1 ≤ X) (hX4 : X ≤ 4) (p x : Nat) (hp : p < P) (hx : x < X) (hs : ¬ M 5 p = nI x) (U : Nat) (hU : M 0 18 = nI U) (hU10 : U ≤ 10)  : Ci l D B 14 (celM D B) yX7_walks cX7_walks 4 (some .int) 2 [.ref (B + 0), .int (nI p), .int (nI x)] T M (fun r T1 M1 => r = M 5 p ∧ T1 = T ∧ M1 = up2 (kb M U) 5 p (nI x)) := by
  refine g_entryi (L := [(0, .ref (B + 0)), (1, .int (nI p)), (2, .int (nI x))]) (by decide) (Nat.le_of_ble_eq_true rfl) rfl ?_
  intro zp ze zs zm zb zt zc Q F hQ
  refine g_aload_n F 0 (dk dtX7_walks_0 0 rfl) rfl ?_
  refine g_iconst F (nI 0) (dk dtX7_walks_0 1 rfl) (by decide) ?_
  refine g_put F fa_X7_56 (dk dtX7_walks_0 2 rfl) (by decide) (cm0 D B _ _) (Nat.le_of_ble_eq_true rfl) rfl rfl (cm0 D B _ _) ?_
  refine g_mem (up2_same h0) ?_
  refine g_aload_n F 0 (dk dtX7_walks_0 3 rfl) rfl ?_
  refine g_iload_n F 1 (dk dtX7_walks_0 4 rfl) rfl ?_
  refine g_callVi F (As := [.int (nI p)]) (st := []) cv_X7_129 (dk dtX7_walks_0 5 rfl) (by decide) (cm0 D B _ _) rfl rfl (Nat.le_of_ble_eq_true rfl) ⟨by decide, by decide⟩ (k_X7_isOne l D B _ _ _ P hP (by omega)) (fun r7 T7 M7 hp7 => ?_)
  obtain ⟨e1, e2, e3⟩ := hp7
  replace e1 := e1.symm; replace e2 := e2.symm; replace e3 := e3.symm; subst e1; subst e2; subst e3
  refine g_if_eqB F 21 (dk dtX7_walks_0 6 rfl) (by decide) (fun c => absurd (inR_nI (by omega)) c) (fun _ => ?_)
  refine g_aload_n F 0 (dk dtX7_walks_0 7 rfl) rfl ?_
  refine g_iload_n F 2 (dk dtX7_walks_0 8 rfl) rfl ?_
  refine g_callVi F (As := [.int (nI x)]) (st := []) cv_X7_151 (dk dtX7_walks_0 9 rfl) (by decide) (cm0 D B _ _) rfl rfl (Nat.le_of_ble_eq_true rfl) ⟨by decide, by decide⟩ (k_X7_isPlace l D B _ _ _ X hX (by omega)) (fun r15 T15 M15 hp15 => ?_)
  obtain ⟨e1, e2, e3⟩ := hp15
  replace e1 := e1.symm; replace e2 := e2.symm; replace e3 := e3.symm; subst e1; subst e2; subst e3
  refine g_if_neB F 23 (dk dtX7_walks_0 10 rfl) (by decide) (fun _ => ?_) (fun c => absurd (inR_nI (by omega)) c)
  refine g_aload_n F 0 (dk dtX7_walks_0 13 rfl) rfl ?_
  refine g_get F fa_X7_22 (dk dtX7_walks_0 14 rfl) (by decide) (cm0 D B _ _) rfl ?_
  refine g_iconst F (nI 0) (dk dtX7_walks_0 15 rfl) (by decide) ?_
  refine g_iload_n F 1 (dk dtX7_walks_0 16 rfl) rfl ?_
  refine g_iadd0 F (dk dtX7_walks_0 17 rfl) ?_
  refine g_iald F (p) (dk dtX7_walks_0 18 rfl) (by decide) (cm5 D B _ _) (by omega) (by decide) ?_
  refine g_istore_n F [(3, .int (M 5 p)), (0, .ref (B + 0)), (1, .int (nI p)), (2, .int (nI x))] (dk dtX7_walks_0 19 rfl) (by decide) rfl ?_
  refine g_iload_n F 0 (dk dtX7_walks_0 20 rfl) rfl ?_
  refine g_iload_n F 3 (dk dtX7_walks_0 21 rfl) rfl ?_
  refine g_icmp_ne F 40 (dk dtX7_walks_0 22 rfl) (by decide) (fun c34 => ?_) (fun c34 => ?_)
  · -- taken at 34
    refine g_aload_n F 1 (dk dtX7_walks_0 25 rfl) rfl ?_
    refine g_callVv F (As := []) (st := []) cv_X7_154 (dk dtX7_walks_0 26 rfl) (by decide) (cm0 D B _ _) rfl rfl (Nat.le_of_ble_eq_true rfl) ⟨by decide, by decide⟩ (k_X7_keepsBefore l D B _ _ U hU hU10) (fun T41 M41 hp41 => ?_)
    obtain ⟨e2, e3⟩ := hp41
    replace e2 := e2.symm; replace e3 := e3.symm; subst e2; subst e3
    refine g_aload_n F 1 (dk dtX7_walks_0 27 rfl) rfl ?_
    refine g_get F fa_X7_22 (dk dtX7_walks_0 28 rfl) (by decide) (cm0 D B _ _) rfl ?_
    refine g_iconst F (nI 0) (dk dtX7_walks_0 29 rfl) (by decide) ?_
    refine g_iload_n F 2 (dk dtX7_walks_0 30 rfl) rfl ?_
    refine g_iadd0 F (dk dtX7_walks_0 31 rfl) ?_
    refine g_iload_n F 3 (dk dtX7_walks_0 32 rfl) rfl ?_
    refine g_iast F (p) (dk dtX7_walks_0 33 rfl) (by decide) (fun r => cm5 D B _ r) (by omega) (by decide) ?_
    refine g_iload_n F 0 (dk dtX7_walks_0 34 rfl) rfl ?_
    refine g_iret (F := F) hQ (dk dtX7_walks_0 35 rfl) ?_
    exact ⟨rfl, rfl, rfl⟩
  · -- not taken at 34
    exact absurd c34 hs
set_option maxRecDepth 100000 in
set_option maxHeartbeats 4000000 in
theorem k_X7_walks_bad (l : Launch) (D : DX) (B : Nat) (T : Int64) (M : Mem) (h0 : M 0 0 = nI 0) (P : Nat) (hP : M 2 2 = nI P) (hP5 : P ≤ 5) (X : Nat) (hX : M 2 1 = nI X) (hX1 : 1 ≤ X) (hX4 : X ≤ 4) (p x : Int32) (hb : ¬ (inR p P ∧ inR x X)) : Ci l D B 14 (celM D B) yX7_walks cX7_walks 4 (some .int) 2 [.ref (B + 0), .int p, .int x] T M (fun rz T1 M1 => rz = (-1) ∧ T1 = T ∧ M1 = M) := by
  refine g_entryi (L := [(0, .ref (B + 0)), (1, .int p), (2, .int x)]) (by decide) (Nat.le_of_ble_eq_true rfl) rfl ?_
  intro zp ze zs zm zb zt zc Q F hQ
  refine g_aload_n F 0 (dk dtX7_walks_0 0 rfl) rfl ?_
  refine g_iconst F (nI 0) (dk dtX7_walks_0 1 rfl) (by decide) ?_
  refine g_put F fa_X7_56 (dk dtX7_walks_0 2 rfl) (by decide) (cm0 D B _ _) (Nat.le_of_ble_eq_true rfl) rfl rfl (cm0 D B _ _) ?_
  refine g_mem (up2_same h0) ?_
  refine g_aload_n F 0 (dk dtX7_walks_0 3 rfl) rfl ?_
  refine g_iload_n F 1 (dk dtX7_walks_0 4 rfl) rfl ?_
  refine g_callVi F (As := [.int p]) (st := []) cv_X7_129 (dk dtX7_walks_0 5 rfl) (by decide) (cm0 D B _ _) rfl rfl (Nat.le_of_ble_eq_true rfl) ⟨by decide, by decide⟩ (k_X7_isOne l D B _ _ _ P hP (by omega)) (fun r7 T7 M7 hp7 => ?_)
  obtain ⟨e1, e2, e3⟩ := hp7
  replace e1 := e1.symm; replace e2 := e2.symm; replace e3 := e3.symm; subst e1; subst e2; subst e3
  refine g_if_eqB F 21 (dk dtX7_walks_0 6 rfl) (by decide) (fun c10 => ?_) (fun c10 => ?_)
  · -- taken at 10
    refine g_iconst F (-1) (dk dtX7_walks_0 11 rfl) (by decide) ?_
    refine g_iret (F := F) hQ (dk dtX7_walks_0 12 rfl) ?_
    exact ⟨rfl, rfl, rfl⟩
  · -- not taken at 10
    refine g_aload_n F 0 (dk dtX7_walks_0 7 rfl) rfl ?_
    refine g_iload_n F 2 (dk dtX7_walks_0 8 rfl) rfl ?_
    refine g_callVi F (As := [.int x]) (st := []) cv_X7_151 (dk dtX7_walks_0 9 rfl) (by decide) (cm0 D B _ _) rfl rfl (Nat.le_of_ble_eq_true rfl) ⟨by decide, by decide⟩ (k_X7_isPlace l D B _ _ _ X hX (by omega)) (fun r15 T15 M15 hp15 => ?_)
    obtain ⟨e1, e2, e3⟩ := hp15
    replace e1 := e1.symm; replace e2 := e2.symm; replace e3 := e3.symm; subst e1; subst e2; subst e3
    refine g_if_neB F 23 (dk dtX7_walks_0 10 rfl) (by decide) (fun c18 => ?_) (fun c18 => ?_)
    · -- taken at 18
      exact absurd ⟨c10, c18⟩ hb
    · -- not taken at 18
      refine g_iconst F (-1) (dk dtX7_walks_0 11 rfl) (by decide) ?_
      refine g_iret (F := F) hQ (dk dtX7_walks_0 12 rfl) ?_
      exact ⟨rfl, rfl, rfl⟩
set_option maxRecDepth 100000 in
set_option maxHeartbeats 4000000 in
theorem k_X7_tells (l : Launch) (D : DX) (B : Nat) (T : Int64) (M : Mem) (h0 : M 0 0 = nI 0) (P : Nat) (hP : M 2 2 = nI P) (hP5 : P ≤ 5) (K : Nat) (hK : M 2 0 = nI K) (hK1 : 1 ≤ K) (hK4 : K ≤ 4) (p k : Nat) (hp : p < P) (hk : k < K) (U : Nat) (hU : M 0 18 = nI U) (hU10 : U ≤ 10)  : Ci l D B 14 (celM D B) yX7_tells cX7_tells 4 (some .int) 2 [.ref (B + 0), .int (nI p), .int (nI k)] T M (fun r T1 M1 => r = tlR (M 5) p k (5 + 4 * p + k) ∧ T1 = T ∧ M1 = setR (kb M U) 5 (tlR (M 5) p k)) := by
  refine g_entryi (L := [(0, .ref (B + 0)), (1, .int (nI p)), (2, .int (nI k))]) (by decide) (Nat.le_of_ble_eq_true rfl) rfl ?_
  intro zp ze zs zm zb zt zc Q F hQ
  refine g_aload_n F 0 (dk dtX7_tells_0 0 rfl) rfl ?_
  refine g_iconst F (nI 0) (dk dtX7_tells_0 1 rfl) (by decide) ?_
  refine g_put F fa_X7_56 (dk dtX7_tells_0 2 rfl) (by decide) (cm0 D B _ _) (Nat.le_of_ble_eq_true rfl) rfl rfl (cm0 D B _ _) ?_
  refine g_mem (up2_same h0) ?_
  refine g_aload_n F 0 (dk dtX7_tells_0 3 rfl) rfl ?_
  refine g_iload_n F 1 (dk dtX7_tells_0 4 rfl) rfl ?_
  refine g_callVi F (As := [.int (nI p)]) (st := []) cv_X7_129 (dk dtX7_tells_0 5 rfl) (by decide) (cm0 D B _ _) rfl rfl (Nat.le_of_ble_eq_true rfl) ⟨by decide, by decide⟩ (k_X7_isOne l D B _ _ _ P hP (by omega)) (fun r7 T7 M7 hp7 => ?_)
  obtain ⟨e1, e2, e3⟩ := hp7
  replace e1 := e1.symm; replace e2 := e2.symm; replace e3 := e3.symm; subst e1; subst e2; subst e3
  refine g_if_eqB F 21 (dk dtX7_tells_0 6 rfl) (by decide) (fun c => absurd (inR_nI (by omega)) c) (fun _ => ?_)
  refine g_aload_n F 0 (dk dtX7_tells_0 7 rfl) rfl ?_
  refine g_iload_n F 2 (dk dtX7_tells_0 8 rfl) rfl ?_
  refine g_callVi F (As := [.int (nI k)]) (st := []) cv_X7_132 (dk dtX7_tells_0 9 rfl) (by decide) (cm0 D B _ _) rfl rfl (Nat.le_of_ble_eq_true rfl) ⟨by decide, by decide⟩ (k_X7_isKind l D B _ _ _ K hK (by omega)) (fun r15 T15 M15 hp15 => ?_)
  obtain ⟨e1, e2, e3⟩ := hp15
  replace e1 := e1.symm; replace e2 := e2.symm; replace e3 := e3.symm; subst e1; subst e2; subst e3
  refine g_if_neB F 23 (dk dtX7_tells_0 10 rfl) (by decide) (fun _ => ?_) (fun c => absurd (inR_nI (by omega)) c)
  refine g_aload_n F 0 (dk dtX7_tells_0 13 rfl) rfl ?_
  refine g_callVv F (As := []) (st := []) cv_X7_154 (dk dtX7_tells_0 14 rfl) (by decide) (cm0 D B _ _) rfl rfl (Nat.le_of_ble_eq_true rfl) ⟨by decide, by decide⟩ (k_X7_keepsBefore l D B _ _ U hU hU10) (fun T24 M24 hp24 => ?_)
  obtain ⟨e2, e3⟩ := hp24
  replace e2 := e2.symm; replace e3 := e3.symm; subst e2; subst e3
  refine g_iconst F (nI 5) (dk dtX7_tells_0 15 rfl) (by decide) ?_
  refine g_iconst F (nI 4) (dk dtX7_tells_0 16 rfl) (by decide) ?_
  refine g_iload_n F 1 (dk dtX7_tells_0 17 rfl) rfl ?_
  refine g_imulN F (dk dtX7_tells_0 18 rfl) ?_
  refine g_iaddN F (dk dtX7_tells_0 19 rfl) ?_
  refine g_iload_n F 2 (dk dtX7_tells_0 20 rfl) rfl ?_
  refine g_iaddN F (dk dtX7_tells_0 21 rfl) ?_
  refine g_istore_n F [(3, .int (nI ((5 + (4 * p)) + k))), (0, .ref (B + 0)), (1, .int (nI p)), (2, .int (nI k))] (dk dtX7_tells_0 22 rfl) (by decide) rfl ?_
  refine g_aload_n F 1 (dk dtX7_tells_0 23 rfl) rfl ?_
  refine g_get F fa_X7_22 (dk dtX7_tells_0 24 rfl) (by decide) (cm0 D B _ _) rfl ?_
  refine g_iload_n F 0 (dk dtX7_tells_0 25 rfl) rfl ?_
  refine g_dup2 F (dk dtX7_tells_0 26 rfl) rfl rfl ?_
  refine g_iald F ((5 + (4 * p)) + k) (dk dtX7_tells_0 27 rfl) (by decide) (cm5 D B _ _) (by omega) (by decide) ?_
  refine g_top (congrFun (kb_fr _ _ (by decide)) _) ?_
  refine g_aload_n F 1 (dk dtX7_tells_0 28 rfl) rfl ?_
  refine g_get F fa_X7_22 (dk dtX7_tells_0 29 rfl) (by decide) (cm0 D B _ _) rfl ?_
  refine g_iload_n F 0 (dk dtX7_tells_0 30 rfl) rfl ?_
  refine g_iald F ((5 + (4 * p)) + k) (dk dtX7_tells_0 31 rfl) (by decide) (cm5 D B _ _) (by omega) (by decide) ?_
  refine g_top (congrFun (kb_fr _ _ (by decide)) _) ?_
  refine g_sipush F (nI 999) (dk dtX7_tells_0 32 rfl) (by decide) ?_
  refine g_icmp_ge F 58 (dk dtX7_tells_0 33 rfl) (by decide) (fun c51 => ?_) (fun c51 => ?_)
  · -- taken at 51
    refine g_iconst F (nI 0) (dk dtX7_tells_0 36 rfl) (by decide) ?_
    refine g_iadd F (dk dtX7_tells_0 37 rfl) ?_
    refine g_iast F ((5 + (4 * p)) + k) (dk dtX7_tells_0 38 rfl) (by decide) (fun r => cm5 D B _ r) (by omega) (by decide) ?_
    refine g_aload_n F 1 (dk dtX7_tells_0 39 rfl) rfl ?_
    refine g_get F fa_X7_22 (dk dtX7_tells_0 40 rfl) (by decide) (cm0 D B _ _) rfl ?_
    refine g_iload_n F 0 (dk dtX7_tells_0 41 rfl) rfl ?_
    refine g_iald F ((5 + (4 * p)) + k) (dk dtX7_tells_0 42 rfl) (by decide) (cm5 D B _ _) (by omega) (by decide) ?_
    refine g_top ((congrFun (up2_self _ _ _ _) _).trans pk_us) ?_
    refine g_iret (F := F) hQ (dk dtX7_tells_0 43 rfl) ?_
    exact ⟨tlR_n1 c51, rfl, tlR_nM _ _ c51⟩
  · -- not taken at 51
    refine g_iconst F (nI 1) (dk dtX7_tells_0 34 rfl) (by decide) ?_
    refine g_goto F 59 (dk dtX7_tells_0 35 rfl) (by decide) ?_
    refine g_iadd F (dk dtX7_tells_0 37 rfl) ?_
    refine g_iast F ((5 + (4 * p)) + k) (dk dtX7_tells_0 38 rfl) (by decide) (fun r => cm5 D B _ r) (by omega) (by decide) ?_
    refine g_aload_n F 1 (dk dtX7_tells_0 39 rfl) rfl ?_
    refine g_get F fa_X7_22 (dk dtX7_tells_0 40 rfl) (by decide) (cm0 D B _ _) rfl ?_
    refine g_iload_n F 0 (dk dtX7_tells_0 41 rfl) rfl ?_
    refine g_iald F ((5 + (4 * p)) + k) (dk dtX7_tells_0 42 rfl) (by decide) (cm5 D B _ _) (by omega) (by decide) ?_
    refine g_top ((congrFun (up2_self _ _ _ _) _).trans pk_us) ?_
    refine g_iret (F := F) hQ (dk dtX7_tells_0 43 rfl) ?_
    exact ⟨tlR_y1 c51, rfl, tlR_yM _ _ c51⟩
set_option maxRecDepth 100000 in
set_option maxHeartbeats 4000000 in
theorem k_X7_tells_bad (l : Launch) (D : DX) (B : Nat) (T : Int64) (M : Mem) (h0 : M 0 0 = nI 0) (P : Nat) (hP : M 2 2 = nI P) (hP5 : P ≤ 5) (K : Nat) (hK : M 2 0 = nI K) (hK1 : 1 ≤ K) (hK4 : K ≤ 4) (p k : Int32) (hb : ¬ (inR p P ∧ inR k K)) : Ci l D B 14 (celM D B) yX7_tells cX7_tells 4 (some .int) 2 [.ref (B + 0), .int p, .int k] T M (fun rz T1 M1 => rz = (-1) ∧ T1 = T ∧ M1 = M) := by
  refine g_entryi (L := [(0, .ref (B + 0)), (1, .int p), (2, .int k)]) (by decide) (Nat.le_of_ble_eq_true rfl) rfl ?_
  intro zp ze zs zm zb zt zc Q F hQ
  refine g_aload_n F 0 (dk dtX7_tells_0 0 rfl) rfl ?_
  refine g_iconst F (nI 0) (dk dtX7_tells_0 1 rfl) (by decide) ?_
  refine g_put F fa_X7_56 (dk dtX7_tells_0 2 rfl) (by decide) (cm0 D B _ _) (Nat.le_of_ble_eq_true rfl) rfl rfl (cm0 D B _ _) ?_
  refine g_mem (up2_same h0) ?_
  refine g_aload_n F 0 (dk dtX7_tells_0 3 rfl) rfl ?_
  refine g_iload_n F 1 (dk dtX7_tells_0 4 rfl) rfl ?_
  refine g_callVi F (As := [.int p]) (st := []) cv_X7_129 (dk dtX7_tells_0 5 rfl) (by decide) (cm0 D B _ _) rfl rfl (Nat.le_of_ble_eq_true rfl) ⟨by decide, by decide⟩ (k_X7_isOne l D B _ _ _ P hP (by omega)) (fun r7 T7 M7 hp7 => ?_)
  obtain ⟨e1, e2, e3⟩ := hp7
  replace e1 := e1.symm; replace e2 := e2.symm; replace e3 := e3.symm; subst e1; subst e2; subst e3
  refine g_if_eqB F 21 (dk dtX7_tells_0 6 rfl) (by decide) (fun c10 => ?_) (fun c10 => ?_)
  · -- taken at 10
    refine g_iconst F (-1) (dk dtX7_tells_0 11 rfl) (by decide) ?_
    refine g_iret (F := F) hQ (dk dtX7_tells_0 12 rfl) ?_
    exact ⟨rfl, rfl, rfl⟩
  · -- not taken at 10
    refine g_aload_n F 0 (dk dtX7_tells_0 7 rfl) rfl ?_
    refine g_iload_n F 2 (dk dtX7_tells_0 8 rfl) rfl ?_
    refine g_callVi F (As := [.int k]) (st := []) cv_X7_132 (dk dtX7_tells_0 9 rfl) (by decide) (cm0 D B _ _) rfl rfl (Nat.le_of_ble_eq_true rfl) ⟨by decide, by decide⟩ (k_X7_isKind l D B _ _ _ K hK (by omega)) (fun r15 T15 M15 hp15 => ?_)
    obtain ⟨e1, e2, e3⟩ := hp15
    replace e1 := e1.symm; replace e2 := e2.symm; replace e3 := e3.symm; subst e1; subst e2; subst e3
    refine g_if_neB F 23 (dk dtX7_tells_0 10 rfl) (by decide) (fun c18 => ?_) (fun c18 => ?_)
    · -- taken at 18
      exact absurd ⟨c10, c18⟩ hb
    · -- not taken at 18
      refine g_iconst F (-1) (dk dtX7_tells_0 11 rfl) (by decide) ?_
      refine g_iret (F := F) hQ (dk dtX7_tells_0 12 rfl) ?_
      exact ⟨rfl, rfl, rfl⟩
set_option maxRecDepth 100000 in
set_option maxHeartbeats 4000000 in
theorem k_X7_abdicates_state (l : Launch) (D : DX) (B : Nat) (T : Int64) (M : Mem) (h0 : M 0 0 = nI 0) (hs : M 5 30 = nI 0) : Ci l D B 14 (celM D B) yX7_abdicates cX7_abdicates 2 (some .int) 1 [.ref (B + 0)] T M (fun rz T1 M1 => rz = (-2) ∧ T1 = T ∧ M1 = M) := by
  refine g_entryi (L := [(0, .ref (B + 0))]) (by decide) (Nat.le_of_ble_eq_true rfl) rfl ?_
  intro zp ze zs zm zb zt zc Q F hQ
  refine g_aload_n F 0 (dk dtX7_abdicates_0 0 rfl) rfl ?_
  refine g_iconst F (nI 0) (dk dtX7_abdicates_0 1 rfl) (by decide) ?_
  refine g_put F fa_X7_56 (dk dtX7_abdicates_0 2 rfl) (by decide) (cm0 D B _ _) (Nat.le_of_ble_eq_true rfl) rfl rfl (cm0 D B _ _) ?_
  refine g_mem (up2_same h0) ?_
  refine g_aload_n F 0 (dk dtX7_abdicates_0 3 rfl) rfl ?_
  refine g_get F fa_X7_22 (dk dtX7_abdicates_0 4 rfl) (by decide) (cm0 D B _ _) rfl ?_
  refine g_bipush F (nI 30) (dk dtX7_abdicates_0 5 rfl) (by decide) ?_
  refine g_iald F (30) (dk dtX7_abdicates_0 6 rfl) (by decide) (cm5 D B _ _) (by omega) (by decide) ?_
  refine g_top hs ?_
  refine g_if_neN F 18 (dk dtX7_abdicates_0 7 rfl) (by decide) (by decide) (fun c => absurd c (by decide)) (fun _ => ?_)
  refine g_bipush F (-2) (dk dtX7_abdicates_0 8 rfl) (by decide) ?_
  refine g_iret (F := F) hQ (dk dtX7_abdicates_0 9 rfl) ?_
  exact ⟨rfl, rfl, rfl⟩
set_option maxRecDepth 100000 in
set_option maxHeartbeats 4000000 in
theorem k_X7_abdicates (l : Launch) (D : DX) (B : Nat) (T : Int64) (M : Mem) (h0 : M 0 0 = nI 0) (U : Nat) (hU : M 0 18 = nI U) (hU10 : U ≤ 10) (q : Nat) (hs : M 5 30 = nI (q + 1)) (hq : q < 5) : Ci l D B 14 (celM D B) yX7_abdicates cX7_abdicates 2 (some .int) 1 [.ref (B + 0)] T M (fun r T1 M1 => r = nI q ∧ T1 = T ∧ M1 = up2 (kb M U) 5 30 (nI 0)) := by
  refine g_entryi (L := [(0, .ref (B + 0))]) (by decide) (Nat.le_of_ble_eq_true rfl) rfl ?_
  intro zp ze zs zm zb zt zc Q F hQ
  refine g_aload_n F 0 (dk dtX7_abdicates_0 0 rfl) rfl ?_
  refine g_iconst F (nI 0) (dk dtX7_abdicates_0 1 rfl) (by decide) ?_
  refine g_put F fa_X7_56 (dk dtX7_abdicates_0 2 rfl) (by decide) (cm0 D B _ _) (Nat.le_of_ble_eq_true rfl) rfl rfl (cm0 D B _ _) ?_
  refine g_mem (up2_same h0) ?_
  refine g_aload_n F 0 (dk dtX7_abdicates_0 3 rfl) rfl ?_
  refine g_get F fa_X7_22 (dk dtX7_abdicates_0 4 rfl) (by decide) (cm0 D B _ _) rfl ?_
  refine g_bipush F (nI 30) (dk dtX7_abdicates_0 5 rfl) (by decide) ?_
  refine g_iald F (30) (dk dtX7_abdicates_0 6 rfl) (by decide) (cm5 D B _ _) (by omega) (by decide) ?_
  refine g_top hs ?_
  refine g_if_neN F 18 (dk dtX7_abdicates_0 7 rfl) (by decide) (by omega) (fun c12 => ?_) (fun c12 => ?_)
  · -- taken at 12
    refine g_aload_n F 0 (dk dtX7_abdicates_0 10 rfl) rfl ?_
    refine g_callVv F (As := []) (st := []) cv_X7_154 (dk dtX7_abdicates_0 11 rfl) (by decide) (cm0 D B _ _) rfl rfl (Nat.le_of_ble_eq_true rfl) ⟨by decide, by decide⟩ (k_X7_keepsBefore l D B _ _ U hU hU10) (fun T19 M19 hp19 => ?_)
    obtain ⟨e2, e3⟩ := hp19
    replace e2 := e2.symm; replace e3 := e3.symm; subst e2; subst e3
    refine g_aload_n F 0 (dk dtX7_abdicates_0 12 rfl) rfl ?_
    refine g_get F fa_X7_22 (dk dtX7_abdicates_0 13 rfl) (by decide) (cm0 D B _ _) rfl ?_
    refine g_bipush F (nI 30) (dk dtX7_abdicates_0 14 rfl) (by decide) ?_
    refine g_iald F (30) (dk dtX7_abdicates_0 15 rfl) (by decide) (cm5 D B _ _) (by omega) (by decide) ?_
    refine g_top (congrFun (kb_fr _ _ (by decide)) _) ?_
    refine g_top hs ?_
    refine g_iconst F (nI 1) (dk dtX7_abdicates_0 16 rfl) (by decide) ?_
    refine g_isubE F (nI q) (dk dtX7_abdicates_0 17 rfl) (nI_pred _).symm ?_
    refine g_istore_n F [(1, .int (nI q)), (0, .ref (B + 0))] (dk dtX7_abdicates_0 18 rfl) (by decide) rfl ?_
    refine g_aload_n F 1 (dk dtX7_abdicates_0 19 rfl) rfl ?_
    refine g_get F fa_X7_22 (dk dtX7_abdicates_0 20 rfl) (by decide) (cm0 D B _ _) rfl ?_
    refine g_bipush F (nI 30) (dk dtX7_abdicates_0 21 rfl) (by decide) ?_
    refine g_iconst F (nI 0) (dk dtX7_abdicates_0 22 rfl) (by decide) ?_
    refine g_iast F (30) (dk dtX7_abdicates_0 23 rfl) (by decide) (fun r => cm5 D B _ r) (by omega) (by decide) ?_
    refine g_iload_n F 0 (dk dtX7_abdicates_0 24 rfl) rfl ?_
    refine g_iret (F := F) hQ (dk dtX7_abdicates_0 25 rfl) ?_
    exact ⟨rfl, rfl, rfl⟩
  · -- not taken at 12
    exact absurd c12 (by omega)
set_option maxRecDepth 100000 in
set_option maxHeartbeats 4000000 in
theorem k_X7_undo_state (l : Launch) (D : DX) (B : Nat) (T : Int64) (M : Mem) (h0 : M 0 0 = nI 0) (hU : M 0 18 = nI 0) : Ci l D B 14 (celM D B) yX7_undo cX7_undo 2 (some .int) 0 [.ref (B + 0)] T M (fun rz T1 M1 => rz = (-2) ∧ T1 = T ∧ M1 = M) := by
  refine g_entryi (L := [(0, .ref (B + 0))]) (by decide) (Nat.le_of_ble_eq_true rfl) rfl ?_
  intro zp ze zs zm zb zt zc Q F hQ
  refine g_aload_n F 0 (dk dtX7_undo_0 0 rfl) rfl ?_
  refine g_iconst F (nI 0) (dk dtX7_undo_0 1 rfl) (by decide) ?_
  refine g_put F fa_X7_56 (dk dtX7_undo_0 2 rfl) (by decide) (cm0 D B _ _) (Nat.le_of_ble_eq_true rfl) rfl rfl (cm0 D B _ _) ?_
  refine g_mem (up2_same h0) ?_
  refine g_aload_n F 0 (dk dtX7_undo_0 3 rfl) rfl ?_
  refine g_get F fa_X7_122 (dk dtX7_undo_0 4 rfl) (by decide) (cm0 D B _ _) rfl ?_
  refine g_top hU ?_
  refine g_if_neN F 15 (dk dtX7_undo_0 5 rfl) (by decide) (by decide) (fun c => absurd c (by decide)) (fun _ => ?_)
  refine g_bipush F (-2) (dk dtX7_undo_0 6 rfl) (by decide) ?_
  refine g_iret (F := F) hQ (dk dtX7_undo_0 7 rfl) ?_
  exact ⟨rfl, rfl, rfl⟩
set_option maxRecDepth 100000 in
set_option maxHeartbeats 4000000 in
theorem k_X7_undo (l : Launch) (D : DX) (B : Nat) (T : Int64) (M : Mem) (h0 : M 0 0 = nI 0) (U : Nat) (hU : M 0 18 = nI (U + 1)) (hU9 : U < 10) : Ci l D B 14 (celM D B) yX7_undo cX7_undo 2 (some .int) 0 [.ref (B + 0)] T M (fun r T1 M1 => r = nI U ∧ T1 = T ∧ M1 = setR (up2 M 0 18 (nI U)) 5 (fun j => M 9 (31 * U + j))) := by
  refine g_entryi (L := [(0, .ref (B + 0))]) (by decide) (Nat.le_of_ble_eq_true rfl) rfl ?_
  intro zp ze zs zm zb zt zc Q F hQ
  refine g_aload_n F 0 (dk dtX7_undo_0 0 rfl) rfl ?_
  refine g_iconst F (nI 0) (dk dtX7_undo_0 1 rfl) (by decide) ?_
  refine g_put F fa_X7_56 (dk dtX7_undo_0 2 rfl) (by decide) (cm0 D B _ _) (Nat.le_of_ble_eq_true rfl) rfl rfl (cm0 D B _ _) ?_
  refine g_mem (up2_same h0) ?_
  refine g_aload_n F 0 (dk dtX7_undo_0 3 rfl) rfl ?_
  refine g_get F fa_X7_122 (dk dtX7_undo_0 4 rfl) (by decide) (cm0 D B _ _) rfl ?_
  refine g_top hU ?_
  refine g_if_neN F 15 (dk dtX7_undo_0 5 rfl) (by decide) (by omega) (fun c9 => ?_) (fun c9 => ?_)
  · -- taken at 9
    refine g_aload_n F 0 (dk dtX7_undo_0 8 rfl) rfl ?_
    refine g_dup F (dk dtX7_undo_0 9 rfl) rfl ?_
    refine g_get F fa_X7_122 (dk dtX7_undo_0 10 rfl) (by decide) (cm0 D B _ _) rfl ?_
    refine g_top hU ?_
    refine g_iconst F (nI 1) (dk dtX7_undo_0 11 rfl) (by decide) ?_
    refine g_isubE F (nI U) (dk dtX7_undo_0 12 rfl) (nI_pred _).symm ?_
    refine g_put F fa_X7_122 (dk dtX7_undo_0 13 rfl) (by decide) (cm0 D B _ _) (Nat.le_of_ble_eq_true rfl) rfl rfl (cm0 D B _ _) ?_
    refine g_iconst F (nI 0) (dk dtX7_undo_0 14 rfl) (by decide) ?_
    refine g_istore_n F [(1, .int (nI 0)), (0, .ref (B + 0))] (dk dtX7_undo_0 15 rfl) (by decide) rfl ?_
    have lp27 : ∀ (fz : Nat) (i : Nat), i ≤ 31 → (31 - i) < fz → G zp l ze { frames := 0, cells := 0, slots := 0, locals := 40 * 0 } zs zm [.ref (B + 0)].toArray zb zt zc 2 D B 14 (celM D B) Q T (setR (up2 M 0 18 (nI U)) 5 (cpR (fun j => M 9 (31 * U + j)) (M 5) i)) 27 [(0, .ref (B + 0)), (1, .int (nI i))] [] := by
      intro n27
      induction n27 with
      | zero => intro i hI hn; exact absurd hn (Nat.not_lt_zero _)
      | succ n27 ih27 =>
        intro i hI27 hn27
        refine g_iload_n F 1 (dk dtX7_undo_0 16 rfl) rfl ?_
        refine g_bipush F (nI 31) (dk dtX7_undo_0 17 rfl) (by decide) ?_
        refine g_icmp_geN F 59 (dk dtX7_undo_0 18 rfl) (by decide) (by omega) (by omega) (fun c30 => ?_) (fun c30 => ?_)
        · -- taken at 30
          obtain rfl : 31 = i := by omega
          refine g_row (fun j => M 9 (31 * U + j)) (fun r => cm5 D B _ r) (fun j hj => by rw [setR_self]; exact cpR_in _ _ hj) ?_
          refine g_mem (setR_setR _ _ _ _) ?_
          refine g_aload_n F 0 (dk dtX7_undo_0 34 rfl) rfl ?_
          refine g_get F fa_X7_122 (dk dtX7_undo_0 35 rfl) (by decide) (cm0 D B _ _) rfl ?_
          refine g_top (congrFun (setR_ne _ _ (by decide)) _) ?_
          refine g_top ((congrFun (up2_self _ _ _ _) _).trans pk_us) ?_
          refine g_iret (F := F) hQ (dk dtX7_undo_0 36 rfl) ?_
          exact ⟨rfl, rfl, rfl⟩
        · -- not taken at 30
          refine g_aload_n F 0 (dk dtX7_undo_0 19 rfl) rfl ?_
          refine g_get F fa_X7_22 (dk dtX7_undo_0 20 rfl) (by decide) (cm0 D B _ _) rfl ?_
          refine g_iload_n F 1 (dk dtX7_undo_0 21 rfl) rfl ?_
          refine g_aload_n F 0 (dk dtX7_undo_0 22 rfl) rfl ?_
          refine g_get F fa_X7_35 (dk dtX7_undo_0 23 rfl) (by decide) (cm0 D B _ _) rfl ?_
          refine g_bipush F (nI 31) (dk dtX7_undo_0 24 rfl) (by decide) ?_
          refine g_aload_n F 0 (dk dtX7_undo_0 25 rfl) rfl ?_
          refine g_get F fa_X7_122 (dk dtX7_undo_0 26 rfl) (by decide) (cm0 D B _ _) rfl ?_
          refine g_top (congrFun (setR_ne _ _ (by decide)) _) ?_
          refine g_top ((congrFun (up2_self _ _ _ _) _).trans pk_us) ?_
          refine g_imulN F (dk dtX7_undo_0 27 rfl) ?_
          refine g_iload_n F 1 (dk dtX7_undo_0 28 rfl) rfl ?_
          refine g_iaddN F (dk dtX7_undo_0 29 rfl) ?_
          refine g_iald F ((31 * U) + i) (dk dtX7_undo_0 30 rfl) (by decide) (cm9 D B _ _) (by omega) (by decide) ?_
          refine g_top (congrFun (setR_ne _ _ (by decide)) _) ?_
          refine g_top (congrFun (up2_ne _ _ (by decide)) _) ?_
          refine g_iast F (i) (dk dtX7_undo_0 31 rfl) (by decide) (fun r => cm5 D B _ r) (by omega) (by decide) ?_
          refine g_iinc F 1 (nI (i + 1)) [(1, .int (nI (i + 1))), (0, .ref (B + 0))] (dk dtX7_undo_0 32 rfl) rfl (nI_1 _) (by decide) rfl ?_
          refine g_goto F 27 (dk dtX7_undo_0 33 rfl) (by decide) ?_
          refine g_sub [1, 0] (L1 := [(0, .ref (B + 0)), (1, .int (nI (i + 1)))]) rfl ?_
          refine g_st (M1 := setR (up2 M 0 18 (nI U)) 5 (cpR (fun j => M 9 (31 * U + j)) (M 5) (i + 1))) (L1 := [(0, .ref (B + 0)), (1, .int (nI (i + 1)))]) (by rw [up2_setR]; exact congrArg (setR _ 5) (cpR_s (fun j => M 9 (31 * U + j)) _ _)) rfl rfl ?_
          exact ih27 (i + 1) (by omega) (by omega)
    refine g_sub [1, 0] (L1 := [(0, .ref (B + 0)), (1, .int (nI 0))]) rfl ?_
    refine g_mem (cpU_0 M U) ?_
    exact lp27 32 0 (by omega) (by omega)
  · -- not taken at 9
    exact absurd c9 (by omega)
set_option maxRecDepth 100000 in
set_option maxHeartbeats 4000000 in
theorem k_X7_who (l : Launch) (D : DX) (B : Nat) (T : Int64) (M : Mem) (h0 : M 0 0 = nI 0) (P : Nat) (hP : M 2 2 = nI P) (hP5 : P ≤ 5) (K : Nat) (hK : M 2 0 = nI K) (hK1 : 1 ≤ K) (hK4 : K ≤ 4) (X : Nat) (hX : M 2 1 = nI X) (hX1 : 1 ≤ X) (hX4 : X ≤ 4) (k x : Nat) (hk : k < K) (hx : x < X) (hW : WR (M 5))  : Ci l D B 14 (celM D B) yX7_who cX7_who 3 (some .int) 3 [.ref (B + 0), .int (nI k), .int (nI x)] T M (fun rz T1 M1 => rz = moR (evR (M 3) (M 2 0) (M 5) k (nI x) P) ∧ T1 = T ∧ Sm M M1) := by
  refine g_entryi (L := [(0, .ref (B + 0)), (1, .int (nI k)), (2, .int (nI x))]) (by decide) (Nat.le_of_ble_eq_true rfl) rfl ?_
  intro zp ze zs zm zb zt zc Q F hQ
  refine g_aload_n F 0 (dk dtX7_who_0 0 rfl) rfl ?_
  refine g_iconst F (nI 0) (dk dtX7_who_0 1 rfl) (by decide) ?_
  refine g_put F fa_X7_56 (dk dtX7_who_0 2 rfl) (by decide) (cm0 D B _ _) (Nat.le_of_ble_eq_true rfl) rfl rfl (cm0 D B _ _) ?_
  refine g_mem (up2_same h0) ?_
  refine g_aload_n F 0 (dk dtX7_who_0 3 rfl) rfl ?_
  refine g_iload_n F 1 (dk dtX7_who_0 4 rfl) rfl ?_
  refine g_callVi F (As := [.int (nI k)]) (st := []) cv_X7_132 (dk dtX7_who_0 5 rfl) (by decide) (cm0 D B _ _) rfl rfl (Nat.le_of_ble_eq_true rfl) ⟨by decide, by decide⟩ (k_X7_isKind l D B _ _ _ K hK (by omega)) (fun r7 T7 M7 hp7 => ?_)
  obtain ⟨e1, e2, e3⟩ := hp7
  replace e1 := e1.symm; replace e2 := e2.symm; replace e3 := e3.symm; subst e1; subst e2; subst e3
  refine g_if_eqB F 21 (dk dtX7_who_0 6 rfl) (by decide) (fun c => absurd (inR_nI (by omega)) c) (fun _ => ?_)
  refine g_aload_n F 0 (dk dtX7_who_0 7 rfl) rfl ?_
  refine g_iload_n F 2 (dk dtX7_who_0 8 rfl) rfl ?_
  refine g_callVi F (As := [.int (nI x)]) (st := []) cv_X7_151 (dk dtX7_who_0 9 rfl) (by decide) (cm0 D B _ _) rfl rfl (Nat.le_of_ble_eq_true rfl) ⟨by decide, by decide⟩ (k_X7_isPlace l D B _ _ _ X hX (by omega)) (fun r15 T15 M15 hp15 => ?_)
  obtain ⟨e1, e2, e3⟩ := hp15
  replace e1 := e1.symm; replace e2 := e2.symm; replace e3 := e3.symm; subst e1; subst e2; subst e3
  refine g_if_neB F 23 (dk dtX7_who_0 10 rfl) (by decide) (fun _ => ?_) (fun c => absurd (inR_nI (by omega)) c)
  refine g_aload_n F 0 (dk dtX7_who_0 13 rfl) rfl ?_
  refine g_get F fa_X7_22 (dk dtX7_who_0 14 rfl) (by decide) (cm0 D B _ _) rfl ?_
  refine g_aload_n F 0 (dk dtX7_who_0 15 rfl) rfl ?_
  refine g_get F fa_X7_25 (dk dtX7_who_0 16 rfl) (by decide) (cm0 D B _ _) rfl ?_
  refine g_callSv F (As := [.ref (B + 5), .ref (B + 6)]) (st := []) cs_X7_115 (dk dtX7_who_0 17 rfl) rfl rfl (Nat.le_of_ble_eq_true rfl) ⟨by decide, by decide⟩ (k_X7_copies l D B _ _ 5 6 (isRow5 D B) (isRow6 D B) (by decide)) (fun T31 M31 hp31 => ?_)
  obtain ⟨e2, e3⟩ := hp31
  replace e2 := e2.symm; replace e3 := e3.symm; subst e2; subst e3
  refine g_aload_n F 0 (dk dtX7_who_0 18 rfl) rfl ?_
  refine g_aload_n F 0 (dk dtX7_who_0 19 rfl) rfl ?_
  refine g_get F fa_X7_25 (dk dtX7_who_0 20 rfl) (by decide) (cm0 D B _ _) rfl ?_
  refine g_iload_n F 1 (dk dtX7_who_0 21 rfl) rfl ?_
  refine g_iload_n F 2 (dk dtX7_who_0 22 rfl) rfl ?_
  refine g_callVi F (As := [.ref (B + 6), .int (nI k), .int (nI x)]) (st := []) cv_X7_157 (dk dtX7_who_0 23 rfl) (by decide) (cm0 D B _ _) rfl rfl (Nat.le_of_ble_eq_true rfl) ⟨by decide, by decide⟩ (k_X7_eventR l D B _ _ 6 (isRow6 D B) k (by omega) (nI x) (M 3) ((M 2) 0) (M 5) (setR_ne _ _ (by decide)) (congrFun (setR_ne _ _ (by decide)) 0) (setR_self _ _ _) K P hK ((congrFun (setR_ne _ _ (by decide)) _).trans hP) hK1 hK4 hP5 hW) (fun r41 T41 M41 hp41 => ?_)
  obtain ⟨e1, e2, e3⟩ := hp41
  replace e1 := e1.symm; replace e2 := e2.symm; replace e3 := e3.symm; subst e1; subst e2; subst e3
  refine g_pop F (dk dtX7_who_0 24 rfl) rfl ?_
  refine g_aload_n F 0 (dk dtX7_who_0 25 rfl) rfl ?_
  refine g_get F fa_X7_25 (dk dtX7_who_0 26 rfl) (by decide) (cm0 D B _ _) rfl ?_
  refine g_callSi F (As := [.ref (B + 6)]) (st := []) cs_X7_140 (dk dtX7_who_0 27 rfl) rfl rfl (Nat.le_of_ble_eq_true rfl) ⟨by decide, by decide⟩ (k_X7_mayorOfR l D B _ _ 6 (isRow6 D B) (evR (M 3) ((M 2) 0) (M 5) k (nI x) P) (setR_self _ _ _)) (fun r49 T49 M49 hp49 => ?_)
  obtain ⟨e1, e2, e3⟩ := hp49
  replace e1 := e1.symm; replace e2 := e2.symm; replace e3 := e3.symm; subst e1; subst e2; subst e3
  refine g_iret (F := F) hQ (dk dtX7_who_0 28 rfl) ?_
  exact ⟨rfl, rfl, fun i h6 _ => by rw [setR_ne _ _ h6, setR_ne _ _ h6]⟩
set_option maxRecDepth 100000 in
set_option maxHeartbeats 4000000 in
theorem k_X7_who_bad (l : Launch) (D : DX) (B : Nat) (T : Int64) (M : Mem) (h0 : M 0 0 = nI 0) (K : Nat) (hK : M 2 0 = nI K) (hK1 : 1 ≤ K) (hK4 : K ≤ 4) (X : Nat) (hX : M 2 1 = nI X) (hX1 : 1 ≤ X) (hX4 : X ≤ 4) (k x : Int32) (hb : ¬ (inR k K ∧ inR x X)) : Ci l D B 14 (celM D B) yX7_who cX7_who 3 (some .int) 3 [.ref (B + 0), .int k, .int x] T M (fun rz T1 M1 => rz = (-1) ∧ T1 = T ∧ M1 = M) := by
  refine g_entryi (L := [(0, .ref (B + 0)), (1, .int k), (2, .int x)]) (by decide) (Nat.le_of_ble_eq_true rfl) rfl ?_
  intro zp ze zs zm zb zt zc Q F hQ
  refine g_aload_n F 0 (dk dtX7_who_0 0 rfl) rfl ?_
  refine g_iconst F (nI 0) (dk dtX7_who_0 1 rfl) (by decide) ?_
  refine g_put F fa_X7_56 (dk dtX7_who_0 2 rfl) (by decide) (cm0 D B _ _) (Nat.le_of_ble_eq_true rfl) rfl rfl (cm0 D B _ _) ?_
  refine g_mem (up2_same h0) ?_
  refine g_aload_n F 0 (dk dtX7_who_0 3 rfl) rfl ?_
  refine g_iload_n F 1 (dk dtX7_who_0 4 rfl) rfl ?_
  refine g_callVi F (As := [.int k]) (st := []) cv_X7_132 (dk dtX7_who_0 5 rfl) (by decide) (cm0 D B _ _) rfl rfl (Nat.le_of_ble_eq_true rfl) ⟨by decide, by decide⟩ (k_X7_isKind l D B _ _ _ K hK (by omega)) (fun r7 T7 M7 hp7 => ?_)
  obtain ⟨e1, e2, e3⟩ := hp7
  replace e1 := e1.symm; replace e2 := e2.symm; replace e3 := e3.symm; subst e1; subst e2; subst e3
  refine g_if_eqB F 21 (dk dtX7_who_0 6 rfl) (by decide) (fun c10 => ?_) (fun c10 => ?_)
  · -- taken at 10
    refine g_iconst F (-1) (dk dtX7_who_0 11 rfl) (by decide) ?_
    refine g_iret (F := F) hQ (dk dtX7_who_0 12 rfl) ?_
    exact ⟨rfl, rfl, rfl⟩
  · -- not taken at 10
    refine g_aload_n F 0 (dk dtX7_who_0 7 rfl) rfl ?_
    refine g_iload_n F 2 (dk dtX7_who_0 8 rfl) rfl ?_
    refine g_callVi F (As := [.int x]) (st := []) cv_X7_151 (dk dtX7_who_0 9 rfl) (by decide) (cm0 D B _ _) rfl rfl (Nat.le_of_ble_eq_true rfl) ⟨by decide, by decide⟩ (k_X7_isPlace l D B _ _ _ X hX (by omega)) (fun r15 T15 M15 hp15 => ?_)
    obtain ⟨e1, e2, e3⟩ := hp15
    replace e1 := e1.symm; replace e2 := e2.symm; replace e3 := e3.symm; subst e1; subst e2; subst e3
    refine g_if_neB F 23 (dk dtX7_who_0 10 rfl) (by decide) (fun c18 => ?_) (fun c18 => ?_)
    · -- taken at 18
      exact absurd ⟨c10, c18⟩ hb
    · -- not taken at 18
      refine g_iconst F (-1) (dk dtX7_who_0 11 rfl) (by decide) ?_
      refine g_iret (F := F) hQ (dk dtX7_who_0 12 rfl) ?_
      exact ⟨rfl, rfl, rfl⟩
set_option maxRecDepth 100000 in
set_option maxHeartbeats 4000000 in
theorem k_X7_stale (l : Launch) (D : DX) (B : Nat) (T : Int64) (M : Mem) (h0 : M 0 0 = nI 0) (P : Nat) (hP : M 2 2 = nI P) (hP5 : P ≤ 5) (K : Nat) (hK : M 2 0 = nI K) (hK1 : 1 ≤ K) (hK4 : K ≤ 4) (X : Nat) (hX : M 2 1 = nI X) (hX1 : 1 ≤ X) (hX4 : X ≤ 4) (k x : Nat) (hk : k < K) (hx : x < X) (hW : WR (M 5))  : Ci l D B 14 (celM D B) yX7_stale cX7_stale 4 (some .int) 3 [.ref (B + 0), .int (nI k), .int (nI x)] T M (fun rz T1 M1 => rz = stA (M 3) (M 2 0) k (nI x) P (M 5) 0 100 ∧ T1 = T ∧ Sm M M1) := by
  refine g_entryi (L := [(0, .ref (B + 0)), (1, .int (nI k)), (2, .int (nI x))]) (by decide) (Nat.le_of_ble_eq_true rfl) rfl ?_
  intro zp ze zs zm zb zt zc Q F hQ
  refine g_aload_n F 0 (dk dtX7_stale_0 0 rfl) rfl ?_
  refine g_iconst F (nI 0) (dk dtX7_stale_0 1 rfl) (by decide) ?_
  refine g_put F fa_X7_56 (dk dtX7_stale_0 2 rfl) (by decide) (cm0 D B _ _) (Nat.le_of_ble_eq_true rfl) rfl rfl (cm0 D B _ _) ?_
  refine g_mem (up2_same h0) ?_
  refine g_aload_n F 0 (dk dtX7_stale_0 3 rfl) rfl ?_
  refine g_iload_n F 1 (dk dtX7_stale_0 4 rfl) rfl ?_
  refine g_callVi F (As := [.int (nI k)]) (st := []) cv_X7_132 (dk dtX7_stale_0 5 rfl) (by decide) (cm0 D B _ _) rfl rfl (Nat.le_of_ble_eq_true rfl) ⟨by decide, by decide⟩ (k_X7_isKind l D B _ _ _ K hK (by omega)) (fun r7 T7 M7 hp7 => ?_)
  obtain ⟨e1, e2, e3⟩ := hp7
  replace e1 := e1.symm; replace e2 := e2.symm; replace e3 := e3.symm; subst e1; subst e2; subst e3
  refine g_if_eqB F 21 (dk dtX7_stale_0 6 rfl) (by decide) (fun c => absurd (inR_nI (by omega)) c) (fun _ => ?_)
  refine g_aload_n F 0 (dk dtX7_stale_0 7 rfl) rfl ?_
  refine g_iload_n F 2 (dk dtX7_stale_0 8 rfl) rfl ?_
  refine g_callVi F (As := [.int (nI x)]) (st := []) cv_X7_151 (dk dtX7_stale_0 9 rfl) (by decide) (cm0 D B _ _) rfl rfl (Nat.le_of_ble_eq_true rfl) ⟨by decide, by decide⟩ (k_X7_isPlace l D B _ _ _ X hX (by omega)) (fun r15 T15 M15 hp15 => ?_)
  obtain ⟨e1, e2, e3⟩ := hp15
  replace e1 := e1.symm; replace e2 := e2.symm; replace e3 := e3.symm; subst e1; subst e2; subst e3
  refine g_if_neB F 23 (dk dtX7_stale_0 10 rfl) (by decide) (fun _ => ?_) (fun c => absurd (inR_nI (by omega)) c)
  refine g_aload_n F 0 (dk dtX7_stale_0 13 rfl) rfl ?_
  refine g_get F fa_X7_22 (dk dtX7_stale_0 14 rfl) (by decide) (cm0 D B _ _) rfl ?_
  refine g_aload_n F 0 (dk dtX7_stale_0 15 rfl) rfl ?_
  refine g_get F fa_X7_25 (dk dtX7_stale_0 16 rfl) (by decide) (cm0 D B _ _) rfl ?_
  refine g_callSv F (As := [.ref (B + 5), .ref (B + 6)]) (st := []) cs_X7_115 (dk dtX7_stale_0 17 rfl) rfl rfl (Nat.le_of_ble_eq_true rfl) ⟨by decide, by decide⟩ (k_X7_copies l D B _ _ 5 6 (isRow5 D B) (isRow6 D B) (by decide)) (fun T31 M31 hp31 => ?_)
  obtain ⟨e2, e3⟩ := hp31
  replace e2 := e2.symm; replace e3 := e3.symm; subst e2; subst e3
  refine g_iconst F (nI 0) (dk dtX7_stale_0 18 rfl) (by decide) ?_
  refine g_istore_n F [(3, .int (nI 0)), (0, .ref (B + 0)), (1, .int (nI k)), (2, .int (nI x))] (dk dtX7_stale_0 19 rfl) (by decide) rfl ?_
  have lp36 : ∀ (fz : Nat) (i : Nat) (rw : Nat → Int32), (i ≤ 100 ∧ WR rw ∧ stA (M 3) (M 2 0) k (nI x) P rw i (100 - i) = stA (M 3) (M 2 0) k (nI x) P (M 5) 0 100) → (100 - i) < fz → G zp l ze { frames := 3, cells := 0, slots := 0, locals := 40 * 3 } zs zm [.ref (B + 0), .int (nI k), .int (nI x)].toArray zb zt zc 4 D B 14 (celM D B) Q T (setR M 6 rw) 36 [(0, .ref (B + 0)), (1, .int (nI k)), (2, .int (nI x)), (3, .int (nI i))] [] := by
    intro n36
    induction n36 with
    | zero => intro i rw hI hn; exact absurd hn (Nat.not_lt_zero _)
    | succ n36 ih36 =>
      intro i rw hI36 hn36
      refine g_iload_n F 3 (dk dtX7_stale_0 20 rfl) rfl ?_
      refine g_bipush F (nI 100) (dk dtX7_stale_0 21 rfl) (by decide) ?_
      refine g_icmp_geN F 63 (dk dtX7_stale_0 22 rfl) (by decide) (by omega) (by omega) (fun c39 => ?_) (fun c39 => ?_)
      · -- taken at 39
        obtain rfl : 100 = i := by omega
        refine g_bipush F (-9) (dk dtX7_stale_0 34 rfl) (by decide) ?_
        refine g_iret (F := F) hQ (dk dtX7_stale_0 35 rfl) ?_
        exact ⟨hI36.2.2, rfl, fun i h6 _ => by rw [setR_ne _ _ h6]⟩
      · -- not taken at 39
        refine g_aload_n F 0 (dk dtX7_stale_0 23 rfl) rfl ?_
        refine g_aload_n F 0 (dk dtX7_stale_0 24 rfl) rfl ?_
        refine g_get F fa_X7_25 (dk dtX7_stale_0 25 rfl) (by decide) (cm0 D B _ _) rfl ?_
        refine g_iload_n F 1 (dk dtX7_stale_0 26 rfl) rfl ?_
        refine g_iload_n F 2 (dk dtX7_stale_0 27 rfl) rfl ?_
        refine g_callVi F (As := [.ref (B + 6), .int (nI k), .int (nI x)]) (st := []) cv_X7_157 (dk dtX7_stale_0 28 rfl) (by decide) (cm0 D B _ _) rfl rfl (Nat.le_of_ble_eq_true rfl) ⟨by decide, by decide⟩ (k_X7_eventR l D B _ _ 6 (isRow6 D B) k (by omega) (nI x) (M 3) ((M 2) 0) rw (setR_ne _ _ (by decide)) (congrFun (setR_ne _ _ (by decide)) 0) (setR_self _ _ _) K P hK ((congrFun (setR_ne _ _ (by decide)) _).trans hP) hK1 hK4 hP5 hI36.2.1) (fun r49 T49 M49 hp49 => ?_)
        obtain ⟨e1, e2, e3⟩ := hp49
        replace e1 := e1.symm; replace e2 := e2.symm; replace e3 := e3.symm; subst e1; subst e2; subst e3
        refine g_if_ne F 57 (dk dtX7_stale_0 29 rfl) (by decide) (fun c52 => ?_) (fun c52 => ?_)
        · -- taken at 52
          refine g_iinc F 3 (nI (i + 1)) [(3, .int (nI (i + 1))), (0, .ref (B + 0)), (1, .int (nI k)), (2, .int (nI x))] (dk dtX7_stale_0 32 rfl) rfl (nI_1 _) (by decide) rfl ?_
          refine g_goto F 36 (dk dtX7_stale_0 33 rfl) (by decide) ?_
          refine g_sub [1, 2, 3, 0] (L1 := [(0, .ref (B + 0)), (1, .int (nI k)), (2, .int (nI x)), (3, .int (nI (i + 1)))]) rfl ?_
          refine g_mem (setR_setR _ _ _ _) ?_
          exact ih36 (i + 1) (evR (M 3) (M 2 0) rw k (nI x) P) ⟨by omega, evR_WR hI36.2.1 (by omega), stA_s (by omega) c52 hI36.2.2⟩ (by omega)
        · -- not taken at 52
          refine g_iload_n F 3 (dk dtX7_stale_0 30 rfl) rfl ?_
          refine g_iret (F := F) hQ (dk dtX7_stale_0 31 rfl) ?_
          exact ⟨(stA_hit (by omega) c52 hI36.2.2).symm ▸ rfl, rfl, fun i h6 _ => by rw [setR_ne _ _ h6, setR_ne _ _ h6]⟩
  refine g_sub [1, 2, 3, 0] (L1 := [(0, .ref (B + 0)), (1, .int (nI k)), (2, .int (nI x)), (3, .int (nI 0))]) rfl ?_
  exact lp36 101 0 (M 5) ⟨by omega, hW, rfl⟩ (by omega)
set_option maxRecDepth 100000 in
set_option maxHeartbeats 4000000 in
theorem k_X7_stale_bad (l : Launch) (D : DX) (B : Nat) (T : Int64) (M : Mem) (h0 : M 0 0 = nI 0) (K : Nat) (hK : M 2 0 = nI K) (hK1 : 1 ≤ K) (hK4 : K ≤ 4) (X : Nat) (hX : M 2 1 = nI X) (hX1 : 1 ≤ X) (hX4 : X ≤ 4) (k x : Int32) (hb : ¬ (inR k K ∧ inR x X)) : Ci l D B 14 (celM D B) yX7_stale cX7_stale 4 (some .int) 3 [.ref (B + 0), .int k, .int x] T M (fun rz T1 M1 => rz = (-1) ∧ T1 = T ∧ M1 = M) := by
  refine g_entryi (L := [(0, .ref (B + 0)), (1, .int k), (2, .int x)]) (by decide) (Nat.le_of_ble_eq_true rfl) rfl ?_
  intro zp ze zs zm zb zt zc Q F hQ
  refine g_aload_n F 0 (dk dtX7_stale_0 0 rfl) rfl ?_
  refine g_iconst F (nI 0) (dk dtX7_stale_0 1 rfl) (by decide) ?_
  refine g_put F fa_X7_56 (dk dtX7_stale_0 2 rfl) (by decide) (cm0 D B _ _) (Nat.le_of_ble_eq_true rfl) rfl rfl (cm0 D B _ _) ?_
  refine g_mem (up2_same h0) ?_
  refine g_aload_n F 0 (dk dtX7_stale_0 3 rfl) rfl ?_
  refine g_iload_n F 1 (dk dtX7_stale_0 4 rfl) rfl ?_
  refine g_callVi F (As := [.int k]) (st := []) cv_X7_132 (dk dtX7_stale_0 5 rfl) (by decide) (cm0 D B _ _) rfl rfl (Nat.le_of_ble_eq_true rfl) ⟨by decide, by decide⟩ (k_X7_isKind l D B _ _ _ K hK (by omega)) (fun r7 T7 M7 hp7 => ?_)
  obtain ⟨e1, e2, e3⟩ := hp7
  replace e1 := e1.symm; replace e2 := e2.symm; replace e3 := e3.symm; subst e1; subst e2; subst e3
  refine g_if_eqB F 21 (dk dtX7_stale_0 6 rfl) (by decide) (fun c10 => ?_) (fun c10 => ?_)
  · -- taken at 10
    refine g_iconst F (-1) (dk dtX7_stale_0 11 rfl) (by decide) ?_
    refine g_iret (F := F) hQ (dk dtX7_stale_0 12 rfl) ?_
    exact ⟨rfl, rfl, rfl⟩
  · -- not taken at 10
    refine g_aload_n F 0 (dk dtX7_stale_0 7 rfl) rfl ?_
    refine g_iload_n F 2 (dk dtX7_stale_0 8 rfl) rfl ?_
    refine g_callVi F (As := [.int x]) (st := []) cv_X7_151 (dk dtX7_stale_0 9 rfl) (by decide) (cm0 D B _ _) rfl rfl (Nat.le_of_ble_eq_true rfl) ⟨by decide, by decide⟩ (k_X7_isPlace l D B _ _ _ X hX (by omega)) (fun r15 T15 M15 hp15 => ?_)
    obtain ⟨e1, e2, e3⟩ := hp15
    replace e1 := e1.symm; replace e2 := e2.symm; replace e3 := e3.symm; subst e1; subst e2; subst e3
    refine g_if_neB F 23 (dk dtX7_stale_0 10 rfl) (by decide) (fun c18 => ?_) (fun c18 => ?_)
    · -- taken at 18
      exact absurd ⟨c10, c18⟩ hb
    · -- not taken at 18
      refine g_iconst F (-1) (dk dtX7_stale_0 11 rfl) (by decide) ?_
      refine g_iret (F := F) hQ (dk dtX7_stale_0 12 rfl) ?_
      exact ⟨rfl, rfl, rfl⟩
theorem k_X7_withTermsR (l : Launch) (D : DX) (B : Nat) (T : Int64) (M : Mem) (P : Nat) (hP : M 2 2 = nI P) (hP5 : P ≤ 5) (row : Nat → Int32) (hr : M 5 = row) : Ci l D B 14 (celM D B) yX7_withTerms cX7_withTerms 3 (some .int) 0 [.ref (B + 0)] T M (fun r T1 M1 => r = nI (nCnt (fun j => row (25 + j)) P) ∧ T1 = T ∧ M1 = M) := by
  subst hr
  exact k_X7_withTerms l D B T M P hP hP5
set_option maxRecDepth 100000 in
set_option maxHeartbeats 4000000 in
theorem k_X7_keep (l : Launch) (D : DX) (B : Nat) (T : Int64) (M : Mem) (h0 : M 0 0 = nI 0) (P : Nat) (hP : M 2 2 = nI P) (hP5 : P ≤ 5) (g : Nat) (hg : g < 2) : Ci l D B 14 (celM D B) yX7_keep cX7_keep 3 (some .int) 1 [.ref (B + 0), .int (nI g)] T M (fun r T1 M1 => r = nI (nCnt (fun j => M 5 (25 + j)) P) ∧ T1 = T ∧ M1 = up2 (setR M 7 (putn (M 7) (M 5) (31 * g) 31)) 8 g (nI 1)) := by
  refine g_entryi (L := [(0, .ref (B + 0)), (1, .int (nI g))]) (by decide) (Nat.le_of_ble_eq_true rfl) rfl ?_
  intro zp ze zs zm zb zt zc Q F hQ
  refine g_aload_n F 0 (dk dtX7_keep_0 0 rfl) rfl ?_
  refine g_iconst F (nI 0) (dk dtX7_keep_0 1 rfl) (by decide) ?_
  refine g_put F fa_X7_56 (dk dtX7_keep_0 2 rfl) (by decide) (cm0 D B _ _) (Nat.le_of_ble_eq_true rfl) rfl rfl (cm0 D B _ _) ?_
  refine g_mem (up2_same h0) ?_
  refine g_iload_n F 1 (dk dtX7_keep_0 3 rfl) rfl ?_
  refine g_iconst F (nI 0) (dk dtX7_keep_0 4 rfl) (by decide) ?_
  refine g_iconst F (nI 1) (dk dtX7_keep_0 5 rfl) (by decide) ?_
  refine g_callSi F (As := [.int (nI g), .int (nI 0), .int (nI 1)]) (st := []) cs_X7_60 (dk dtX7_keep_0 6 rfl) rfl rfl (Nat.le_of_ble_eq_true rfl) ⟨by decide, by decide⟩ (k_X7_inR l D B _ _ _ 1 (by decide)) (fun r8 T8 M8 hp8 => ?_)
  obtain ⟨e1, e2, e3⟩ := hp8
  replace e1 := e1.symm; replace e2 := e2.symm; replace e3 := e3.symm; subst e1; subst e2; subst e3
  refine g_if_neB F 16 (dk dtX7_keep_0 7 rfl) (by decide) (fun _ => ?_) (fun c => absurd (inR_nI (by omega)) c)
  refine g_iconst F (nI 0) (dk dtX7_keep_0 10 rfl) (by decide) ?_
  refine g_istore_n F [(2, .int (nI 0)), (0, .ref (B + 0)), (1, .int (nI g))] (dk dtX7_keep_0 11 rfl) (by decide) rfl ?_
  have lp18 : ∀ (fz : Nat) (i : Nat), i ≤ 31 → (31 - i) < fz → G zp l ze { frames := 1, cells := 0, slots := 0, locals := 40 * 1 } zs zm [.ref (B + 0), .int (nI g)].toArray zb zt zc 3 D B 14 (celM D B) Q T (setR M 7 (putn (M 7) (M 5) (31 * g) i)) 18 [(0, .ref (B + 0)), (1, .int (nI g)), (2, .int (nI i))] [] := by
    intro n18
    induction n18 with
    | zero => intro i hI hn; exact absurd hn (Nat.not_lt_zero _)
    | succ n18 ih18 =>
      intro i hI18 hn18
      refine g_iload_n F 2 (dk dtX7_keep_0 12 rfl) rfl ?_
      refine g_bipush F (nI 31) (dk dtX7_keep_0 13 rfl) (by decide) ?_
      refine g_icmp_geN F 47 (dk dtX7_keep_0 14 rfl) (by decide) (by omega) (by omega) (fun c21 => ?_) (fun c21 => ?_)
      · -- taken at 21
        obtain rfl : 31 = i := by omega
        refine g_aload_n F 0 (dk dtX7_keep_0 29 rfl) rfl ?_
        refine g_get F fa_X7_31 (dk dtX7_keep_0 30 rfl) (by decide) (cm0 D B _ _) rfl ?_
        refine g_iload_n F 1 (dk dtX7_keep_0 31 rfl) rfl ?_
        refine g_iconst F (nI 1) (dk dtX7_keep_0 32 rfl) (by decide) ?_
        refine g_zast F (g) (dk dtX7_keep_0 33 rfl) (by decide) (fun r => cm8 D B _ r) (by omega) (by decide) (by decide) ?_
        refine g_aload_n F 0 (dk dtX7_keep_0 34 rfl) rfl ?_
        refine g_callVi F (As := []) (st := []) cv_X7_197 (dk dtX7_keep_0 35 rfl) (by decide) (cm0 D B _ _) rfl rfl (Nat.le_of_ble_eq_true rfl) ⟨by decide, by decide⟩ (k_X7_withTermsR l D B _ _ P ((congrFun (up2_ne _ _ (by decide)) _).trans ((congrFun (setR_ne _ _ (by decide)) _).trans hP)) hP5 (M 5) ((up2_ne _ _ (by decide)).trans (setR_ne _ _ (by decide)))) (fun r55 T55 M55 hp55 => ?_)
        obtain ⟨e1, e2, e3⟩ := hp55
        replace e1 := e1.symm; replace e2 := e2.symm; replace e3 := e3.symm; subst e1; subst e2; subst e3
        refine g_iret (F := F) hQ (dk dtX7_keep_0 36 rfl) ?_
        exact ⟨rfl, rfl, rfl⟩
      · -- not taken at 21
        refine g_aload_n F 0 (dk dtX7_keep_0 15 rfl) rfl ?_
        refine g_get F fa_X7_28 (dk dtX7_keep_0 16 rfl) (by decide) (cm0 D B _ _) rfl ?_
        refine g_bipush F (nI 31) (dk dtX7_keep_0 17 rfl) (by decide) ?_
        refine g_iload_n F 1 (dk dtX7_keep_0 18 rfl) rfl ?_
        refine g_imulN F (dk dtX7_keep_0 19 rfl) ?_
        refine g_iload_n F 2 (dk dtX7_keep_0 20 rfl) rfl ?_
        refine g_iaddN F (dk dtX7_keep_0 21 rfl) ?_
        refine g_aload_n F 0 (dk dtX7_keep_0 22 rfl) rfl ?_
        refine g_get F fa_X7_22 (dk dtX7_keep_0 23 rfl) (by decide) (cm0 D B _ _) rfl ?_
        refine g_iload_n F 2 (dk dtX7_keep_0 24 rfl) rfl ?_
        refine g_iald F (i) (dk dtX7_keep_0 25 rfl) (by decide) (cm5 D B _ _) (by omega) (by decide) ?_
        refine g_top (congrFun (setR_ne _ _ (by decide)) _) ?_
        refine g_iast F ((31 * g) + i) (dk dtX7_keep_0 26 rfl) (by decide) (fun r => cm7 D B _ r) (by omega) (by decide) ?_
        refine g_iinc F 2 (nI (i + 1)) [(2, .int (nI (i + 1))), (0, .ref (B + 0)), (1, .int (nI g))] (dk dtX7_keep_0 27 rfl) rfl (nI_1 _) (by decide) rfl ?_
        refine g_goto F 18 (dk dtX7_keep_0 28 rfl) (by decide) ?_
        refine g_sub [1, 2, 0] (L1 := [(0, .ref (B + 0)), (1, .int (nI g)), (2, .int (nI (i + 1)))]) rfl ?_
        refine g_st (M1 := setR M 7 (putn (M 7) (M 5) (31 * g) (i + 1))) (L1 := [(0, .ref (B + 0)), (1, .int (nI g)), (2, .int (nI (i + 1)))]) (by rw [up2_setR]; exact congrArg (setR M 7) (putn_s _ _ _ _)) rfl rfl ?_
        exact ih18 (i + 1) (by omega) (by omega)
  refine g_sub [1, 2, 0] (L1 := [(0, .ref (B + 0)), (1, .int (nI g)), (2, .int (nI 0))]) rfl ?_
  exact g_mem (putn_0 rfl _ _) (lp18 32 0 (by omega) (by omega))
set_option maxRecDepth 100000 in
set_option maxHeartbeats 4000000 in
theorem k_X7_keep_bad (l : Launch) (D : DX) (B : Nat) (T : Int64) (M : Mem) (h0 : M 0 0 = nI 0) (g : Int32) (hb : ¬ inR g 2) : Ci l D B 14 (celM D B) yX7_keep cX7_keep 3 (some .int) 1 [.ref (B + 0), .int g] T M (fun rz T1 M1 => rz = (-1) ∧ T1 = T ∧ M1 = M) := by
  refine g_entryi (L := [(0, .ref (B + 0)), (1, .int g)]) (by decide) (Nat.le_of_ble_eq_true rfl) rfl ?_
  intro zp ze zs zm zb zt zc Q F hQ
  refine g_aload_n F 0 (dk dtX7_keep_0 0 rfl) rfl ?_
  refine g_iconst F (nI 0) (dk dtX7_keep_0 1 rfl) (by decide) ?_
  refine g_put F fa_X7_56 (dk dtX7_keep_0 2 rfl) (by decide) (cm0 D B _ _) (Nat.le_of_ble_eq_true rfl) rfl rfl (cm0 D B _ _) ?_
  refine g_mem (up2_same h0) ?_
  refine g_iload_n F 1 (dk dtX7_keep_0 3 rfl) rfl ?_
  refine g_iconst F (nI 0) (dk dtX7_keep_0 4 rfl) (by decide) ?_
  refine g_iconst F (nI 1) (dk dtX7_keep_0 5 rfl) (by decide) ?_
  refine g_callSi F (As := [.int g, .int (nI 0), .int (nI 1)]) (st := []) cs_X7_60 (dk dtX7_keep_0 6 rfl) rfl rfl (Nat.le_of_ble_eq_true rfl) ⟨by decide, by decide⟩ (k_X7_inR l D B _ _ _ 1 (by decide)) (fun r8 T8 M8 hp8 => ?_)
  obtain ⟨e1, e2, e3⟩ := hp8
  replace e1 := e1.symm; replace e2 := e2.symm; replace e3 := e3.symm; subst e1; subst e2; subst e3
  refine g_if_neB F 16 (dk dtX7_keep_0 7 rfl) (by decide) (fun c11 => ?_) (fun c11 => ?_)
  · -- taken at 11
    exact absurd c11 hb
  · -- not taken at 11
    refine g_iconst F (-1) (dk dtX7_keep_0 8 rfl) (by decide) ?_
    refine g_iret (F := F) hQ (dk dtX7_keep_0 9 rfl) ?_
    exact ⟨rfl, rfl, rfl⟩
set_option maxRecDepth 100000 in
set_option maxHeartbeats 4000000 in
theorem k_X7_back (l : Launch) (D : DX) (B : Nat) (T : Int64) (M : Mem) (h0 : M 0 0 = nI 0) (P : Nat) (hP : M 2 2 = nI P) (hP5 : P ≤ 5) (g : Nat) (hg : g < 2) (hs : M 8 g = nI 1) : Ci l D B 14 (celM D B) yX7_back cX7_back 3 (some .int) 1 [.ref (B + 0), .int (nI g)] T M (fun r T1 M1 => r = nI (nCnt (fun j => M 7 (31 * g + (25 + j))) P) ∧ T1 = T ∧ M1 = up2 (setR M 5 (fun j => M 7 (31 * g + j))) 0 18 (nI 0)) := by
  refine g_entryi (L := [(0, .ref (B + 0)), (1, .int (nI g))]) (by decide) (Nat.le_of_ble_eq_true rfl) rfl ?_
  intro zp ze zs zm zb zt zc Q F hQ
  refine g_aload_n F 0 (dk dtX7_back_0 0 rfl) rfl ?_
  refine g_iconst F (nI 0) (dk dtX7_back_0 1 rfl) (by decide) ?_
  refine g_put F fa_X7_56 (dk dtX7_back_0 2 rfl) (by decide) (cm0 D B _ _) (Nat.le_of_ble_eq_true rfl) rfl rfl (cm0 D B _ _) ?_
  refine g_mem (up2_same h0) ?_
  refine g_iload_n F 1 (dk dtX7_back_0 3 rfl) rfl ?_
  refine g_iconst F (nI 0) (dk dtX7_back_0 4 rfl) (by decide) ?_
  refine g_iconst F (nI 1) (dk dtX7_back_0 5 rfl) (by decide) ?_
  refine g_callSi F (As := [.int (nI g), .int (nI 0), .int (nI 1)]) (st := []) cs_X7_60 (dk dtX7_back_0 6 rfl) rfl rfl (Nat.le_of_ble_eq_true rfl) ⟨by decide, by decide⟩ (k_X7_inR l D B _ _ _ 1 (by decide)) (fun r8 T8 M8 hp8 => ?_)
  obtain ⟨e1, e2, e3⟩ := hp8
  replace e1 := e1.symm; replace e2 := e2.symm; replace e3 := e3.symm; subst e1; subst e2; subst e3
  refine g_if_neB F 16 (dk dtX7_back_0 7 rfl) (by decide) (fun _ => ?_) (fun c => absurd (inR_nI (by omega)) c)
  refine g_aload_n F 0 (dk dtX7_back_0 10 rfl) rfl ?_
  refine g_get F fa_X7_31 (dk dtX7_back_0 11 rfl) (by decide) (cm0 D B _ _) rfl ?_
  refine g_iload_n F 1 (dk dtX7_back_0 12 rfl) rfl ?_
  refine g_zald F (g) (dk dtX7_back_0 13 rfl) (by decide) (cm8 D B _ _) (by omega) (by decide) ?_
  refine g_top hs ?_
  refine g_if_neN F 28 (dk dtX7_back_0 14 rfl) (by decide) (by decide) (fun _ => ?_) (fun c => absurd c (by decide))
  refine g_iconst F (nI 0) (dk dtX7_back_0 17 rfl) (by decide) ?_
  refine g_istore_n F [(2, .int (nI 0)), (0, .ref (B + 0)), (1, .int (nI g))] (dk dtX7_back_0 18 rfl) (by decide) rfl ?_
  have lp30 : ∀ (fz : Nat) (i : Nat), i ≤ 31 → (31 - i) < fz → G zp l ze { frames := 1, cells := 0, slots := 0, locals := 40 * 1 } zs zm [.ref (B + 0), .int (nI g)].toArray zb zt zc 3 D B 14 (celM D B) Q T (setR M 5 (cpR (fun j => M 7 (31 * g + j)) (M 5) i)) 30 [(0, .ref (B + 0)), (1, .int (nI g)), (2, .int (nI i))] [] := by
    intro n30
    induction n30 with
    | zero => intro i hI hn; exact absurd hn (Nat.not_lt_zero _)
    | succ n30 ih30 =>
      intro i hI30 hn30
      refine g_iload_n F 2 (dk dtX7_back_0 19 rfl) rfl ?_
      refine g_bipush F (nI 31) (dk dtX7_back_0 20 rfl) (by decide) ?_
      refine g_icmp_geN F 59 (dk dtX7_back_0 21 rfl) (by decide) (by omega) (by omega) (fun c33 => ?_) (fun c33 => ?_)
      · -- taken at 33
        obtain rfl : 31 = i := by omega
        refine g_row (fun j => M 7 (31 * g + j)) (fun r => cm5 D B _ r) (fun j hj => by rw [setR_self]; exact cpR_in _ _ hj) ?_
        refine g_mem (setR_setR _ _ _ _) ?_
        refine g_aload_n F 0 (dk dtX7_back_0 36 rfl) rfl ?_
        refine g_iconst F (nI 0) (dk dtX7_back_0 37 rfl) (by decide) ?_
        refine g_put F fa_X7_122 (dk dtX7_back_0 38 rfl) (by decide) (cm0 D B _ _) (Nat.le_of_ble_eq_true rfl) rfl rfl (cm0 D B _ _) ?_
        refine g_aload_n F 0 (dk dtX7_back_0 39 rfl) rfl ?_
        refine g_callVi F (As := []) (st := []) cv_X7_197 (dk dtX7_back_0 40 rfl) (by decide) (cm0 D B _ _) rfl rfl (Nat.le_of_ble_eq_true rfl) ⟨by decide, by decide⟩ (k_X7_withTermsR l D B _ _ P ((congrFun (up2_ne _ _ (by decide)) _).trans ((congrFun (setR_ne _ _ (by decide)) _).trans hP)) hP5 (fun j => M 7 (31 * g + j)) ((up2_ne _ _ (by decide)).trans (setR_self _ _ _))) (fun r65 T65 M65 hp65 => ?_)
        obtain ⟨e1, e2, e3⟩ := hp65
        replace e1 := e1.symm; replace e2 := e2.symm; replace e3 := e3.symm; subst e1; subst e2; subst e3
        refine g_iret (F := F) hQ (dk dtX7_back_0 41 rfl) ?_
        exact ⟨rfl, rfl, rfl⟩
      · -- not taken at 33
        refine g_aload_n F 0 (dk dtX7_back_0 22 rfl) rfl ?_
        refine g_get F fa_X7_22 (dk dtX7_back_0 23 rfl) (by decide) (cm0 D B _ _) rfl ?_
        refine g_iload_n F 2 (dk dtX7_back_0 24 rfl) rfl ?_
        refine g_aload_n F 0 (dk dtX7_back_0 25 rfl) rfl ?_
        refine g_get F fa_X7_28 (dk dtX7_back_0 26 rfl) (by decide) (cm0 D B _ _) rfl ?_
        refine g_bipush F (nI 31) (dk dtX7_back_0 27 rfl) (by decide) ?_
        refine g_iload_n F 1 (dk dtX7_back_0 28 rfl) rfl ?_
        refine g_imulN F (dk dtX7_back_0 29 rfl) ?_
        refine g_iload_n F 2 (dk dtX7_back_0 30 rfl) rfl ?_
        refine g_iaddN F (dk dtX7_back_0 31 rfl) ?_
        refine g_iald F ((31 * g) + i) (dk dtX7_back_0 32 rfl) (by decide) (cm7 D B _ _) (by omega) (by decide) ?_
        refine g_top (congrFun (setR_ne _ _ (by decide)) _) ?_
        refine g_iast F (i) (dk dtX7_back_0 33 rfl) (by decide) (fun r => cm5 D B _ r) (by omega) (by decide) ?_
        refine g_iinc F 2 (nI (i + 1)) [(2, .int (nI (i + 1))), (0, .ref (B + 0)), (1, .int (nI g))] (dk dtX7_back_0 34 rfl) rfl (nI_1 _) (by decide) rfl ?_
        refine g_goto F 30 (dk dtX7_back_0 35 rfl) (by decide) ?_
        refine g_sub [1, 2, 0] (L1 := [(0, .ref (B + 0)), (1, .int (nI g)), (2, .int (nI (i + 1)))]) rfl ?_
        refine g_st (M1 := setR M 5 (cpR (fun j => M 7 (31 * g + j)) (M 5) (i + 1))) (L1 := [(0, .ref (B + 0)), (1, .int (nI g)), (2, .int (nI (i + 1)))]) (by rw [up2_setR]; exact congrArg (setR _ 5) (cpR_s (fun j => M 7 (31 * g + j)) _ _)) rfl rfl ?_
        exact ih30 (i + 1) (by omega) (by omega)
  refine g_sub [1, 2, 0] (L1 := [(0, .ref (B + 0)), (1, .int (nI g)), (2, .int (nI 0))]) rfl ?_
  refine g_mem (cpB_0 M g) ?_
  exact lp30 32 0 (by omega) (by omega)
set_option maxRecDepth 100000 in
set_option maxHeartbeats 4000000 in
theorem k_X7_back_state (l : Launch) (D : DX) (B : Nat) (T : Int64) (M : Mem) (h0 : M 0 0 = nI 0) (g : Nat) (hg : g < 2) (hs : M 8 g = nI 0) : Ci l D B 14 (celM D B) yX7_back cX7_back 3 (some .int) 1 [.ref (B + 0), .int (nI g)] T M (fun rz T1 M1 => rz = (-2) ∧ T1 = T ∧ M1 = M) := by
  refine g_entryi (L := [(0, .ref (B + 0)), (1, .int (nI g))]) (by decide) (Nat.le_of_ble_eq_true rfl) rfl ?_
  intro zp ze zs zm zb zt zc Q F hQ
  refine g_aload_n F 0 (dk dtX7_back_0 0 rfl) rfl ?_
  refine g_iconst F (nI 0) (dk dtX7_back_0 1 rfl) (by decide) ?_
  refine g_put F fa_X7_56 (dk dtX7_back_0 2 rfl) (by decide) (cm0 D B _ _) (Nat.le_of_ble_eq_true rfl) rfl rfl (cm0 D B _ _) ?_
  refine g_mem (up2_same h0) ?_
  refine g_iload_n F 1 (dk dtX7_back_0 3 rfl) rfl ?_
  refine g_iconst F (nI 0) (dk dtX7_back_0 4 rfl) (by decide) ?_
  refine g_iconst F (nI 1) (dk dtX7_back_0 5 rfl) (by decide) ?_
  refine g_callSi F (As := [.int (nI g), .int (nI 0), .int (nI 1)]) (st := []) cs_X7_60 (dk dtX7_back_0 6 rfl) rfl rfl (Nat.le_of_ble_eq_true rfl) ⟨by decide, by decide⟩ (k_X7_inR l D B _ _ _ 1 (by decide)) (fun r8 T8 M8 hp8 => ?_)
  obtain ⟨e1, e2, e3⟩ := hp8
  replace e1 := e1.symm; replace e2 := e2.symm; replace e3 := e3.symm; subst e1; subst e2; subst e3
  refine g_if_neB F 16 (dk dtX7_back_0 7 rfl) (by decide) (fun _ => ?_) (fun c => absurd (inR_nI (by omega)) c)
  refine g_aload_n F 0 (dk dtX7_back_0 10 rfl) rfl ?_
  refine g_get F fa_X7_31 (dk dtX7_back_0 11 rfl) (by decide) (cm0 D B _ _) rfl ?_
  refine g_iload_n F 1 (dk dtX7_back_0 12 rfl) rfl ?_
  refine g_zald F (g) (dk dtX7_back_0 13 rfl) (by decide) (cm8 D B _ _) (by omega) (by decide) ?_
  refine g_top hs ?_
  refine g_if_neN F 28 (dk dtX7_back_0 14 rfl) (by decide) (by decide) (fun c => absurd c (by decide)) (fun _ => ?_)
  refine g_bipush F (-2) (dk dtX7_back_0 15 rfl) (by decide) ?_
  refine g_iret (F := F) hQ (dk dtX7_back_0 16 rfl) ?_
  exact ⟨rfl, rfl, rfl⟩
set_option maxRecDepth 100000 in
set_option maxHeartbeats 4000000 in
theorem k_X7_back_bad (l : Launch) (D : DX) (B : Nat) (T : Int64) (M : Mem) (h0 : M 0 0 = nI 0) (g : Int32) (hb : ¬ inR g 2) : Ci l D B 14 (celM D B) yX7_back cX7_back 3 (some .int) 1 [.ref (B + 0), .int g] T M (fun rz T1 M1 => rz = (-1) ∧ T1 = T ∧ M1 = M) := by
  refine g_entryi (L := [(0, .ref (B + 0)), (1, .int g)]) (by decide) (Nat.le_of_ble_eq_true rfl) rfl ?_
  intro zp ze zs zm zb zt zc Q F hQ
  refine g_aload_n F 0 (dk dtX7_back_0 0 rfl) rfl ?_
  refine g_iconst F (nI 0) (dk dtX7_back_0 1 rfl) (by decide) ?_
  refine g_put F fa_X7_56 (dk dtX7_back_0 2 rfl) (by decide) (cm0 D B _ _) (Nat.le_of_ble_eq_true rfl) rfl rfl (cm0 D B _ _) ?_
  refine g_mem (up2_same h0) ?_
  refine g_iload_n F 1 (dk dtX7_back_0 3 rfl) rfl ?_
  refine g_iconst F (nI 0) (dk dtX7_back_0 4 rfl) (by decide) ?_
  refine g_iconst F (nI 1) (dk dtX7_back_0 5 rfl) (by decide) ?_
  refine g_callSi F (As := [.int g, .int (nI 0), .int (nI 1)]) (st := []) cs_X7_60 (dk dtX7_back_0 6 rfl) rfl rfl (Nat.le_of_ble_eq_true rfl) ⟨by decide, by decide⟩ (k_X7_inR l D B _ _ _ 1 (by decide)) (fun r8 T8 M8 hp8 => ?_)
  obtain ⟨e1, e2, e3⟩ := hp8
  replace e1 := e1.symm; replace e2 := e2.symm; replace e3 := e3.symm; subst e1; subst e2; subst e3
  refine g_if_neB F 16 (dk dtX7_back_0 7 rfl) (by decide) (fun c11 => ?_) (fun c11 => ?_)
  · -- taken at 11
    exact absurd c11 hb
  · -- not taken at 11
    refine g_iconst F (-1) (dk dtX7_back_0 8 rfl) (by decide) ?_
    refine g_iret (F := F) hQ (dk dtX7_back_0 9 rfl) ?_
    exact ⟨rfl, rfl, rfl⟩
end
section
def evi (E r n k : Nat) : Nat := r / E ^ (n - 1 - k) % E
theorem kx_lt {K X : Nat} (hK4 : K ≤ 4) (hX4 : X ≤ 4) : K * X < 2 ^ 31 := Nat.lt_of_le_of_lt (Nat.mul_le_mul hK4 hX4) (by decide)
theorem kx_le {K X : Nat} (hK4 : K ≤ 4) (hX4 : X ≤ 4) : K * X ≤ 16 := Nat.mul_le_mul hK4 hX4
theorem pw_pos {K X : Nat} (hK1 : 1 ≤ K) (hX1 : 1 ≤ X) (m : Nat) : 0 < (K * X) ^ m := Nat.pow_pos (Nat.mul_pos hK1 hX1)
theorem pw_le {K X m : Nat} (hK4 : K ≤ 4) (hX4 : X ≤ 4) (hm : m ≤ 3) : (K * X) ^ m ≤ 4096 := Nat.le_trans (Nat.pow_le_pow_left (kx_le hK4 hX4) m) (Nat.le_trans (Nat.pow_le_pow_right (by decide) hm) (by decide))
theorem pw_lt {K X m : Nat} (hK4 : K ≤ 4) (hX4 : X ≤ 4) (hm : m ≤ 3) : (K * X) ^ m < 2 ^ 31 := Nat.lt_of_le_of_lt (pw_le hK4 hX4 hm) (by decide)
theorem kn_le {K n : Nat} (hK4 : K ≤ 4) (hn : n ≤ 4) : K ^ n ≤ 256 := Nat.le_trans (Nat.pow_le_pow_left hK4 n) (Nat.le_trans (Nat.pow_le_pow_right (by decide) hn) (by decide))
theorem evi_lt {K X : Nat} (hK1 : 1 ≤ K) (hX1 : 1 ≤ X) (r n k : Nat) : evi (K * X) r n k < K * X := Nat.mod_lt _ (Nat.mul_pos hK1 hX1)
theorem evi_div {K X : Nat} (hK1 : 1 ≤ K) (hX1 : 1 ≤ X) (r n k : Nat) : evi (K * X) r n k / X < K := (Nat.div_lt_iff_lt_mul hX1).mpr (evi_lt hK1 hX1 r n k)
def mbR (nv : Nat → Int32) (Kv : Int32) (K X P : Nat) (s5 : Nat → Int32) (r n : Nat) : Nat → Nat → Int32
  | 0 => s5
  | i + 1 => evR nv Kv (mbR nv Kv K X P s5 r n i) (evi (K * X) r n i / X) (nI (evi (K * X) r n i % X)) P
theorem mbR_WR {nv : Nat → Int32} {Kv : Int32} {K X P : Nat} {s5 : Nat → Int32} (h : WR s5) (hK1 : 1 ≤ K) (hK4 : K ≤ 4) (hX1 : 1 ≤ X) (r n i : Nat) : WR (mbR nv Kv K X P s5 r n i) := by
  induction i with
  | zero => exact h
  | succ i ih => exact evR_WR ih (Nat.lt_of_lt_of_le (evi_div hK1 hX1 r n i) hK4)
def saE (X v : Nat) : Nat := 10 * (v / X) + v % X
def plQ (E : Nat) (mb : Nat → Nat → Int32) (pv : Int32) (res : Nat → Nat → Int32) (r : Int32) : Prop := (∃ n row, n ≤ 3 ∧ row < E ^ n ∧ mb row n = pv ∧ (∀ n1, n1 < n → ∀ r1, r1 < E ^ n1 → ¬ mb r1 n1 = pv) ∧ (∀ r1, r1 < row → ¬ mb r1 n = pv) ∧ r = res n row) ∨ ((∀ n, n ≤ 3 → ∀ r1, r1 < E ^ n → ¬ mb r1 n = pv) ∧ r = -9)
theorem in_m1 {k : Nat} (hk : k < 3) : ¬ nI k < -1 ∧ ¬ nI 2 < nI k := by
  rw [Int32.lt_iff_toInt_lt, Int32.lt_iff_toInt_lt, nI_toInt (by omega), nI_toInt (by omega)]
  exact ⟨by have : (-1 : Int32).toInt = -1 := by decide
            omega, by omega⟩
theorem nI_m1 {k : Nat} (hk : k < 3) : ¬ nI k = -1 := by
  intro h
  have := congrArg Int32.toInt h
  rw [nI_toInt (by omega)] at this
  have h1 : (-1 : Int32).toInt = -1 := by decide
  omega
def odR (nv : Nat → Int32) (Kv : Int32) (K : Nat) (x : Int32) (P : Nat) (s5 : Nat → Int32) (r : Nat) : Nat → Nat → Int32
  | 0 => s5
  | i + 1 => evR nv Kv (odR nv Kv K x P s5 r i) (r / K ^ i % K) x P
theorem odR_WR {nv : Nat → Int32} {Kv : Int32} {K : Nat} {x : Int32} {P : Nat} {s5 : Nat → Int32} {r : Nat} (h : WR s5) (hK1 : 1 ≤ K) (hK4 : K ≤ 4) (i : Nat) : WR (odR nv Kv K x P s5 r i) := by
  induction i with
  | zero => exact h
  | succ i ih => exact evR_WR ih (Nat.lt_of_lt_of_le (Nat.mod_lt _ hK1) hK4)
def odC (nv : Nat → Int32) (Kv : Int32) (K : Nat) (x : Int32) (P : Nat) (s5 : Nat → Int32) (n : Nat) (pv : Int32) : Nat → Nat
  | 0 => 0
  | r + 1 => odC nv Kv K x P s5 n pv r + (if moR (odR nv Kv K x P s5 r n) = pv then 1 else 0)
theorem odC_le (nv : Nat → Int32) (Kv : Int32) (K : Nat) (x : Int32) (P : Nat) (s5 : Nat → Int32) (n : Nat) (pv : Int32) (r : Nat) : odC nv Kv K x P s5 n pv r ≤ r := by
  induction r with
  | zero => exact Nat.le_refl _
  | succ r ih =>
    simp only [odC]
    split <;> omega
set_option maxRecDepth 100000 in
set_option maxHeartbeats 4000000 in
theorem k_X7_events (l : Launch) (D : DX) (B : Nat) (T : Int64) (M : Mem) (K X : Nat) (hK : M 2 0 = nI K) (hX : M 2 1 = nI X) : Ci l D B 14 (celM D B) yX7_events cX7_events 1 (some .int) 0 [.ref (B + 0)] T M (fun rz T1 M1 => rz = (nI (K * X)) ∧ T1 = T ∧ M1 = M) := by
  refine g_entryi (L := [(0, .ref (B + 0))]) (by decide) (Nat.le_of_ble_eq_true rfl) rfl ?_
  intro zp ze zs zm zb zt zc Q F hQ
  refine g_aload_n F 0 (dk dtX7_events_0 0 rfl) rfl ?_
  refine g_get F fa_X7_13 (dk dtX7_events_0 1 rfl) (by decide) (cm0 D B _ _) rfl ?_
  refine g_iconst F (nI 0) (dk dtX7_events_0 2 rfl) (by decide) ?_
  refine g_iald F (0) (dk dtX7_events_0 3 rfl) (by decide) (cm2 D B _ _) (by omega) (by decide) ?_
  refine g_top hK ?_
  refine g_aload_n F 0 (dk dtX7_events_0 4 rfl) rfl ?_
  refine g_get F fa_X7_13 (dk dtX7_events_0 5 rfl) (by decide) (cm0 D B _ _) rfl ?_
  refine g_iconst F (nI 1) (dk dtX7_events_0 6 rfl) (by decide) ?_
  refine g_iald F (1) (dk dtX7_events_0 7 rfl) (by decide) (cm2 D B _ _) (by omega) (by decide) ?_
  refine g_top hX ?_
  refine g_imulN F (dk dtX7_events_0 8 rfl) ?_
  refine g_iret (F := F) hQ (dk dtX7_events_0 9 rfl) ?_
  exact ⟨rfl, rfl, rfl⟩
set_option maxRecDepth 100000 in
set_option maxHeartbeats 4000000 in
theorem k_X7_power (l : Launch) (D : DX) (B : Nat) (T : Int64) (M : Mem) (b n : Nat) (hn : n ≤ 9) : Ci l D B 14 (celM D B) yX7_power cX7_power 4 (some .int) 0 [.int (nI b), .int (nI n)] T M (fun rz T1 M1 => rz = (nI (b ^ n)) ∧ T1 = T ∧ M1 = M) := by
  refine g_entryi (L := [(0, .int (nI b)), (1, .int (nI n))]) (by decide) (Nat.le_of_ble_eq_true rfl) rfl ?_
  intro zp ze zs zm zb zt zc Q F hQ
  refine g_iconst F (nI 1) (dk dtX7_power_0 0 rfl) (by decide) ?_
  refine g_istore_n F [(2, .int (nI 1)), (0, .int (nI b)), (1, .int (nI n))] (dk dtX7_power_0 1 rfl) (by decide) rfl ?_
  refine g_iconst F (nI 0) (dk dtX7_power_0 2 rfl) (by decide) ?_
  refine g_istore_n F [(3, .int (nI 0)), (2, .int (nI 1)), (0, .int (nI b)), (1, .int (nI n))] (dk dtX7_power_0 3 rfl) (by decide) rfl ?_
  have lp4 : ∀ (fz : Nat) (i : Nat), i ≤ n → (n - i) < fz → G zp l ze { frames := 0, cells := 0, slots := 0, locals := 40 * 0 } zs zm [.int (nI b), .int (nI n)].toArray zb zt zc 4 D B 14 (celM D B) Q T M 4 [(0, .int (nI b)), (1, .int (nI n)), (2, .int (nI (b ^ i))), (3, .int (nI i))] [] := by
    intro n4
    induction n4 with
    | zero => intro i hI hn; exact absurd hn (Nat.not_lt_zero _)
    | succ n4 ih4 =>
      intro i hI4 hn4
      refine g_iload_n F 3 (dk dtX7_power_0 4 rfl) rfl ?_
      refine g_iload_n F 1 (dk dtX7_power_0 5 rfl) rfl ?_
      refine g_icmp_geN F 19 (dk dtX7_power_0 6 rfl) (by decide) (by omega) (by omega) (fun c6 => ?_) (fun c6 => ?_)
      · -- taken at 6
        obtain rfl : n = i := by omega
        refine g_iload_n F 2 (dk dtX7_power_0 13 rfl) rfl ?_
        refine g_iret (F := F) hQ (dk dtX7_power_0 14 rfl) ?_
        exact ⟨rfl, rfl, rfl⟩
      · -- not taken at 6
        refine g_iload_n F 2 (dk dtX7_power_0 7 rfl) rfl ?_
        refine g_iload_n F 0 (dk dtX7_power_0 8 rfl) rfl ?_
        refine g_imulN F (dk dtX7_power_0 9 rfl) ?_
        refine g_istore_n F [(2, .int (nI ((b ^ i) * b))), (0, .int (nI b)), (1, .int (nI n)), (3, .int (nI i))] (dk dtX7_power_0 10 rfl) (by decide) rfl ?_
        refine g_iinc F 3 (nI (i + 1)) [(3, .int (nI (i + 1))), (2, .int (nI ((b ^ i) * b))), (0, .int (nI b)), (1, .int (nI n))] (dk dtX7_power_0 11 rfl) rfl (nI_1 _) (by decide) rfl ?_
        refine g_goto F 4 (dk dtX7_power_0 12 rfl) (by decide) ?_
        refine g_sub [2, 3, 1, 0] (L1 := [(0, .int (nI b)), (1, .int (nI n)), (2, .int (nI ((b ^ i) * b))), (3, .int (nI (i + 1)))]) rfl ?_
        have eq4_2 : (nI ((b ^ i) * b) : Int32) = nI (b ^ (i + 1)) := by
          rfl
        refine g_st (M1 := M) (L1 := [(0, .int (nI b)), (1, .int (nI n)), (2, .int (nI (b ^ (i + 1)))), (3, .int (nI (i + 1)))]) rfl (lc rfl (lc rfl (lc (vi eq4_2) (lc rfl rfl)))) rfl ?_
        exact ih4 (i + 1) (by omega) (by omega)
  refine g_sub [2, 3, 1, 0] (L1 := [(0, .int (nI b)), (1, .int (nI n)), (2, .int (nI 1)), (3, .int (nI 0))]) rfl ?_
  exact lp4 (n + 1) 0 (by omega) (by omega)
set_option maxRecDepth 100000 in
set_option maxHeartbeats 4000000 in
theorem k_X7_eventAt (l : Launch) (D : DX) (B : Nat) (T : Int64) (M : Mem) (K X : Nat) (hK : M 2 0 = nI K) (hX : M 2 1 = nI X) (hK1 : 1 ≤ K) (hK4 : K ≤ 4) (hX1 : 1 ≤ X) (hX4 : X ≤ 4) (r n k : Nat) (hr : r < 2 ^ 31) (hk : k < n) (hn : n ≤ 3) : Ci l D B 14 (celM D B) yX7_eventAt cX7_eventAt 4 (some .int) 1 [.ref (B + 0), .int (nI r), .int (nI n), .int (nI k)] T M (fun rz T1 M1 => rz = (nI (evi (K * X) r n k)) ∧ T1 = T ∧ M1 = M) := by
  refine g_entryi (L := [(0, .ref (B + 0)), (1, .int (nI r)), (2, .int (nI n)), (3, .int (nI k))]) (by decide) (Nat.le_of_ble_eq_true rfl) rfl ?_
  intro zp ze zs zm zb zt zc Q F hQ
  refine g_iload_n F 1 (dk dtX7_eventAt_0 0 rfl) rfl ?_
  refine g_aload_n F 0 (dk dtX7_eventAt_0 1 rfl) rfl ?_
  refine g_callVi F (As := []) (st := [.int (nI r)]) cv_X7_160 (dk dtX7_eventAt_0 2 rfl) (by decide) (cm0 D B _ _) rfl rfl (Nat.le_of_ble_eq_true rfl) ⟨by decide, by decide⟩ (k_X7_events l D B _ _ K X hK hX) (fun r2 T2 M2 hp2 => ?_)
  obtain ⟨e1, e2, e3⟩ := hp2
  replace e1 := e1.symm; replace e2 := e2.symm; replace e3 := e3.symm; subst e1; subst e2; subst e3
  refine g_iload_n F 2 (dk dtX7_eventAt_0 3 rfl) rfl ?_
  refine g_iconst F (nI 1) (dk dtX7_eventAt_0 4 rfl) (by decide) ?_
  refine g_isubN F (dk dtX7_eventAt_0 5 rfl) (by omega) ?_
  refine g_iload_n F 3 (dk dtX7_eventAt_0 6 rfl) rfl ?_
  refine g_isubN F (dk dtX7_eventAt_0 7 rfl) (by omega) ?_
  refine g_callSi F (As := [.int (nI (K * X)), .int (nI ((n - 1) - k))]) (st := [.int (nI r)]) cs_X7_163 (dk dtX7_eventAt_0 8 rfl) rfl rfl (Nat.le_of_ble_eq_true rfl) ⟨by decide, by decide⟩ (k_X7_power l D B _ _ (K * X) ((n - 1) - k) (by omega)) (fun r10 T10 M10 hp10 => ?_)
  obtain ⟨e1, e2, e3⟩ := hp10
  replace e1 := e1.symm; replace e2 := e2.symm; replace e3 := e3.symm; subst e1; subst e2; subst e3
  refine g_idivN F (dk dtX7_eventAt_0 9 rfl) (by omega) (pw_pos hK1 hX1 _) (pw_lt hK4 hX4 (by omega)) ?_
  refine g_aload_n F 0 (dk dtX7_eventAt_0 10 rfl) rfl ?_
  refine g_callVi F (As := []) (st := [.int (nI (r / ((K * X) ^ ((n - 1) - k))))]) cv_X7_160 (dk dtX7_eventAt_0 11 rfl) (by decide) (cm0 D B _ _) rfl rfl (Nat.le_of_ble_eq_true rfl) ⟨by decide, by decide⟩ (k_X7_events l D B _ _ K X hK hX) (fun r15 T15 M15 hp15 => ?_)
  obtain ⟨e1, e2, e3⟩ := hp15
  replace e1 := e1.symm; replace e2 := e2.symm; replace e3 := e3.symm; subst e1; subst e2; subst e3
  refine g_iremN F (dk dtX7_eventAt_0 12 rfl) (Nat.lt_of_le_of_lt (Nat.div_le_self _ _) hr) (Nat.mul_pos hK1 hX1) (kx_lt hK4 hX4) ?_
  refine g_iret (F := F) hQ (dk dtX7_eventAt_0 13 rfl) ?_
  exact ⟨rfl, rfl, rfl⟩
set_option maxRecDepth 100000 in
set_option maxHeartbeats 4000000 in
theorem k_X7_mayorBy (l : Launch) (D : DX) (B : Nat) (T : Int64) (M : Mem) (K X : Nat) (hK : M 2 0 = nI K) (hX : M 2 1 = nI X) (hK1 : 1 ≤ K) (hK4 : K ≤ 4) (hX1 : 1 ≤ X) (hX4 : X ≤ 4) (P : Nat) (hP : M 2 2 = nI P) (hP5 : P ≤ 5) (hW : WR (M 5)) (r n : Nat) (hr : r < 2 ^ 31) (hn : n ≤ 3) : Ci l D B 14 (celM D B) yX7_mayorBy cX7_mayorBy 5 (some .int) 3 [.ref (B + 0), .int (nI r), .int (nI n)] T M (fun r1 T1 M1 => r1 = moR (mbR (M 3) (M 2 0) K X P (M 5) r n n) ∧ T1 = T ∧ M1 = setR M 6 (mbR (M 3) (M 2 0) K X P (M 5) r n n)) := by
  refine g_entryi (L := [(0, .ref (B + 0)), (1, .int (nI r)), (2, .int (nI n))]) (by decide) (Nat.le_of_ble_eq_true rfl) rfl ?_
  intro zp ze zs zm zb zt zc Q F hQ
  refine g_aload_n F 0 (dk dtX7_mayorBy_0 0 rfl) rfl ?_
  refine g_get F fa_X7_22 (dk dtX7_mayorBy_0 1 rfl) (by decide) (cm0 D B _ _) rfl ?_
  refine g_aload_n F 0 (dk dtX7_mayorBy_0 2 rfl) rfl ?_
  refine g_get F fa_X7_25 (dk dtX7_mayorBy_0 3 rfl) (by decide) (cm0 D B _ _) rfl ?_
  refine g_callSv F (As := [.ref (B + 5), .ref (B + 6)]) (st := []) cs_X7_115 (dk dtX7_mayorBy_0 4 rfl) rfl rfl (Nat.le_of_ble_eq_true rfl) ⟨by decide, by decide⟩ (k_X7_copies l D B _ _ 5 6 (isRow5 D B) (isRow6 D B) (by decide)) (fun T8 M8 hp8 => ?_)
  obtain ⟨e2, e3⟩ := hp8
  replace e2 := e2.symm; replace e3 := e3.symm; subst e2; subst e3
  refine g_iconst F (nI 0) (dk dtX7_mayorBy_0 5 rfl) (by decide) ?_
  refine g_istore_n F [(3, .int (nI 0)), (0, .ref (B + 0)), (1, .int (nI r)), (2, .int (nI n))] (dk dtX7_mayorBy_0 6 rfl) (by decide) rfl ?_
  have lp13 : ∀ (fz : Nat) (i : Nat), i ≤ n → (n - i) < fz → G zp l ze { frames := 3, cells := 0, slots := 0, locals := 40 * 3 } zs zm [.ref (B + 0), .int (nI r), .int (nI n)].toArray zb zt zc 5 D B 14 (celM D B) Q T (setR M 6 (mbR (M 3) (M 2 0) K X P (M 5) r n i)) 13 [(0, .ref (B + 0)), (1, .int (nI r)), (2, .int (nI n)), (3, .int (nI i))] [] := by
    intro n13
    induction n13 with
    | zero => intro i hI hn; exact absurd hn (Nat.not_lt_zero _)
    | succ n13 ih13 =>
      intro i hI13 hn13
      refine g_iload_n F 3 (dk dtX7_mayorBy_0 7 rfl) rfl ?_
      refine g_iload_n F 2 (dk dtX7_mayorBy_0 8 rfl) rfl ?_
      refine g_icmp_geN F 60 (dk dtX7_mayorBy_0 9 rfl) (by decide) (by omega) (by omega) (fun c15 => ?_) (fun c15 => ?_)
      · -- taken at 15
        obtain rfl : n = i := by omega
        refine g_aload_n F 0 (dk dtX7_mayorBy_0 35 rfl) rfl ?_
        refine g_get F fa_X7_25 (dk dtX7_mayorBy_0 36 rfl) (by decide) (cm0 D B _ _) rfl ?_
        refine g_callSi F (As := [.ref (B + 6)]) (st := []) cs_X7_140 (dk dtX7_mayorBy_0 37 rfl) rfl rfl (Nat.le_of_ble_eq_true rfl) ⟨by decide, by decide⟩ (k_X7_mayorOfR l D B _ _ 6 (isRow6 D B) (mbR (M 3) (M 2 0) K X P (M 5) r n n) (setR_self _ _ _)) (fun r64 T64 M64 hp64 => ?_)
        obtain ⟨e1, e2, e3⟩ := hp64
        replace e1 := e1.symm; replace e2 := e2.symm; replace e3 := e3.symm; subst e1; subst e2; subst e3
        refine g_iret (F := F) hQ (dk dtX7_mayorBy_0 38 rfl) ?_
        exact ⟨rfl, rfl, rfl⟩
      · -- not taken at 15
        refine g_aload_n F 0 (dk dtX7_mayorBy_0 10 rfl) rfl ?_
        refine g_iload_n F 1 (dk dtX7_mayorBy_0 11 rfl) rfl ?_
        refine g_iload_n F 2 (dk dtX7_mayorBy_0 12 rfl) rfl ?_
        refine g_iload_n F 3 (dk dtX7_mayorBy_0 13 rfl) rfl ?_
        refine g_callVi F (As := [.int (nI r), .int (nI n), .int (nI i)]) (st := []) cv_X7_166 (dk dtX7_mayorBy_0 14 rfl) (by decide) (cm0 D B _ _) rfl rfl (Nat.le_of_ble_eq_true rfl) ⟨by decide, by decide⟩ (k_X7_eventAt l D B _ _ K X ((congrFun (setR_ne _ _ (by decide)) _).trans hK) ((congrFun (setR_ne _ _ (by decide)) _).trans hX) hK1 hK4 hX1 hX4 r n i (by omega) (by omega) (by omega)) (fun r22 T22 M22 hp22 => ?_)
        obtain ⟨e1, e2, e3⟩ := hp22
        replace e1 := e1.symm; replace e2 := e2.symm; replace e3 := e3.symm; subst e1; subst e2; subst e3
        have hek := evi_div hK1 hX1 r n i (X := X) (K := K)
        have hel := evi_lt hK1 hX1 r n i (X := X) (K := K)
        have hkx := kx_lt hK4 hX4
        refine g_istore F [(4, .int (nI (evi (K * X) r n i))), (0, .ref (B + 0)), (1, .int (nI r)), (2, .int (nI n)), (3, .int (nI i))] (dk dtX7_mayorBy_0 15 rfl) (by decide) rfl ?_
        refine g_aload_n F 1 (dk dtX7_mayorBy_0 16 rfl) rfl ?_
        refine g_aload_n F 1 (dk dtX7_mayorBy_0 17 rfl) rfl ?_
        refine g_get F fa_X7_25 (dk dtX7_mayorBy_0 18 rfl) (by decide) (cm0 D B _ _) rfl ?_
        refine g_iload F 0 (dk dtX7_mayorBy_0 19 rfl) rfl ?_
        refine g_aload_n F 1 (dk dtX7_mayorBy_0 20 rfl) rfl ?_
        refine g_get F fa_X7_13 (dk dtX7_mayorBy_0 21 rfl) (by decide) (cm0 D B _ _) rfl ?_
        refine g_iconst F (nI 1) (dk dtX7_mayorBy_0 22 rfl) (by decide) ?_
        refine g_iald F (1) (dk dtX7_mayorBy_0 23 rfl) (by decide) (cm2 D B _ _) (by omega) (by decide) ?_
        refine g_top (congrFun (setR_ne _ _ (by decide)) _) ?_
        refine g_top hX ?_
        refine g_idivN F (dk dtX7_mayorBy_0 24 rfl) (by omega) (by omega) (by omega) ?_
        refine g_iload F 0 (dk dtX7_mayorBy_0 25 rfl) rfl ?_
        refine g_aload_n F 1 (dk dtX7_mayorBy_0 26 rfl) rfl ?_
        refine g_get F fa_X7_13 (dk dtX7_mayorBy_0 27 rfl) (by decide) (cm0 D B _ _) rfl ?_
        refine g_iconst F (nI 1) (dk dtX7_mayorBy_0 28 rfl) (by decide) ?_
        refine g_iald F (1) (dk dtX7_mayorBy_0 29 rfl) (by decide) (cm2 D B _ _) (by omega) (by decide) ?_
        refine g_top (congrFun (setR_ne _ _ (by decide)) _) ?_
        refine g_top hX ?_
        refine g_iremN F (dk dtX7_mayorBy_0 30 rfl) (by omega) (by omega) (by omega) ?_
        refine g_callVi F (As := [.ref (B + 6), .int (nI ((evi (K * X) r n i) / X)), .int (nI ((evi (K * X) r n i) % X))]) (st := []) cv_X7_157 (dk dtX7_mayorBy_0 31 rfl) (by decide) (cm0 D B _ _) rfl rfl (Nat.le_of_ble_eq_true rfl) ⟨by decide, by decide⟩ (k_X7_eventR l D B _ _ 6 (isRow6 D B) ((evi (K * X) r n i) / X) (by omega) (nI ((evi (K * X) r n i) % X)) (M 3) ((M 2) 0) (mbR (M 3) (M 2 0) K X P (M 5) r n i) (setR_ne _ _ (by decide)) (congrFun (setR_ne _ _ (by decide)) 0) (setR_self _ _ _) K P hK ((congrFun (setR_ne _ _ (by decide)) _).trans hP) hK1 hK4 hP5 (mbR_WR hW hK1 hK4 hX1 _ _ _)) (fun r50 T50 M50 hp50 => ?_)
        obtain ⟨e1, e2, e3⟩ := hp50
        replace e1 := e1.symm; replace e2 := e2.symm; replace e3 := e3.symm; subst e1; subst e2; subst e3
        refine g_pop F (dk dtX7_mayorBy_0 32 rfl) rfl ?_
        refine g_iinc F 4 (nI (i + 1)) [(3, .int (nI (i + 1))), (4, .int (nI (evi (K * X) r n i))), (0, .ref (B + 0)), (1, .int (nI r)), (2, .int (nI n))] (dk dtX7_mayorBy_0 33 rfl) rfl (nI_1 _) (by decide) rfl ?_
        refine g_goto F 13 (dk dtX7_mayorBy_0 34 rfl) (by decide) ?_
        refine g_sub [2, 3, 4, 0] (L1 := [(0, .ref (B + 0)), (1, .int (nI r)), (2, .int (nI n)), (3, .int (nI (i + 1)))]) rfl ?_
        refine g_st (M1 := setR M 6 (mbR (M 3) (M 2 0) K X P (M 5) r n (i + 1))) (L1 := [(0, .ref (B + 0)), (1, .int (nI r)), (2, .int (nI n)), (3, .int (nI (i + 1)))]) (by rw [setR_setR]; rfl) rfl rfl ?_
        exact ih13 (i + 1) (by omega) (by omega)
  refine g_sub [1, 2, 3, 0] (L1 := [(0, .ref (B + 0)), (1, .int (nI r)), (2, .int (nI n)), (3, .int (nI 0))]) rfl ?_
  exact lp13 (n + 1) 0 (by omega) (by omega)
theorem k_X7_mayorByR (l : Launch) (D : DX) (B : Nat) (T : Int64) (M : Mem) (K X : Nat) (nv : Nat → Int32) (Kv : Int32) (s5 : Nat → Int32) (h3 : M 3 = nv) (h2 : M 2 0 = Kv) (h5 : M 5 = s5) (hK : Kv = nI K) (hX : M 2 1 = nI X) (hK1 : 1 ≤ K) (hK4 : K ≤ 4) (hX1 : 1 ≤ X) (hX4 : X ≤ 4) (P : Nat) (hP : M 2 2 = nI P) (hP5 : P ≤ 5) (hW : WR s5) (r n : Nat) (hr : r < 2 ^ 31) (hn : n ≤ 3) : Ci l D B 14 (celM D B) yX7_mayorBy cX7_mayorBy 5 (some .int) 3 [.ref (B + 0), .int (nI r), .int (nI n)] T M (fun r1 T1 M1 => r1 = moR (mbR nv Kv K X P s5 r n n) ∧ T1 = T ∧ M1 = setR M 6 (mbR nv Kv K X P s5 r n n)) := by
  subst h3 h2 h5
  exact k_X7_mayorBy l D B T M K X hK hX hK1 hK4 hX1 hX4 P hP hP5 hW r n hr hn
set_option maxRecDepth 100000 in
set_option maxHeartbeats 4000000 in
theorem k_X7_saysOf (l : Launch) (D : DX) (B : Nat) (T : Int64) (M : Mem) (X : Nat) (hX : M 2 1 = nI X) (hX1 : 1 ≤ X) (hX4 : X ≤ 4) (v : Nat) (hv : v < 2 ^ 31) : Ci l D B 14 (celM D B) yX7_saysOf cX7_saysOf 2 (some .int) 0 [.ref (B + 0), .int (nI v)] T M (fun rz T1 M1 => rz = (nI (saE X v)) ∧ T1 = T ∧ M1 = M) := by
  refine g_entryi (L := [(0, .ref (B + 0)), (1, .int (nI v))]) (by decide) (Nat.le_of_ble_eq_true rfl) rfl ?_
  intro zp ze zs zm zb zt zc Q F hQ
  refine g_bipush F (nI 10) (dk dtX7_saysOf_0 0 rfl) (by decide) ?_
  refine g_iload_n F 1 (dk dtX7_saysOf_0 1 rfl) rfl ?_
  refine g_aload_n F 0 (dk dtX7_saysOf_0 2 rfl) rfl ?_
  refine g_get F fa_X7_13 (dk dtX7_saysOf_0 3 rfl) (by decide) (cm0 D B _ _) rfl ?_
  refine g_iconst F (nI 1) (dk dtX7_saysOf_0 4 rfl) (by decide) ?_
  refine g_iald F (1) (dk dtX7_saysOf_0 5 rfl) (by decide) (cm2 D B _ _) (by omega) (by decide) ?_
  refine g_top hX ?_
  refine g_idivN F (dk dtX7_saysOf_0 6 rfl) (by omega) (by omega) (by omega) ?_
  refine g_imulN F (dk dtX7_saysOf_0 7 rfl) ?_
  refine g_iload_n F 1 (dk dtX7_saysOf_0 8 rfl) rfl ?_
  refine g_aload_n F 0 (dk dtX7_saysOf_0 9 rfl) rfl ?_
  refine g_get F fa_X7_13 (dk dtX7_saysOf_0 10 rfl) (by decide) (cm0 D B _ _) rfl ?_
  refine g_iconst F (nI 1) (dk dtX7_saysOf_0 11 rfl) (by decide) ?_
  refine g_iald F (1) (dk dtX7_saysOf_0 12 rfl) (by decide) (cm2 D B _ _) (by omega) (by decide) ?_
  refine g_top hX ?_
  refine g_iremN F (dk dtX7_saysOf_0 13 rfl) (by omega) (by omega) (by omega) ?_
  refine g_iaddN F (dk dtX7_saysOf_0 14 rfl) ?_
  refine g_iret (F := F) hQ (dk dtX7_saysOf_0 15 rfl) ?_
  exact ⟨rfl, rfl, rfl⟩
set_option maxRecDepth 100000 in
set_option maxHeartbeats 4000000 in
theorem k_X7_plan_m1 (l : Launch) (D : DX) (B : Nat) (T : Int64) (M : Mem) (h0 : M 0 0 = nI 0) (K X : Nat) (hK : M 2 0 = nI K) (hX : M 2 1 = nI X) (hK1 : 1 ≤ K) (hK4 : K ≤ 4) (hX1 : 1 ≤ X) (hX4 : X ≤ 4) (P : Nat) (hP : M 2 2 = nI P) (hP5 : P ≤ 5) (hW : WR (M 5)) (p : Nat) (hp : p < P)  : Ci l D B 14 (celM D B) yX7_plan cX7_plan 5 (some .int) 4 [.ref (B + 0), .int (nI p), .int (-1)] T M (fun rz T1 M1 => plQ (K * X) (fun r n => moR (mbR (M 3) (M 2 0) K X P (M 5) r n n)) (nI p) (fun n _ => nI n) rz ∧ T1 = T ∧ Sm M M1) := by
  refine g_entryi (L := [(0, .ref (B + 0)), (1, .int (nI p)), (2, .int (-1))]) (by decide) (Nat.le_of_ble_eq_true rfl) rfl ?_
  intro zp ze zs zm zb zt zc Q F hQ
  refine g_aload_n F 0 (dk dtX7_plan_0 0 rfl) rfl ?_
  refine g_iconst F (nI 0) (dk dtX7_plan_0 1 rfl) (by decide) ?_
  refine g_put F fa_X7_56 (dk dtX7_plan_0 2 rfl) (by decide) (cm0 D B _ _) (Nat.le_of_ble_eq_true rfl) rfl rfl (cm0 D B _ _) ?_
  refine g_mem (up2_same h0) ?_
  refine g_aload_n F 0 (dk dtX7_plan_0 3 rfl) rfl ?_
  refine g_iload_n F 1 (dk dtX7_plan_0 4 rfl) rfl ?_
  refine g_callVi F (As := [.int (nI p)]) (st := []) cv_X7_129 (dk dtX7_plan_0 5 rfl) (by decide) (cm0 D B _ _) rfl rfl (Nat.le_of_ble_eq_true rfl) ⟨by decide, by decide⟩ (k_X7_isOne l D B _ _ _ P hP (by omega)) (fun r7 T7 M7 hp7 => ?_)
  obtain ⟨e1, e2, e3⟩ := hp7
  replace e1 := e1.symm; replace e2 := e2.symm; replace e3 := e3.symm; subst e1; subst e2; subst e3
  refine g_if_eqB F 22 (dk dtX7_plan_0 6 rfl) (by decide) (fun c => absurd (inR_nI (by omega)) c) (fun _ => ?_)
  refine g_iload_n F 2 (dk dtX7_plan_0 7 rfl) rfl ?_
  refine g_iconst F (-1) (dk dtX7_plan_0 8 rfl) (by decide) ?_
  refine g_iconst F (nI 2) (dk dtX7_plan_0 9 rfl) (by decide) ?_
  refine g_callSi F (As := [.int (-1), .int (-1), .int (nI 2)]) (st := []) cs_X7_60 (dk dtX7_plan_0 10 rfl) rfl rfl (Nat.le_of_ble_eq_true rfl) ⟨by decide, by decide⟩ (k_X7_in l D B _ _ _ _ _) (fun r16 T16 M16 hp16 => ?_)
  obtain ⟨e1, e2, e3⟩ := hp16
  replace e1 := e1.symm; replace e2 := e2.symm; replace e3 := e3.symm; subst e1; subst e2; subst e3
  refine g_if_neB F 24 (dk dtX7_plan_0 11 rfl) (by decide) (fun c19 => ?_) (fun c19 => ?_)
  · -- taken at 19
    refine g_iconst F (nI 0) (dk dtX7_plan_0 14 rfl) (by decide) ?_
    refine g_istore_n F [(3, .int (nI 0)), (0, .ref (B + 0)), (1, .int (nI p)), (2, .int (-1))] (dk dtX7_plan_0 15 rfl) (by decide) rfl ?_
    have lp26 : ∀ (fz : Nat) (i : Nat) (rw : Nat → Int32), (i ≤ 4 ∧ ∀ n1, n1 < i → ∀ r1, r1 < (K * X) ^ n1 → ¬ moR (mbR (M 3) (M 2 0) K X P (M 5) r1 n1 n1) = nI p) → (4 - i) < fz → G zp l ze { frames := 4, cells := 0, slots := 0, locals := 40 * 4 } zs zm [.ref (B + 0), .int (nI p), .int (-1)].toArray zb zt zc 5 D B 14 (celM D B) Q T (setR M 6 rw) 26 [(0, .ref (B + 0)), (1, .int (nI p)), (2, .int (-1)), (3, .int (nI i))] [] := by
      intro n26
      induction n26 with
      | zero => intro i rw hI hn; exact absurd hn (Nat.not_lt_zero _)
      | succ n26 ih26 =>
        intro i rw hI26 hn26
        refine g_iload_n F 3 (dk dtX7_plan_0 16 rfl) rfl ?_
        refine g_iconst F (nI 3) (dk dtX7_plan_0 17 rfl) (by decide) ?_
        refine g_icmp_gtN F 102 (dk dtX7_plan_0 18 rfl) (by decide) (by omega) (by omega) (fun c28 => ?_) (fun c28 => ?_)
        · -- taken at 28
          obtain rfl : 4 = i := by omega
          refine g_bipush F (-9) (dk dtX7_plan_0 55 rfl) (by decide) ?_
          refine g_iret (F := F) hQ (dk dtX7_plan_0 56 rfl) ?_
          refine ⟨Or.inr ⟨fun n hn r1 hr1 => hI26.2 n (by omega) r1 hr1, rfl⟩, rfl, fun i h6 _ => by rw [setR_ne _ _ h6]⟩
        · -- not taken at 28
          refine g_iconst F (nI 0) (dk dtX7_plan_0 19 rfl) (by decide) ?_
          refine g_istore F [(4, .int (nI 0)), (0, .ref (B + 0)), (1, .int (nI p)), (2, .int (-1)), (3, .int (nI i))] (dk dtX7_plan_0 20 rfl) (by decide) rfl ?_
          have lp34 : ∀ (fz : Nat) (r : Nat) (rw1 : Nat → Int32), (r ≤ (K * X) ^ i ∧ ∀ r1, r1 < r → ¬ moR (mbR (M 3) (M 2 0) K X P (M 5) r1 i i) = nI p) → ((K * X) ^ i - r) < fz → G zp l ze { frames := 4, cells := 0, slots := 0, locals := 40 * 4 } zs zm [.ref (B + 0), .int (nI p), .int (-1)].toArray zb zt zc 5 D B 14 (celM D B) Q T (setR M 6 rw1) 34 [(0, .ref (B + 0)), (1, .int (nI p)), (2, .int (-1)), (3, .int (nI i)), (4, .int (nI r))] [] := by
            intro n34
            induction n34 with
            | zero => intro r rw1 hI hn; exact absurd hn (Nat.not_lt_zero _)
            | succ n34 ih34 =>
              intro r rw1 hI34 hn34
              have hpw := pw_le hK4 hX4 (show i ≤ 3 by omega)
              refine g_iload F 4 (dk dtX7_plan_0 21 rfl) rfl ?_
              refine g_aload_n F 0 (dk dtX7_plan_0 22 rfl) rfl ?_
              refine g_callVi F (As := []) (st := [.int (nI r)]) cv_X7_160 (dk dtX7_plan_0 23 rfl) (by decide) (cm0 D B _ _) rfl rfl (Nat.le_of_ble_eq_true rfl) ⟨by decide, by decide⟩ (k_X7_events l D B _ _ K X ((congrFun (setR_ne _ _ (by decide)) _).trans hK) ((congrFun (setR_ne _ _ (by decide)) _).trans hX)) (fun r37 T37 M37 hp37 => ?_)
              obtain ⟨e1, e2, e3⟩ := hp37
              replace e1 := e1.symm; replace e2 := e2.symm; replace e3 := e3.symm; subst e1; subst e2; subst e3
              refine g_iload_n F 3 (dk dtX7_plan_0 24 rfl) rfl ?_
              refine g_callSi F (As := [.int (nI (K * X)), .int (nI i)]) (st := [.int (nI r)]) cs_X7_163 (dk dtX7_plan_0 25 rfl) rfl rfl (Nat.le_of_ble_eq_true rfl) ⟨by decide, by decide⟩ (k_X7_power l D B _ _ (K * X) i (by omega)) (fun r41 T41 M41 hp41 => ?_)
              obtain ⟨e1, e2, e3⟩ := hp41
              replace e1 := e1.symm; replace e2 := e2.symm; replace e3 := e3.symm; subst e1; subst e2; subst e3
              refine g_icmp_geN F 96 (dk dtX7_plan_0 26 rfl) (by decide) (by omega) (by omega) (fun c44 => ?_) (fun c44 => ?_)
              · -- taken at 44
                refine g_iinc F 3 (nI (i + 1)) [(3, .int (nI (i + 1))), (0, .ref (B + 0)), (1, .int (nI p)), (2, .int (-1)), (4, .int (nI r))] (dk dtX7_plan_0 53 rfl) rfl (nI_1 _) (by decide) rfl ?_
                refine g_goto F 26 (dk dtX7_plan_0 54 rfl) (by decide) ?_
                refine g_sub [1, 2, 3, 0] (L1 := [(0, .ref (B + 0)), (1, .int (nI p)), (2, .int (-1)), (3, .int (nI (i + 1)))]) rfl ?_
                exact ih26 (i + 1) rw1 ⟨by omega, fun n1 h1 r1 h2 => by
                  rcases Nat.lt_or_ge n1 i with h3 | h3
                  · exact hI26.2 n1 h3 r1 h2
                  · obtain rfl : i = n1 := by omega
                    exact hI34.2 r1 (by omega)⟩ (by omega)
              · -- not taken at 44
                refine g_aload_n F 0 (dk dtX7_plan_0 27 rfl) rfl ?_
                refine g_iload F 4 (dk dtX7_plan_0 28 rfl) rfl ?_
                refine g_iload_n F 3 (dk dtX7_plan_0 29 rfl) rfl ?_
                refine g_callVi F (As := [.int (nI r), .int (nI i)]) (st := []) cv_X7_170 (dk dtX7_plan_0 30 rfl) (by decide) (cm0 D B _ _) rfl rfl (Nat.le_of_ble_eq_true rfl) ⟨by decide, by decide⟩ (k_X7_mayorByR l D B _ _ K X (M 3) (M 2 0) (M 5) (setR_ne _ _ (by decide)) (congrFun (setR_ne _ _ (by decide)) 0) (setR_ne _ _ (by decide)) hK ((congrFun (setR_ne _ _ (by decide)) _).trans hX) hK1 hK4 hX1 hX4 P ((congrFun (setR_ne _ _ (by decide)) _).trans hP) hP5 hW r i (by omega) (by omega)) (fun r51 T51 M51 hp51 => ?_)
                obtain ⟨e1, e2, e3⟩ := hp51
                replace e1 := e1.symm; replace e2 := e2.symm; replace e3 := e3.symm; subst e1; subst e2; subst e3
                refine g_iload_n F 1 (dk dtX7_plan_0 31 rfl) rfl ?_
                refine g_icmp_ne F 90 (dk dtX7_plan_0 32 rfl) (by decide) (fun c55 => ?_) (fun c55 => ?_)
                · -- taken at 55
                  refine g_iinc F 4 (nI (r + 1)) [(4, .int (nI (r + 1))), (0, .ref (B + 0)), (1, .int (nI p)), (2, .int (-1)), (3, .int (nI i))] (dk dtX7_plan_0 51 rfl) rfl (nI_1 _) (by decide) rfl ?_
                  refine g_goto F 34 (dk dtX7_plan_0 52 rfl) (by decide) ?_
                  refine g_sub [1, 2, 3, 4, 0] (L1 := [(0, .ref (B + 0)), (1, .int (nI p)), (2, .int (-1)), (3, .int (nI i)), (4, .int (nI (r + 1)))]) rfl ?_
                  refine g_mem (setR_setR _ _ _ _) ?_
                  exact ih34 (r + 1) _ ⟨by omega, fun r1 h1 => by
                    rcases Nat.lt_or_ge r1 r with h3 | h3
                    · exact hI34.2 r1 h3
                    · obtain rfl : r = r1 := by omega
                      exact c55⟩ (by omega)
                · -- not taken at 55
                  refine g_iload_n F 2 (dk dtX7_plan_0 33 rfl) rfl ?_
                  refine g_iconst F (-1) (dk dtX7_plan_0 34 rfl) (by decide) ?_
                  refine g_icmp_ne F 67 (dk dtX7_plan_0 35 rfl) (by decide) (fun c60 => ?_) (fun c60 => ?_)
                  · -- taken at 60
                    exact absurd rfl c60
                  · -- not taken at 60
                    refine g_iload_n F 3 (dk dtX7_plan_0 36 rfl) rfl ?_
                    refine g_goto F 89 (dk dtX7_plan_0 37 rfl) (by decide) ?_
                    refine g_iret (F := F) hQ (dk dtX7_plan_0 50 rfl) ?_
                    refine ⟨Or.inl ⟨i, r, by omega, by omega, c55, hI26.2, hI34.2, rfl⟩, rfl, fun i h6 _ => by rw [setR_ne _ _ h6, setR_ne _ _ h6]⟩
          refine g_sub [1, 2, 3, 4, 0] (L1 := [(0, .ref (B + 0)), (1, .int (nI p)), (2, .int (-1)), (3, .int (nI i)), (4, .int (nI 0))]) rfl ?_
          have hpw := pw_le hK4 hX4 (show i ≤ 3 by omega)
          exact lp34 ((K * X) ^ i + 1) 0 rw ⟨by omega, fun r1 h => absurd h (Nat.not_lt_zero _)⟩ (by omega)
    refine g_sub [1, 2, 3, 0] (L1 := [(0, .ref (B + 0)), (1, .int (nI p)), (2, .int (-1)), (3, .int (nI 0))]) rfl ?_
    exact g_mem (setR_same M 6).symm (lp26 5 0 (M 6) ⟨by omega, fun n1 h => absurd h (Nat.not_lt_zero _)⟩ (by omega))
  · -- not taken at 19
    exact absurd (by decide) c19
set_option maxRecDepth 100000 in
set_option maxHeartbeats 4000000 in
theorem k_X7_plan (l : Launch) (D : DX) (B : Nat) (T : Int64) (M : Mem) (h0 : M 0 0 = nI 0) (K X : Nat) (hK : M 2 0 = nI K) (hX : M 2 1 = nI X) (hK1 : 1 ≤ K) (hK4 : K ≤ 4) (hX1 : 1 ≤ X) (hX4 : X ≤ 4) (P : Nat) (hP : M 2 2 = nI P) (hP5 : P ≤ 5) (hW : WR (M 5)) (p : Nat) (hp : p < P) (k : Nat) (hk : k < 3) : Ci l D B 14 (celM D B) yX7_plan cX7_plan 5 (some .int) 4 [.ref (B + 0), .int (nI p), .int (nI k)] T M (fun rz T1 M1 => plQ (K * X) (fun r n => moR (mbR (M 3) (M 2 0) K X P (M 5) r n n)) (nI p) (fun n r => if k < n then nI (saE X (evi (K * X) r n k)) else -9) rz ∧ T1 = T ∧ Sm M M1) := by
  refine g_entryi (L := [(0, .ref (B + 0)), (1, .int (nI p)), (2, .int (nI k))]) (by decide) (Nat.le_of_ble_eq_true rfl) rfl ?_
  intro zp ze zs zm zb zt zc Q F hQ
  refine g_aload_n F 0 (dk dtX7_plan_0 0 rfl) rfl ?_
  refine g_iconst F (nI 0) (dk dtX7_plan_0 1 rfl) (by decide) ?_
  refine g_put F fa_X7_56 (dk dtX7_plan_0 2 rfl) (by decide) (cm0 D B _ _) (Nat.le_of_ble_eq_true rfl) rfl rfl (cm0 D B _ _) ?_
  refine g_mem (up2_same h0) ?_
  refine g_aload_n F 0 (dk dtX7_plan_0 3 rfl) rfl ?_
  refine g_iload_n F 1 (dk dtX7_plan_0 4 rfl) rfl ?_
  refine g_callVi F (As := [.int (nI p)]) (st := []) cv_X7_129 (dk dtX7_plan_0 5 rfl) (by decide) (cm0 D B _ _) rfl rfl (Nat.le_of_ble_eq_true rfl) ⟨by decide, by decide⟩ (k_X7_isOne l D B _ _ _ P hP (by omega)) (fun r7 T7 M7 hp7 => ?_)
  obtain ⟨e1, e2, e3⟩ := hp7
  replace e1 := e1.symm; replace e2 := e2.symm; replace e3 := e3.symm; subst e1; subst e2; subst e3
  refine g_if_eqB F 22 (dk dtX7_plan_0 6 rfl) (by decide) (fun c => absurd (inR_nI (by omega)) c) (fun _ => ?_)
  refine g_iload_n F 2 (dk dtX7_plan_0 7 rfl) rfl ?_
  refine g_iconst F (-1) (dk dtX7_plan_0 8 rfl) (by decide) ?_
  refine g_iconst F (nI 2) (dk dtX7_plan_0 9 rfl) (by decide) ?_
  refine g_callSi F (As := [.int (nI k), .int (-1), .int (nI 2)]) (st := []) cs_X7_60 (dk dtX7_plan_0 10 rfl) rfl rfl (Nat.le_of_ble_eq_true rfl) ⟨by decide, by decide⟩ (k_X7_in l D B _ _ _ _ _) (fun r16 T16 M16 hp16 => ?_)
  obtain ⟨e1, e2, e3⟩ := hp16
  replace e1 := e1.symm; replace e2 := e2.symm; replace e3 := e3.symm; subst e1; subst e2; subst e3
  refine g_if_neB F 24 (dk dtX7_plan_0 11 rfl) (by decide) (fun c19 => ?_) (fun c19 => ?_)
  · -- taken at 19
    refine g_iconst F (nI 0) (dk dtX7_plan_0 14 rfl) (by decide) ?_
    refine g_istore_n F [(3, .int (nI 0)), (0, .ref (B + 0)), (1, .int (nI p)), (2, .int (nI k))] (dk dtX7_plan_0 15 rfl) (by decide) rfl ?_
    have lp26 : ∀ (fz : Nat) (i : Nat) (rw : Nat → Int32), (i ≤ 4 ∧ ∀ n1, n1 < i → ∀ r1, r1 < (K * X) ^ n1 → ¬ moR (mbR (M 3) (M 2 0) K X P (M 5) r1 n1 n1) = nI p) → (4 - i) < fz → G zp l ze { frames := 4, cells := 0, slots := 0, locals := 40 * 4 } zs zm [.ref (B + 0), .int (nI p), .int (nI k)].toArray zb zt zc 5 D B 14 (celM D B) Q T (setR M 6 rw) 26 [(0, .ref (B + 0)), (1, .int (nI p)), (2, .int (nI k)), (3, .int (nI i))] [] := by
      intro n26
      induction n26 with
      | zero => intro i rw hI hn; exact absurd hn (Nat.not_lt_zero _)
      | succ n26 ih26 =>
        intro i rw hI26 hn26
        refine g_iload_n F 3 (dk dtX7_plan_0 16 rfl) rfl ?_
        refine g_iconst F (nI 3) (dk dtX7_plan_0 17 rfl) (by decide) ?_
        refine g_icmp_gtN F 102 (dk dtX7_plan_0 18 rfl) (by decide) (by omega) (by omega) (fun c28 => ?_) (fun c28 => ?_)
        · -- taken at 28
          obtain rfl : 4 = i := by omega
          refine g_bipush F (-9) (dk dtX7_plan_0 55 rfl) (by decide) ?_
          refine g_iret (F := F) hQ (dk dtX7_plan_0 56 rfl) ?_
          refine ⟨Or.inr ⟨fun n hn r1 hr1 => hI26.2 n (by omega) r1 hr1, rfl⟩, rfl, fun i h6 _ => by rw [setR_ne _ _ h6]⟩
        · -- not taken at 28
          refine g_iconst F (nI 0) (dk dtX7_plan_0 19 rfl) (by decide) ?_
          refine g_istore F [(4, .int (nI 0)), (0, .ref (B + 0)), (1, .int (nI p)), (2, .int (nI k)), (3, .int (nI i))] (dk dtX7_plan_0 20 rfl) (by decide) rfl ?_
          have lp34 : ∀ (fz : Nat) (r : Nat) (rw1 : Nat → Int32), (r ≤ (K * X) ^ i ∧ ∀ r1, r1 < r → ¬ moR (mbR (M 3) (M 2 0) K X P (M 5) r1 i i) = nI p) → ((K * X) ^ i - r) < fz → G zp l ze { frames := 4, cells := 0, slots := 0, locals := 40 * 4 } zs zm [.ref (B + 0), .int (nI p), .int (nI k)].toArray zb zt zc 5 D B 14 (celM D B) Q T (setR M 6 rw1) 34 [(0, .ref (B + 0)), (1, .int (nI p)), (2, .int (nI k)), (3, .int (nI i)), (4, .int (nI r))] [] := by
            intro n34
            induction n34 with
            | zero => intro r rw1 hI hn; exact absurd hn (Nat.not_lt_zero _)
            | succ n34 ih34 =>
              intro r rw1 hI34 hn34
              have hpw := pw_le hK4 hX4 (show i ≤ 3 by omega)
              refine g_iload F 4 (dk dtX7_plan_0 21 rfl) rfl ?_
              refine g_aload_n F 0 (dk dtX7_plan_0 22 rfl) rfl ?_
              refine g_callVi F (As := []) (st := [.int (nI r)]) cv_X7_160 (dk dtX7_plan_0 23 rfl) (by decide) (cm0 D B _ _) rfl rfl (Nat.le_of_ble_eq_true rfl) ⟨by decide, by decide⟩ (k_X7_events l D B _ _ K X ((congrFun (setR_ne _ _ (by decide)) _).trans hK) ((congrFun (setR_ne _ _ (by decide)) _).trans hX)) (fun r37 T37 M37 hp37 => ?_)
              obtain ⟨e1, e2, e3⟩ := hp37
              replace e1 := e1.symm; replace e2 := e2.symm; replace e3 := e3.symm; subst e1; subst e2; subst e3
              refine g_iload_n F 3 (dk dtX7_plan_0 24 rfl) rfl ?_
              refine g_callSi F (As := [.int (nI (K * X)), .int (nI i)]) (st := [.int (nI r)]) cs_X7_163 (dk dtX7_plan_0 25 rfl) rfl rfl (Nat.le_of_ble_eq_true rfl) ⟨by decide, by decide⟩ (k_X7_power l D B _ _ (K * X) i (by omega)) (fun r41 T41 M41 hp41 => ?_)
              obtain ⟨e1, e2, e3⟩ := hp41
              replace e1 := e1.symm; replace e2 := e2.symm; replace e3 := e3.symm; subst e1; subst e2; subst e3
              refine g_icmp_geN F 96 (dk dtX7_plan_0 26 rfl) (by decide) (by omega) (by omega) (fun c44 => ?_) (fun c44 => ?_)
              · -- taken at 44
                refine g_iinc F 3 (nI (i + 1)) [(3, .int (nI (i + 1))), (0, .ref (B + 0)), (1, .int (nI p)), (2, .int (nI k)), (4, .int (nI r))] (dk dtX7_plan_0 53 rfl) rfl (nI_1 _) (by decide) rfl ?_
                refine g_goto F 26 (dk dtX7_plan_0 54 rfl) (by decide) ?_
                refine g_sub [1, 2, 3, 0] (L1 := [(0, .ref (B + 0)), (1, .int (nI p)), (2, .int (nI k)), (3, .int (nI (i + 1)))]) rfl ?_
                exact ih26 (i + 1) rw1 ⟨by omega, fun n1 h1 r1 h2 => by
                  rcases Nat.lt_or_ge n1 i with h3 | h3
                  · exact hI26.2 n1 h3 r1 h2
                  · obtain rfl : i = n1 := by omega
                    exact hI34.2 r1 (by omega)⟩ (by omega)
              · -- not taken at 44
                refine g_aload_n F 0 (dk dtX7_plan_0 27 rfl) rfl ?_
                refine g_iload F 4 (dk dtX7_plan_0 28 rfl) rfl ?_
                refine g_iload_n F 3 (dk dtX7_plan_0 29 rfl) rfl ?_
                refine g_callVi F (As := [.int (nI r), .int (nI i)]) (st := []) cv_X7_170 (dk dtX7_plan_0 30 rfl) (by decide) (cm0 D B _ _) rfl rfl (Nat.le_of_ble_eq_true rfl) ⟨by decide, by decide⟩ (k_X7_mayorByR l D B _ _ K X (M 3) (M 2 0) (M 5) (setR_ne _ _ (by decide)) (congrFun (setR_ne _ _ (by decide)) 0) (setR_ne _ _ (by decide)) hK ((congrFun (setR_ne _ _ (by decide)) _).trans hX) hK1 hK4 hX1 hX4 P ((congrFun (setR_ne _ _ (by decide)) _).trans hP) hP5 hW r i (by omega) (by omega)) (fun r51 T51 M51 hp51 => ?_)
                obtain ⟨e1, e2, e3⟩ := hp51
                replace e1 := e1.symm; replace e2 := e2.symm; replace e3 := e3.symm; subst e1; subst e2; subst e3
                refine g_iload_n F 1 (dk dtX7_plan_0 31 rfl) rfl ?_
                refine g_icmp_ne F 90 (dk dtX7_plan_0 32 rfl) (by decide) (fun c55 => ?_) (fun c55 => ?_)
                · -- taken at 55
                  refine g_iinc F 4 (nI (r + 1)) [(4, .int (nI (r + 1))), (0, .ref (B + 0)), (1, .int (nI p)), (2, .int (nI k)), (3, .int (nI i))] (dk dtX7_plan_0 51 rfl) rfl (nI_1 _) (by decide) rfl ?_
                  refine g_goto F 34 (dk dtX7_plan_0 52 rfl) (by decide) ?_
                  refine g_sub [1, 2, 3, 4, 0] (L1 := [(0, .ref (B + 0)), (1, .int (nI p)), (2, .int (nI k)), (3, .int (nI i)), (4, .int (nI (r + 1)))]) rfl ?_
                  refine g_mem (setR_setR _ _ _ _) ?_
                  exact ih34 (r + 1) _ ⟨by omega, fun r1 h1 => by
                    rcases Nat.lt_or_ge r1 r with h3 | h3
                    · exact hI34.2 r1 h3
                    · obtain rfl : r = r1 := by omega
                      exact c55⟩ (by omega)
                · -- not taken at 55
                  refine g_iload_n F 2 (dk dtX7_plan_0 33 rfl) rfl ?_
                  refine g_iconst F (-1) (dk dtX7_plan_0 34 rfl) (by decide) ?_
                  refine g_icmp_ne F 67 (dk dtX7_plan_0 35 rfl) (by decide) (fun c60 => ?_) (fun c60 => ?_)
                  · -- taken at 60
                    refine g_iload_n F 2 (dk dtX7_plan_0 38 rfl) rfl ?_
                    refine g_iload_n F 3 (dk dtX7_plan_0 39 rfl) rfl ?_
                    refine g_icmp_geN F 87 (dk dtX7_plan_0 40 rfl) (by decide) (by omega) (by omega) (fun c69 => ?_) (fun c69 => ?_)
                    · -- taken at 69
                      refine g_bipush F (-9) (dk dtX7_plan_0 49 rfl) (by decide) ?_
                      refine g_iret (F := F) hQ (dk dtX7_plan_0 50 rfl) ?_
                      refine ⟨Or.inl ⟨i, r, by omega, by omega, c55, hI26.2, hI34.2, (if_neg (by omega)).symm⟩, rfl, fun i h6 _ => by rw [setR_ne _ _ h6, setR_ne _ _ h6]⟩
                    · -- not taken at 69
                      refine g_aload_n F 0 (dk dtX7_plan_0 41 rfl) rfl ?_
                      refine g_aload_n F 0 (dk dtX7_plan_0 42 rfl) rfl ?_
                      refine g_iload F 4 (dk dtX7_plan_0 43 rfl) rfl ?_
                      refine g_iload_n F 3 (dk dtX7_plan_0 44 rfl) rfl ?_
                      refine g_iload_n F 2 (dk dtX7_plan_0 45 rfl) rfl ?_
                      refine g_callVi F (As := [.int (nI r), .int (nI i), .int (nI k)]) (st := [.ref (B + 0)]) cv_X7_166 (dk dtX7_plan_0 46 rfl) (by decide) (cm0 D B _ _) rfl rfl (Nat.le_of_ble_eq_true rfl) ⟨by decide, by decide⟩ (k_X7_eventAt l D B _ _ K X ((congrFun (setR_ne _ _ (by decide)) _).trans ((congrFun (setR_ne _ _ (by decide)) _).trans hK)) ((congrFun (setR_ne _ _ (by decide)) _).trans ((congrFun (setR_ne _ _ (by decide)) _).trans hX)) hK1 hK4 hX1 hX4 r i k (by omega) (by omega) (by omega)) (fun r78 T78 M78 hp78 => ?_)
                      obtain ⟨e1, e2, e3⟩ := hp78
                      replace e1 := e1.symm; replace e2 := e2.symm; replace e3 := e3.symm; subst e1; subst e2; subst e3
                      have hel := evi_lt hK1 hX1 r i k (X := X) (K := K)
                      have hkx := kx_lt hK4 hX4
                      refine g_callVi F (As := [.int (nI (evi (K * X) r i k))]) (st := []) cv_X7_173 (dk dtX7_plan_0 47 rfl) (by decide) (cm0 D B _ _) rfl rfl (Nat.le_of_ble_eq_true rfl) ⟨by decide, by decide⟩ (k_X7_saysOf l D B _ _ X ((congrFun (setR_ne _ _ (by decide)) _).trans ((congrFun (setR_ne _ _ (by decide)) _).trans hX)) hX1 hX4 (evi (K * X) r i k) (by omega)) (fun r81 T81 M81 hp81 => ?_)
                      obtain ⟨e1, e2, e3⟩ := hp81
                      replace e1 := e1.symm; replace e2 := e2.symm; replace e3 := e3.symm; subst e1; subst e2; subst e3
                      refine g_goto F 89 (dk dtX7_plan_0 48 rfl) (by decide) ?_
                      refine g_iret (F := F) hQ (dk dtX7_plan_0 50 rfl) ?_
                      refine ⟨Or.inl ⟨i, r, by omega, by omega, c55, hI26.2, hI34.2, (if_pos (by omega)).symm⟩, rfl, fun i h6 _ => by rw [setR_ne _ _ h6, setR_ne _ _ h6]⟩
                  · -- not taken at 60
                    exact absurd c60 (nI_m1 hk)
          refine g_sub [1, 2, 3, 4, 0] (L1 := [(0, .ref (B + 0)), (1, .int (nI p)), (2, .int (nI k)), (3, .int (nI i)), (4, .int (nI 0))]) rfl ?_
          have hpw := pw_le hK4 hX4 (show i ≤ 3 by omega)
          exact lp34 ((K * X) ^ i + 1) 0 rw ⟨by omega, fun r1 h => absurd h (Nat.not_lt_zero _)⟩ (by omega)
    refine g_sub [1, 2, 3, 0] (L1 := [(0, .ref (B + 0)), (1, .int (nI p)), (2, .int (nI k)), (3, .int (nI 0))]) rfl ?_
    exact g_mem (setR_same M 6).symm (lp26 5 0 (M 6) ⟨by omega, fun n1 h => absurd h (Nat.not_lt_zero _)⟩ (by omega))
  · -- not taken at 19
    exact absurd (in_m1 hk) c19
set_option maxRecDepth 100000 in
set_option maxHeartbeats 4000000 in
theorem k_X7_plan_bad (l : Launch) (D : DX) (B : Nat) (T : Int64) (M : Mem) (h0 : M 0 0 = nI 0) (P : Nat) (hP : M 2 2 = nI P) (hP5 : P ≤ 5) (p k : Int32) (hb : ¬ (inR p P ∧ (¬ k < -1 ∧ ¬ nI 2 < k))) : Ci l D B 14 (celM D B) yX7_plan cX7_plan 5 (some .int) 4 [.ref (B + 0), .int p, .int k] T M (fun rz T1 M1 => rz = (-1) ∧ T1 = T ∧ M1 = M) := by
  refine g_entryi (L := [(0, .ref (B + 0)), (1, .int p), (2, .int k)]) (by decide) (Nat.le_of_ble_eq_true rfl) rfl ?_
  intro zp ze zs zm zb zt zc Q F hQ
  refine g_aload_n F 0 (dk dtX7_plan_0 0 rfl) rfl ?_
  refine g_iconst F (nI 0) (dk dtX7_plan_0 1 rfl) (by decide) ?_
  refine g_put F fa_X7_56 (dk dtX7_plan_0 2 rfl) (by decide) (cm0 D B _ _) (Nat.le_of_ble_eq_true rfl) rfl rfl (cm0 D B _ _) ?_
  refine g_mem (up2_same h0) ?_
  refine g_aload_n F 0 (dk dtX7_plan_0 3 rfl) rfl ?_
  refine g_iload_n F 1 (dk dtX7_plan_0 4 rfl) rfl ?_
  refine g_callVi F (As := [.int p]) (st := []) cv_X7_129 (dk dtX7_plan_0 5 rfl) (by decide) (cm0 D B _ _) rfl rfl (Nat.le_of_ble_eq_true rfl) ⟨by decide, by decide⟩ (k_X7_isOne l D B _ _ _ P hP (by omega)) (fun r7 T7 M7 hp7 => ?_)
  obtain ⟨e1, e2, e3⟩ := hp7
  replace e1 := e1.symm; replace e2 := e2.symm; replace e3 := e3.symm; subst e1; subst e2; subst e3
  refine g_if_eqB F 22 (dk dtX7_plan_0 6 rfl) (by decide) (fun c10 => ?_) (fun c10 => ?_)
  · -- taken at 10
    refine g_iconst F (-1) (dk dtX7_plan_0 12 rfl) (by decide) ?_
    refine g_iret (F := F) hQ (dk dtX7_plan_0 13 rfl) ?_
    exact ⟨rfl, rfl, rfl⟩
  · -- not taken at 10
    refine g_iload_n F 2 (dk dtX7_plan_0 7 rfl) rfl ?_
    refine g_iconst F (-1) (dk dtX7_plan_0 8 rfl) (by decide) ?_
    refine g_iconst F (nI 2) (dk dtX7_plan_0 9 rfl) (by decide) ?_
    refine g_callSi F (As := [.int k, .int (-1), .int (nI 2)]) (st := []) cs_X7_60 (dk dtX7_plan_0 10 rfl) rfl rfl (Nat.le_of_ble_eq_true rfl) ⟨by decide, by decide⟩ (k_X7_in l D B _ _ _ _ _) (fun r16 T16 M16 hp16 => ?_)
    obtain ⟨e1, e2, e3⟩ := hp16
    replace e1 := e1.symm; replace e2 := e2.symm; replace e3 := e3.symm; subst e1; subst e2; subst e3
    refine g_if_neB F 24 (dk dtX7_plan_0 11 rfl) (by decide) (fun c19 => ?_) (fun c19 => ?_)
    · -- taken at 19
      exact absurd ⟨c10, c19⟩ hb
    · -- not taken at 19
      refine g_iconst F (-1) (dk dtX7_plan_0 12 rfl) (by decide) ?_
      refine g_iret (F := F) hQ (dk dtX7_plan_0 13 rfl) ?_
      exact ⟨rfl, rfl, rfl⟩
set_option maxRecDepth 100000 in
set_option maxHeartbeats 4000000 in
theorem k_X7_gcd (l : Launch) (D : DX) (B : Nat) (T : Int64) (M : Mem) (a b : Nat) (ha : a < 2 ^ 31) (hb : b < 2 ^ 31) : Ci l D B 14 (celM D B) yX7_gcd cX7_gcd 5 (some .int) 0 [.int (nI a), .int (nI b)] T M (fun rz T1 M1 => rz = (nI (Nat.gcd a b)) ∧ T1 = T ∧ M1 = M) := by
  refine g_entryi (L := [(0, .int (nI a)), (1, .int (nI b))]) (by decide) (Nat.le_of_ble_eq_true rfl) rfl ?_
  intro zp ze zs zm zb zt zc Q F hQ
  refine g_iload_n F 0 (dk dtX7_gcd_0 0 rfl) rfl ?_
  refine g_istore_n F [(2, .int (nI a)), (0, .int (nI a)), (1, .int (nI b))] (dk dtX7_gcd_0 1 rfl) (by decide) rfl ?_
  refine g_iload_n F 2 (dk dtX7_gcd_0 2 rfl) rfl ?_
  refine g_istore_n F [(3, .int (nI b)), (2, .int (nI a)), (0, .int (nI a)), (1, .int (nI b))] (dk dtX7_gcd_0 3 rfl) (by decide) rfl ?_
  have lp4 : ∀ (fz : Nat) (u v : Nat), (u < 2 ^ 31 ∧ v < 2 ^ 31 ∧ Nat.gcd u v = Nat.gcd a b) → v < fz → G zp l ze { frames := 0, cells := 0, slots := 0, locals := 40 * 0 } zs zm [.int (nI a), .int (nI b)].toArray zb zt zc 5 D B 14 (celM D B) Q T M 4 [(0, .int (nI a)), (1, .int (nI b)), (2, .int (nI u)), (3, .int (nI v))] [] := by
    intro n4
    induction n4 with
    | zero => intro u v hI hn; exact absurd hn (Nat.not_lt_zero _)
    | succ n4 ih4 =>
      intro u v hI4 hn4
      refine g_iload_n F 3 (dk dtX7_gcd_0 4 rfl) rfl ?_
      refine g_if_eqN F 21 (dk dtX7_gcd_0 5 rfl) (by decide) (by omega) (fun c5 => ?_) (fun c5 => ?_)
      · -- taken at 5
        obtain rfl : 0 = v := by omega
        have hg := hI4.2.2
        rw [Nat.gcd_zero_right] at hg
        refine g_iload_n F 2 (dk dtX7_gcd_0 15 rfl) rfl ?_
        refine g_iret (F := F) hQ (dk dtX7_gcd_0 16 rfl) ?_
        exact ⟨congrArg nI hg, rfl, rfl⟩
      · -- not taken at 5
        refine g_iload_n F 2 (dk dtX7_gcd_0 6 rfl) rfl ?_
        refine g_iload_n F 3 (dk dtX7_gcd_0 7 rfl) rfl ?_
        refine g_iremN F (dk dtX7_gcd_0 8 rfl) (by omega) (by omega) (by omega) ?_
        refine g_istore F [(4, .int (nI (u % v))), (0, .int (nI a)), (1, .int (nI b)), (2, .int (nI u)), (3, .int (nI v))] (dk dtX7_gcd_0 9 rfl) (by decide) rfl ?_
        refine g_iload_n F 4 (dk dtX7_gcd_0 10 rfl) rfl ?_
        refine g_istore_n F [(2, .int (nI v)), (4, .int (nI (u % v))), (0, .int (nI a)), (1, .int (nI b)), (3, .int (nI v))] (dk dtX7_gcd_0 11 rfl) (by decide) rfl ?_
        refine g_iload F 1 (dk dtX7_gcd_0 12 rfl) rfl ?_
        refine g_istore_n F [(3, .int (nI (u % v))), (2, .int (nI v)), (4, .int (nI (u % v))), (0, .int (nI a)), (1, .int (nI b))] (dk dtX7_gcd_0 13 rfl) (by decide) rfl ?_
        refine g_goto F 4 (dk dtX7_gcd_0 14 rfl) (by decide) ?_
        refine g_sub [3, 4, 1, 0] (L1 := [(0, .int (nI a)), (1, .int (nI b)), (2, .int (nI v)), (3, .int (nI (u % v)))]) rfl ?_
        have hlt := Nat.mod_lt u (Nat.pos_of_ne_zero c5)
        exact ih4 v (u % v) ⟨by omega, by omega, by rw [← hI4.2.2, Nat.gcd_comm u v, Nat.gcd_rec v u, Nat.gcd_comm]⟩ (by omega)
  refine g_sub [2, 3, 1, 0] (L1 := [(0, .int (nI a)), (1, .int (nI b)), (2, .int (nI a)), (3, .int (nI b))]) rfl ?_
  exact lp4 (b + 1) a b ⟨ha, hb, rfl⟩ (by omega)
set_option maxRecDepth 100000 in
set_option maxHeartbeats 4000000 in
theorem k_X7_odds_0 (l : Launch) (D : DX) (B : Nat) (T : Int64) (M : Mem) (h0 : M 0 0 = nI 0) (P : Nat) (hP : M 2 2 = nI P) (hP5 : P ≤ 5) (K : Nat) (hK : M 2 0 = nI K) (hK1 : 1 ≤ K) (hK4 : K ≤ 4) (X : Nat) (hX : M 2 1 = nI X) (hX1 : 1 ≤ X) (hX4 : X ≤ 4) (hW : WR (M 5)) (p x n : Nat) (hp : p < P) (hx : x < X) (hn : n ≤ 4)  : Ci l D B 14 (celM D B) yX7_odds cX7_odds 10 (some .int) 3 [.ref (B + 0), .int (nI p), .int (nI x), .int (nI n), .int (nI 0)] T M (fun rz T1 M1 => rz = nI (odC (M 3) (M 2 0) K (nI x) P (M 5) n (nI p) (K ^ n) / Nat.gcd (odC (M 3) (M 2 0) K (nI x) P (M 5) n (nI p) (K ^ n)) (K ^ n)) ∧ T1 = T ∧ Sm M M1) := by
  have hkn := kn_le (K := K) (n := n) hK4 hn
  have hkp : 0 < K ^ n := Nat.pow_pos hK1
  refine g_entryi (L := [(0, .ref (B + 0)), (1, .int (nI p)), (2, .int (nI x)), (3, .int (nI n)), (4, .int (nI 0))]) (by decide) (Nat.le_of_ble_eq_true rfl) rfl ?_
  intro zp ze zs zm zb zt zc Q F hQ
  refine g_aload_n F 0 (dk dtX7_odds_0 0 rfl) rfl ?_
  refine g_iconst F (nI 0) (dk dtX7_odds_0 1 rfl) (by decide) ?_
  refine g_put F fa_X7_56 (dk dtX7_odds_0 2 rfl) (by decide) (cm0 D B _ _) (Nat.le_of_ble_eq_true rfl) rfl rfl (cm0 D B _ _) ?_
  refine g_mem (up2_same h0) ?_
  refine g_aload_n F 0 (dk dtX7_odds_0 3 rfl) rfl ?_
  refine g_iload_n F 1 (dk dtX7_odds_0 4 rfl) rfl ?_
  refine g_callVi F (As := [.int (nI p)]) (st := []) cv_X7_129 (dk dtX7_odds_0 5 rfl) (by decide) (cm0 D B _ _) rfl rfl (Nat.le_of_ble_eq_true rfl) ⟨by decide, by decide⟩ (k_X7_isOne l D B _ _ _ P hP (by omega)) (fun r7 T7 M7 hp7 => ?_)
  obtain ⟨e1, e2, e3⟩ := hp7
  replace e1 := e1.symm; replace e2 := e2.symm; replace e3 := e3.symm; subst e1; subst e2; subst e3
  refine g_if_eqB F 40 (dk dtX7_odds_0 6 rfl) (by decide) (fun c => absurd (inR_nI (by omega)) c) (fun _ => ?_)
  refine g_aload_n F 0 (dk dtX7_odds_0 7 rfl) rfl ?_
  refine g_iload_n F 2 (dk dtX7_odds_0 8 rfl) rfl ?_
  refine g_callVi F (As := [.int (nI x)]) (st := []) cv_X7_151 (dk dtX7_odds_0 9 rfl) (by decide) (cm0 D B _ _) rfl rfl (Nat.le_of_ble_eq_true rfl) ⟨by decide, by decide⟩ (k_X7_isPlace l D B _ _ _ X hX (by omega)) (fun r15 T15 M15 hp15 => ?_)
  obtain ⟨e1, e2, e3⟩ := hp15
  replace e1 := e1.symm; replace e2 := e2.symm; replace e3 := e3.symm; subst e1; subst e2; subst e3
  refine g_if_eqB F 40 (dk dtX7_odds_0 10 rfl) (by decide) (fun c => absurd (inR_nI (by omega)) c) (fun _ => ?_)
  refine g_iload_n F 3 (dk dtX7_odds_0 11 rfl) rfl ?_
  refine g_iconst F (nI 0) (dk dtX7_odds_0 12 rfl) (by decide) ?_
  refine g_iconst F (nI 4) (dk dtX7_odds_0 13 rfl) (by decide) ?_
  refine g_callSi F (As := [.int (nI n), .int (nI 0), .int (nI 4)]) (st := []) cs_X7_60 (dk dtX7_odds_0 14 rfl) rfl rfl (Nat.le_of_ble_eq_true rfl) ⟨by decide, by decide⟩ (k_X7_inR l D B _ _ _ 4 (by decide)) (fun r24 T24 M24 hp24 => ?_)
  obtain ⟨e1, e2, e3⟩ := hp24
  replace e1 := e1.symm; replace e2 := e2.symm; replace e3 := e3.symm; subst e1; subst e2; subst e3
  refine g_if_eqB F 40 (dk dtX7_odds_0 15 rfl) (by decide) (fun c => absurd (inR_nI (by omega)) c) (fun _ => ?_)
  refine g_iload F 4 (dk dtX7_odds_0 16 rfl) rfl ?_
  refine g_iconst F (nI 0) (dk dtX7_odds_0 17 rfl) (by decide) ?_
  refine g_iconst F (nI 1) (dk dtX7_odds_0 18 rfl) (by decide) ?_
  refine g_callSi F (As := [.int (nI 0), .int (nI 0), .int (nI 1)]) (st := []) cs_X7_60 (dk dtX7_odds_0 19 rfl) rfl rfl (Nat.le_of_ble_eq_true rfl) ⟨by decide, by decide⟩ (k_X7_inR l D B _ _ _ 1 (by decide)) (fun r34 T34 M34 hp34 => ?_)
  obtain ⟨e1, e2, e3⟩ := hp34
  replace e1 := e1.symm; replace e2 := e2.symm; replace e3 := e3.symm; subst e1; subst e2; subst e3
  refine g_if_neB F 42 (dk dtX7_odds_0 20 rfl) (by decide) (fun _ => ?_) (fun c => absurd (inR_nI (by omega)) c)
  refine g_aload_n F 0 (dk dtX7_odds_0 23 rfl) rfl ?_
  refine g_get F fa_X7_13 (dk dtX7_odds_0 24 rfl) (by decide) (cm0 D B _ _) rfl ?_
  refine g_iconst F (nI 0) (dk dtX7_odds_0 25 rfl) (by decide) ?_
  refine g_iald F (0) (dk dtX7_odds_0 26 rfl) (by decide) (cm2 D B _ _) (by omega) (by decide) ?_
  refine g_top hK ?_
  refine g_iload_n F 3 (dk dtX7_odds_0 27 rfl) rfl ?_
  refine g_callSi F (As := [.int (nI K), .int (nI n)]) (st := []) cs_X7_163 (dk dtX7_odds_0 28 rfl) rfl rfl (Nat.le_of_ble_eq_true rfl) ⟨by decide, by decide⟩ (k_X7_power l D B _ _ K n (by omega)) (fun r49 T49 M49 hp49 => ?_)
  obtain ⟨e1, e2, e3⟩ := hp49
  replace e1 := e1.symm; replace e2 := e2.symm; replace e3 := e3.symm; subst e1; subst e2; subst e3
  refine g_istore F [(5, .int (nI (K ^ n))), (0, .ref (B + 0)), (1, .int (nI p)), (2, .int (nI x)), (3, .int (nI n)), (4, .int (nI 0))] (dk dtX7_odds_0 29 rfl) (by decide) rfl ?_
  refine g_iconst F (nI 0) (dk dtX7_odds_0 30 rfl) (by decide) ?_
  refine g_istore F [(6, .int (nI 0)), (5, .int (nI (K ^ n))), (0, .ref (B + 0)), (1, .int (nI p)), (2, .int (nI x)), (3, .int (nI n)), (4, .int (nI 0))] (dk dtX7_odds_0 31 rfl) (by decide) rfl ?_
  refine g_iconst F (nI 0) (dk dtX7_odds_0 32 rfl) (by decide) ?_
  refine g_istore F [(7, .int (nI 0)), (6, .int (nI 0)), (5, .int (nI (K ^ n))), (0, .ref (B + 0)), (1, .int (nI p)), (2, .int (nI x)), (3, .int (nI n)), (4, .int (nI 0))] (dk dtX7_odds_0 33 rfl) (by decide) rfl ?_
  have lp60 : ∀ (fz : Nat) (r : Nat) (rw : Nat → Int32), (r ≤ K ^ n) → (K ^ n - r) < fz → G zp l ze { frames := 3, cells := 0, slots := 0, locals := 40 * 3 } zs zm [.ref (B + 0), .int (nI p), .int (nI x), .int (nI n), .int (nI 0)].toArray zb zt zc 10 D B 14 (celM D B) Q T (setR M 6 rw) 60 [(0, .ref (B + 0)), (1, .int (nI p)), (2, .int (nI x)), (3, .int (nI n)), (4, .int (nI 0)), (5, .int (nI (K ^ n))), (6, .int (nI (odC (M 3) (M 2 0) K (nI x) P (M 5) n (nI p) r))), (7, .int (nI r))] [] := by
    intro n60
    induction n60 with
    | zero => intro r rw hI hn; exact absurd hn (Nat.not_lt_zero _)
    | succ n60 ih60 =>
      intro r rw hI60 hn60
      refine g_iload F 7 (dk dtX7_odds_0 34 rfl) rfl ?_
      refine g_iload F 5 (dk dtX7_odds_0 35 rfl) rfl ?_
      refine g_icmp_geN F 154 (dk dtX7_odds_0 36 rfl) (by decide) (by omega) (by omega) (fun c64 => ?_) (fun c64 => ?_)
      · -- taken at 64
        obtain rfl : (K ^ n) = r := by omega
        have hoc := odC_le (M 3) (M 2 0) K (nI x) P (M 5) n (nI p) (K ^ n)
        have hgp := Nat.gcd_pos_of_pos_right (odC (M 3) (M 2 0) K (nI x) P (M 5) n (nI p) (K ^ n)) hkp
        have hgl := Nat.le_of_dvd hkp (Nat.gcd_dvd_right (odC (M 3) (M 2 0) K (nI x) P (M 5) n (nI p) (K ^ n)) (K ^ n))
        refine g_iload F 6 (dk dtX7_odds_1 23 rfl) rfl ?_
        refine g_iload F 5 (dk dtX7_odds_1 24 rfl) rfl ?_
        refine g_callSi F (As := [.int (nI (odC (M 3) (M 2 0) K (nI x) P (M 5) n (nI p) (K ^ n))), .int (nI (K ^ n))]) (st := []) cs_X7_176 (dk dtX7_odds_1 25 rfl) rfl rfl (Nat.le_of_ble_eq_true rfl) ⟨by decide, by decide⟩ (k_X7_gcd l D B _ _ (odC (M 3) (M 2 0) K (nI x) P (M 5) n (nI p) (K ^ n)) (K ^ n) (by omega) (by omega)) (fun r158 T158 M158 hp158 => ?_)
        obtain ⟨e1, e2, e3⟩ := hp158
        replace e1 := e1.symm; replace e2 := e2.symm; replace e3 := e3.symm; subst e1; subst e2; subst e3
        refine g_istore F [(7, .int (nI (Nat.gcd (odC (M 3) (M 2 0) K (nI x) P (M 5) n (nI p) (K ^ n)) (K ^ n)))), (0, .ref (B + 0)), (1, .int (nI p)), (2, .int (nI x)), (3, .int (nI n)), (4, .int (nI 0)), (5, .int (nI (K ^ n))), (6, .int (nI (odC (M 3) (M 2 0) K (nI x) P (M 5) n (nI p) (K ^ n))))] (dk dtX7_odds_1 26 rfl) (by decide) rfl ?_
        refine g_iload F 5 (dk dtX7_odds_1 27 rfl) rfl ?_
        refine g_if_neN F 176 (dk dtX7_odds_1 28 rfl) (by decide) (by decide) (fun c => absurd c (by decide)) (fun _ => ?_)
        refine g_iload F 7 (dk dtX7_odds_1 29 rfl) rfl ?_
        refine g_iload F 0 (dk dtX7_odds_1 30 rfl) rfl ?_
        refine g_idivN F (dk dtX7_odds_1 31 rfl) (by omega) (by omega) (by omega) ?_
        refine g_goto F 181 (dk dtX7_odds_1 32 rfl) (by decide) ?_
        refine g_iret (F := F) hQ (dk dtX7_odds_1 36 rfl) ?_
        exact ⟨rfl, rfl, fun i h6 _ => by rw [setR_ne _ _ h6]⟩
      · -- not taken at 64
        refine g_aload_n F 0 (dk dtX7_odds_0 37 rfl) rfl ?_
        refine g_get F fa_X7_22 (dk dtX7_odds_0 38 rfl) (by decide) (cm0 D B _ _) rfl ?_
        refine g_aload_n F 0 (dk dtX7_odds_0 39 rfl) rfl ?_
        refine g_get F fa_X7_25 (dk dtX7_odds_0 40 rfl) (by decide) (cm0 D B _ _) rfl ?_
        refine g_callSv F (As := [.ref (B + 5), .ref (B + 6)]) (st := []) cs_X7_115 (dk dtX7_odds_0 41 rfl) rfl rfl (Nat.le_of_ble_eq_true rfl) ⟨by decide, by decide⟩ (k_X7_copies l D B _ _ 5 6 (isRow5 D B) (isRow6 D B) (by decide)) (fun T75 M75 hp75 => ?_)
        obtain ⟨e2, e3⟩ := hp75
        replace e2 := e2.symm; replace e3 := e3.symm; subst e2; subst e3
        refine g_iload F 7 (dk dtX7_odds_0 42 rfl) rfl ?_
        refine g_istore F [(8, .int (nI r)), (0, .ref (B + 0)), (1, .int (nI p)), (2, .int (nI x)), (3, .int (nI n)), (4, .int (nI 0)), (5, .int (nI (K ^ n))), (6, .int (nI (odC (M 3) (M 2 0) K (nI x) P (M 5) n (nI p) r))), (7, .int (nI r))] (dk dtX7_odds_0 43 rfl) (by decide) rfl ?_
        refine g_iconst F (nI 0) (dk dtX7_odds_0 44 rfl) (by decide) ?_
        refine g_istore F [(9, .int (nI 0)), (8, .int (nI r)), (0, .ref (B + 0)), (1, .int (nI p)), (2, .int (nI x)), (3, .int (nI n)), (4, .int (nI 0)), (5, .int (nI (K ^ n))), (6, .int (nI (odC (M 3) (M 2 0) K (nI x) P (M 5) n (nI p) r))), (7, .int (nI r))] (dk dtX7_odds_0 45 rfl) (by decide) rfl ?_
        have lp85 : ∀ (fz : Nat) (i : Nat), i ≤ n → (n - i) < fz → G zp l ze { frames := 3, cells := 0, slots := 0, locals := 40 * 3 } zs zm [.ref (B + 0), .int (nI p), .int (nI x), .int (nI n), .int (nI 0)].toArray zb zt zc 10 D B 14 (celM D B) Q T (setR M 6 (odR (M 3) (M 2 0) K (nI x) P (M 5) r i)) 85 [(0, .ref (B + 0)), (1, .int (nI p)), (2, .int (nI x)), (3, .int (nI n)), (4, .int (nI 0)), (5, .int (nI (K ^ n))), (6, .int (nI (odC (M 3) (M 2 0) K (nI x) P (M 5) n (nI p) r))), (7, .int (nI r)), (8, .int (nI (r / K ^ i))), (9, .int (nI i))] [] := by
          intro n85
          induction n85 with
          | zero => intro i hI hn; exact absurd hn (Nat.not_lt_zero _)
          | succ n85 ih85 =>
            intro i hI85 hn85
            have hrd : r / K ^ i ≤ r := Nat.div_le_self _ _
            have hrm := Nat.mod_lt (r / K ^ i) (show 0 < K by omega)
            refine g_iload F 9 (dk dtX7_odds_0 46 rfl) rfl ?_
            refine g_iload_n F 3 (dk dtX7_odds_0 47 rfl) rfl ?_
            refine g_icmp_geN F 127 (dk dtX7_odds_0 48 rfl) (by decide) (by omega) (by omega) (fun c88 => ?_) (fun c88 => ?_)
            · -- taken at 88
              obtain rfl : n = i := by omega
              refine g_iload F 6 (dk dtX7_odds_1 10 rfl) rfl ?_
              refine g_aload_n F 0 (dk dtX7_odds_1 11 rfl) rfl ?_
              refine g_get F fa_X7_25 (dk dtX7_odds_1 12 rfl) (by decide) (cm0 D B _ _) rfl ?_
              refine g_callSi F (As := [.ref (B + 6)]) (st := [.int (nI (odC (M 3) (M 2 0) K (nI x) P (M 5) n (nI p) r))]) cs_X7_140 (dk dtX7_odds_1 13 rfl) rfl rfl (Nat.le_of_ble_eq_true rfl) ⟨by decide, by decide⟩ (k_X7_mayorOfR l D B _ _ 6 (isRow6 D B) (odR (M 3) (M 2 0) K (nI x) P (M 5) r n) (setR_self _ _ _)) (fun r133 T133 M133 hp133 => ?_)
              obtain ⟨e1, e2, e3⟩ := hp133
              replace e1 := e1.symm; replace e2 := e2.symm; replace e3 := e3.symm; subst e1; subst e2; subst e3
              refine g_iload_n F 1 (dk dtX7_odds_1 14 rfl) rfl ?_
              refine g_icmp_ne F 144 (dk dtX7_odds_1 15 rfl) (by decide) (fun c137 => ?_) (fun c137 => ?_)
              · -- taken at 137
                refine g_iconst F (nI 0) (dk dtX7_odds_1 18 rfl) (by decide) ?_
                refine g_iaddN F (dk dtX7_odds_1 19 rfl) ?_
                refine g_istore F [(6, .int (nI ((odC (M 3) (M 2 0) K (nI x) P (M 5) n (nI p) r) + 0))), (0, .ref (B + 0)), (1, .int (nI p)), (2, .int (nI x)), (3, .int (nI n)), (4, .int (nI 0)), (5, .int (nI (K ^ n))), (7, .int (nI r)), (8, .int (nI (r / K ^ n))), (9, .int (nI n))] (dk dtX7_odds_1 20 rfl) (by decide) rfl ?_
                refine g_iinc F 7 (nI (r + 1)) [(7, .int (nI (r + 1))), (6, .int (nI ((odC (M 3) (M 2 0) K (nI x) P (M 5) n (nI p) r) + 0))), (0, .ref (B + 0)), (1, .int (nI p)), (2, .int (nI x)), (3, .int (nI n)), (4, .int (nI 0)), (5, .int (nI (K ^ n))), (8, .int (nI (r / K ^ n))), (9, .int (nI n))] (dk dtX7_odds_1 21 rfl) rfl (nI_1 _) (by decide) rfl ?_
                refine g_goto F 60 (dk dtX7_odds_1 22 rfl) (by decide) ?_
                refine g_sub [2, 3, 4, 5, 6, 7, 1, 0] (L1 := [(0, .ref (B + 0)), (1, .int (nI p)), (2, .int (nI x)), (3, .int (nI n)), (4, .int (nI 0)), (5, .int (nI (K ^ n))), (6, .int (nI ((odC (M 3) (M 2 0) K (nI x) P (M 5) n (nI p) r) + 0))), (7, .int (nI (r + 1)))]) rfl ?_
                refine g_st (M1 := setR M 6 (odR (M 3) (M 2 0) K (nI x) P (M 5) r n)) (L1 := [(0, .ref (B + 0)), (1, .int (nI p)), (2, .int (nI x)), (3, .int (nI n)), (4, .int (nI 0)), (5, .int (nI (K ^ n))), (6, .int (nI (odC (M 3) (M 2 0) K (nI x) P (M 5) n (nI p) (r + 1)))), (7, .int (nI (r + 1)))]) rfl (by rw [odC, if_neg c137]) rfl ?_
                exact ih60 (r + 1) _ (by omega) (by omega)
              · -- not taken at 137
                refine g_iconst F (nI 1) (dk dtX7_odds_1 16 rfl) (by decide) ?_
                refine g_goto F 145 (dk dtX7_odds_1 17 rfl) (by decide) ?_
                refine g_iaddN F (dk dtX7_odds_1 19 rfl) ?_
                refine g_istore F [(6, .int (nI ((odC (M 3) (M 2 0) K (nI x) P (M 5) n (nI p) r) + 1))), (0, .ref (B + 0)), (1, .int (nI p)), (2, .int (nI x)), (3, .int (nI n)), (4, .int (nI 0)), (5, .int (nI (K ^ n))), (7, .int (nI r)), (8, .int (nI (r / K ^ n))), (9, .int (nI n))] (dk dtX7_odds_1 20 rfl) (by decide) rfl ?_
                refine g_iinc F 7 (nI (r + 1)) [(7, .int (nI (r + 1))), (6, .int (nI ((odC (M 3) (M 2 0) K (nI x) P (M 5) n (nI p) r) + 1))), (0, .ref (B + 0)), (1, .int (nI p)), (2, .int (nI x)), (3, .int (nI n)), (4, .int (nI 0)), (5, .int (nI (K ^ n))), (8, .int (nI (r / K ^ n))), (9, .int (nI n))] (dk dtX7_odds_1 21 rfl) rfl (nI_1 _) (by decide) rfl ?_
                refine g_goto F 60 (dk dtX7_odds_1 22 rfl) (by decide) ?_
                refine g_sub [2, 3, 4, 5, 6, 7, 1, 0] (L1 := [(0, .ref (B + 0)), (1, .int (nI p)), (2, .int (nI x)), (3, .int (nI n)), (4, .int (nI 0)), (5, .int (nI (K ^ n))), (6, .int (nI ((odC (M 3) (M 2 0) K (nI x) P (M 5) n (nI p) r) + 1))), (7, .int (nI (r + 1)))]) rfl ?_
                refine g_st (M1 := setR M 6 (odR (M 3) (M 2 0) K (nI x) P (M 5) r n)) (L1 := [(0, .ref (B + 0)), (1, .int (nI p)), (2, .int (nI x)), (3, .int (nI n)), (4, .int (nI 0)), (5, .int (nI (K ^ n))), (6, .int (nI (odC (M 3) (M 2 0) K (nI x) P (M 5) n (nI p) (r + 1)))), (7, .int (nI (r + 1)))]) rfl (by rw [odC, if_pos c137]) rfl ?_
                exact ih60 (r + 1) _ (by omega) (by omega)
            · -- not taken at 88
              refine g_aload_n F 0 (dk dtX7_odds_0 49 rfl) rfl ?_
              refine g_aload_n F 0 (dk dtX7_odds_0 50 rfl) rfl ?_
              refine g_get F fa_X7_25 (dk dtX7_odds_0 51 rfl) (by decide) (cm0 D B _ _) rfl ?_
              refine g_iload F 8 (dk dtX7_odds_0 52 rfl) rfl ?_
              refine g_aload_n F 0 (dk dtX7_odds_0 53 rfl) rfl ?_
              refine g_get F fa_X7_13 (dk dtX7_odds_0 54 rfl) (by decide) (cm0 D B _ _) rfl ?_
              refine g_iconst F (nI 0) (dk dtX7_odds_0 55 rfl) (by decide) ?_
              refine g_iald F (0) (dk dtX7_odds_0 56 rfl) (by decide) (cm2 D B _ _) (by omega) (by decide) ?_
              refine g_top (congrFun (setR_ne _ _ (by decide)) _) ?_
              refine g_top hK ?_
              refine g_iremN F (dk dtX7_odds_0 57 rfl) (by omega) (by omega) (by omega) ?_
              refine g_iload_n F 2 (dk dtX7_odds_0 58 rfl) rfl ?_
              refine g_callVi F (As := [.ref (B + 6), .int (nI ((r / K ^ i) % K)), .int (nI x)]) (st := []) cv_X7_157 (dk dtX7_odds_0 59 rfl) (by decide) (cm0 D B _ _) rfl rfl (Nat.le_of_ble_eq_true rfl) ⟨by decide, by decide⟩ (k_X7_eventR l D B _ _ 6 (isRow6 D B) ((r / K ^ i) % K) (by omega) (nI x) (M 3) ((M 2) 0) (odR (M 3) (M 2 0) K (nI x) P (M 5) r i) (setR_ne _ _ (by decide)) (congrFun (setR_ne _ _ (by decide)) 0) (setR_self _ _ _) K P hK ((congrFun (setR_ne _ _ (by decide)) _).trans hP) hK1 hK4 hP5 (odR_WR hW hK1 hK4 _)) (fun r106 T106 M106 hp106 => ?_)
              obtain ⟨e1, e2, e3⟩ := hp106
              replace e1 := e1.symm; replace e2 := e2.symm; replace e3 := e3.symm; subst e1; subst e2; subst e3
              refine g_pop F (dk dtX7_odds_1 0 rfl) rfl ?_
              refine g_iload F 8 (dk dtX7_odds_1 1 rfl) rfl ?_
              refine g_aload_n F 0 (dk dtX7_odds_1 2 rfl) rfl ?_
              refine g_get F fa_X7_13 (dk dtX7_odds_1 3 rfl) (by decide) (cm0 D B _ _) rfl ?_
              refine g_iconst F (nI 0) (dk dtX7_odds_1 4 rfl) (by decide) ?_
              refine g_iald F (0) (dk dtX7_odds_1 5 rfl) (by decide) (cm2 D B _ _) (by omega) (by decide) ?_
              refine g_top (congrFun (setR_ne _ _ (by decide)) _) ?_
              refine g_top (congrFun (setR_ne _ _ (by decide)) _) ?_
              refine g_top hK ?_
              refine g_idivN F (dk dtX7_odds_1 6 rfl) (by omega) (by omega) (by omega) ?_
              refine g_istore F [(8, .int (nI ((r / K ^ i) / K))), (0, .ref (B + 0)), (1, .int (nI p)), (2, .int (nI x)), (3, .int (nI n)), (4, .int (nI 0)), (5, .int (nI (K ^ n))), (6, .int (nI (odC (M 3) (M 2 0) K (nI x) P (M 5) n (nI p) r))), (7, .int (nI r)), (9, .int (nI i))] (dk dtX7_odds_1 7 rfl) (by decide) rfl ?_
              refine g_iinc F 9 (nI (i + 1)) [(9, .int (nI (i + 1))), (8, .int (nI ((r / K ^ i) / K))), (0, .ref (B + 0)), (1, .int (nI p)), (2, .int (nI x)), (3, .int (nI n)), (4, .int (nI 0)), (5, .int (nI (K ^ n))), (6, .int (nI (odC (M 3) (M 2 0) K (nI x) P (M 5) n (nI p) r))), (7, .int (nI r))] (dk dtX7_odds_1 8 rfl) rfl (nI_1 _) (by decide) rfl ?_
              refine g_goto F 85 (dk dtX7_odds_1 9 rfl) (by decide) ?_
              refine g_sub [2, 3, 4, 5, 6, 7, 8, 9, 1, 0] (L1 := [(0, .ref (B + 0)), (1, .int (nI p)), (2, .int (nI x)), (3, .int (nI n)), (4, .int (nI 0)), (5, .int (nI (K ^ n))), (6, .int (nI (odC (M 3) (M 2 0) K (nI x) P (M 5) n (nI p) r))), (7, .int (nI r)), (8, .int (nI ((r / K ^ i) / K))), (9, .int (nI (i + 1)))]) rfl ?_
              have eq85_8 : (nI ((r / K ^ i) / K) : Int32) = nI (r / K ^ (i + 1)) := by
                rw [Nat.div_div_eq_div_mul, Nat.pow_succ]
              refine g_st (M1 := setR M 6 (odR (M 3) (M 2 0) K (nI x) P (M 5) r (i + 1))) (L1 := [(0, .ref (B + 0)), (1, .int (nI p)), (2, .int (nI x)), (3, .int (nI n)), (4, .int (nI 0)), (5, .int (nI (K ^ n))), (6, .int (nI (odC (M 3) (M 2 0) K (nI x) P (M 5) n (nI p) r))), (7, .int (nI r)), (8, .int (nI (r / K ^ (i + 1)))), (9, .int (nI (i + 1)))]) (by rw [setR_setR]; rfl) (lc rfl (lc rfl (lc rfl (lc rfl (lc rfl (lc rfl (lc rfl (lc rfl (lc (vi eq85_8) (lc rfl rfl)))))))))) rfl ?_
              exact ih85 (i + 1) (by omega) (by omega)
        refine g_sub [2, 3, 4, 5, 6, 7, 8, 9, 1, 0] (L1 := [(0, .ref (B + 0)), (1, .int (nI p)), (2, .int (nI x)), (3, .int (nI n)), (4, .int (nI 0)), (5, .int (nI (K ^ n))), (6, .int (nI (odC (M 3) (M 2 0) K (nI x) P (M 5) n (nI p) r))), (7, .int (nI r)), (8, .int (nI r)), (9, .int (nI 0))]) rfl ?_
        refine g_st (M1 := setR M 6 (odR (M 3) (M 2 0) K (nI x) P (M 5) r 0)) (L1 := [(0, .ref (B + 0)), (1, .int (nI p)), (2, .int (nI x)), (3, .int (nI n)), (4, .int (nI 0)), (5, .int (nI (K ^ n))), (6, .int (nI (odC (M 3) (M 2 0) K (nI x) P (M 5) n (nI p) r))), (7, .int (nI r)), (8, .int (nI (r / K ^ 0))), (9, .int (nI 0))]) (setR_setR _ _ _ _) (by rw [Nat.pow_zero, Nat.div_one]) rfl ?_
        exact lp85 (n + 1) 0 (by omega) (by omega)
  refine g_sub [3, 4, 5, 6, 7, 2, 1, 0] (L1 := [(0, .ref (B + 0)), (1, .int (nI p)), (2, .int (nI x)), (3, .int (nI n)), (4, .int (nI 0)), (5, .int (nI (K ^ n))), (6, .int (nI 0)), (7, .int (nI 0))]) rfl ?_
  exact g_mem (setR_same M 6).symm (lp60 (K ^ n + 1) 0 (M 6) (Nat.zero_le _) (by omega))
set_option maxRecDepth 100000 in
set_option maxHeartbeats 4000000 in
theorem k_X7_odds_1 (l : Launch) (D : DX) (B : Nat) (T : Int64) (M : Mem) (h0 : M 0 0 = nI 0) (P : Nat) (hP : M 2 2 = nI P) (hP5 : P ≤ 5) (K : Nat) (hK : M 2 0 = nI K) (hK1 : 1 ≤ K) (hK4 : K ≤ 4) (X : Nat) (hX : M 2 1 = nI X) (hX1 : 1 ≤ X) (hX4 : X ≤ 4) (hW : WR (M 5)) (p x n : Nat) (hp : p < P) (hx : x < X) (hn : n ≤ 4)  : Ci l D B 14 (celM D B) yX7_odds cX7_odds 10 (some .int) 3 [.ref (B + 0), .int (nI p), .int (nI x), .int (nI n), .int (nI 1)] T M (fun rz T1 M1 => rz = nI (K ^ n / Nat.gcd (odC (M 3) (M 2 0) K (nI x) P (M 5) n (nI p) (K ^ n)) (K ^ n)) ∧ T1 = T ∧ Sm M M1) := by
  have hkn := kn_le (K := K) (n := n) hK4 hn
  have hkp : 0 < K ^ n := Nat.pow_pos hK1
  refine g_entryi (L := [(0, .ref (B + 0)), (1, .int (nI p)), (2, .int (nI x)), (3, .int (nI n)), (4, .int (nI 1))]) (by decide) (Nat.le_of_ble_eq_true rfl) rfl ?_
  intro zp ze zs zm zb zt zc Q F hQ
  refine g_aload_n F 0 (dk dtX7_odds_0 0 rfl) rfl ?_
  refine g_iconst F (nI 0) (dk dtX7_odds_0 1 rfl) (by decide) ?_
  refine g_put F fa_X7_56 (dk dtX7_odds_0 2 rfl) (by decide) (cm0 D B _ _) (Nat.le_of_ble_eq_true rfl) rfl rfl (cm0 D B _ _) ?_
  refine g_mem (up2_same h0) ?_
  refine g_aload_n F 0 (dk dtX7_odds_0 3 rfl) rfl ?_
  refine g_iload_n F 1 (dk dtX7_odds_0 4 rfl) rfl ?_
  refine g_callVi F (As := [.int (nI p)]) (st := []) cv_X7_129 (dk dtX7_odds_0 5 rfl) (by decide) (cm0 D B _ _) rfl rfl (Nat.le_of_ble_eq_true rfl) ⟨by decide, by decide⟩ (k_X7_isOne l D B _ _ _ P hP (by omega)) (fun r7 T7 M7 hp7 => ?_)
  obtain ⟨e1, e2, e3⟩ := hp7
  replace e1 := e1.symm; replace e2 := e2.symm; replace e3 := e3.symm; subst e1; subst e2; subst e3
  refine g_if_eqB F 40 (dk dtX7_odds_0 6 rfl) (by decide) (fun c => absurd (inR_nI (by omega)) c) (fun _ => ?_)
  refine g_aload_n F 0 (dk dtX7_odds_0 7 rfl) rfl ?_
  refine g_iload_n F 2 (dk dtX7_odds_0 8 rfl) rfl ?_
  refine g_callVi F (As := [.int (nI x)]) (st := []) cv_X7_151 (dk dtX7_odds_0 9 rfl) (by decide) (cm0 D B _ _) rfl rfl (Nat.le_of_ble_eq_true rfl) ⟨by decide, by decide⟩ (k_X7_isPlace l D B _ _ _ X hX (by omega)) (fun r15 T15 M15 hp15 => ?_)
  obtain ⟨e1, e2, e3⟩ := hp15
  replace e1 := e1.symm; replace e2 := e2.symm; replace e3 := e3.symm; subst e1; subst e2; subst e3
  refine g_if_eqB F 40 (dk dtX7_odds_0 10 rfl) (by decide) (fun c => absurd (inR_nI (by omega)) c) (fun _ => ?_)
  refine g_iload_n F 3 (dk dtX7_odds_0 11 rfl) rfl ?_
  refine g_iconst F (nI 0) (dk dtX7_odds_0 12 rfl) (by decide) ?_
  refine g_iconst F (nI 4) (dk dtX7_odds_0 13 rfl) (by decide) ?_
  refine g_callSi F (As := [.int (nI n), .int (nI 0), .int (nI 4)]) (st := []) cs_X7_60 (dk dtX7_odds_0 14 rfl) rfl rfl (Nat.le_of_ble_eq_true rfl) ⟨by decide, by decide⟩ (k_X7_inR l D B _ _ _ 4 (by decide)) (fun r24 T24 M24 hp24 => ?_)
  obtain ⟨e1, e2, e3⟩ := hp24
  replace e1 := e1.symm; replace e2 := e2.symm; replace e3 := e3.symm; subst e1; subst e2; subst e3
  refine g_if_eqB F 40 (dk dtX7_odds_0 15 rfl) (by decide) (fun c => absurd (inR_nI (by omega)) c) (fun _ => ?_)
  refine g_iload F 4 (dk dtX7_odds_0 16 rfl) rfl ?_
  refine g_iconst F (nI 0) (dk dtX7_odds_0 17 rfl) (by decide) ?_
  refine g_iconst F (nI 1) (dk dtX7_odds_0 18 rfl) (by decide) ?_
  refine g_callSi F (As := [.int (nI 1), .int (nI 0), .int (nI 1)]) (st := []) cs_X7_60 (dk dtX7_odds_0 19 rfl) rfl rfl (Nat.le_of_ble_eq_true rfl) ⟨by decide, by decide⟩ (k_X7_inR l D B _ _ _ 1 (by decide)) (fun r34 T34 M34 hp34 => ?_)
  obtain ⟨e1, e2, e3⟩ := hp34
  replace e1 := e1.symm; replace e2 := e2.symm; replace e3 := e3.symm; subst e1; subst e2; subst e3
  refine g_if_neB F 42 (dk dtX7_odds_0 20 rfl) (by decide) (fun _ => ?_) (fun c => absurd (inR_nI (by omega)) c)
  refine g_aload_n F 0 (dk dtX7_odds_0 23 rfl) rfl ?_
  refine g_get F fa_X7_13 (dk dtX7_odds_0 24 rfl) (by decide) (cm0 D B _ _) rfl ?_
  refine g_iconst F (nI 0) (dk dtX7_odds_0 25 rfl) (by decide) ?_
  refine g_iald F (0) (dk dtX7_odds_0 26 rfl) (by decide) (cm2 D B _ _) (by omega) (by decide) ?_
  refine g_top hK ?_
  refine g_iload_n F 3 (dk dtX7_odds_0 27 rfl) rfl ?_
  refine g_callSi F (As := [.int (nI K), .int (nI n)]) (st := []) cs_X7_163 (dk dtX7_odds_0 28 rfl) rfl rfl (Nat.le_of_ble_eq_true rfl) ⟨by decide, by decide⟩ (k_X7_power l D B _ _ K n (by omega)) (fun r49 T49 M49 hp49 => ?_)
  obtain ⟨e1, e2, e3⟩ := hp49
  replace e1 := e1.symm; replace e2 := e2.symm; replace e3 := e3.symm; subst e1; subst e2; subst e3
  refine g_istore F [(5, .int (nI (K ^ n))), (0, .ref (B + 0)), (1, .int (nI p)), (2, .int (nI x)), (3, .int (nI n)), (4, .int (nI 1))] (dk dtX7_odds_0 29 rfl) (by decide) rfl ?_
  refine g_iconst F (nI 0) (dk dtX7_odds_0 30 rfl) (by decide) ?_
  refine g_istore F [(6, .int (nI 0)), (5, .int (nI (K ^ n))), (0, .ref (B + 0)), (1, .int (nI p)), (2, .int (nI x)), (3, .int (nI n)), (4, .int (nI 1))] (dk dtX7_odds_0 31 rfl) (by decide) rfl ?_
  refine g_iconst F (nI 0) (dk dtX7_odds_0 32 rfl) (by decide) ?_
  refine g_istore F [(7, .int (nI 0)), (6, .int (nI 0)), (5, .int (nI (K ^ n))), (0, .ref (B + 0)), (1, .int (nI p)), (2, .int (nI x)), (3, .int (nI n)), (4, .int (nI 1))] (dk dtX7_odds_0 33 rfl) (by decide) rfl ?_
  have lp60 : ∀ (fz : Nat) (r : Nat) (rw : Nat → Int32), (r ≤ K ^ n) → (K ^ n - r) < fz → G zp l ze { frames := 3, cells := 0, slots := 0, locals := 40 * 3 } zs zm [.ref (B + 0), .int (nI p), .int (nI x), .int (nI n), .int (nI 1)].toArray zb zt zc 10 D B 14 (celM D B) Q T (setR M 6 rw) 60 [(0, .ref (B + 0)), (1, .int (nI p)), (2, .int (nI x)), (3, .int (nI n)), (4, .int (nI 1)), (5, .int (nI (K ^ n))), (6, .int (nI (odC (M 3) (M 2 0) K (nI x) P (M 5) n (nI p) r))), (7, .int (nI r))] [] := by
    intro n60
    induction n60 with
    | zero => intro r rw hI hn; exact absurd hn (Nat.not_lt_zero _)
    | succ n60 ih60 =>
      intro r rw hI60 hn60
      refine g_iload F 7 (dk dtX7_odds_0 34 rfl) rfl ?_
      refine g_iload F 5 (dk dtX7_odds_0 35 rfl) rfl ?_
      refine g_icmp_geN F 154 (dk dtX7_odds_0 36 rfl) (by decide) (by omega) (by omega) (fun c64 => ?_) (fun c64 => ?_)
      · -- taken at 64
        obtain rfl : (K ^ n) = r := by omega
        have hoc := odC_le (M 3) (M 2 0) K (nI x) P (M 5) n (nI p) (K ^ n)
        have hgp := Nat.gcd_pos_of_pos_right (odC (M 3) (M 2 0) K (nI x) P (M 5) n (nI p) (K ^ n)) hkp
        have hgl := Nat.le_of_dvd hkp (Nat.gcd_dvd_right (odC (M 3) (M 2 0) K (nI x) P (M 5) n (nI p) (K ^ n)) (K ^ n))
        refine g_iload F 6 (dk dtX7_odds_1 23 rfl) rfl ?_
        refine g_iload F 5 (dk dtX7_odds_1 24 rfl) rfl ?_
        refine g_callSi F (As := [.int (nI (odC (M 3) (M 2 0) K (nI x) P (M 5) n (nI p) (K ^ n))), .int (nI (K ^ n))]) (st := []) cs_X7_176 (dk dtX7_odds_1 25 rfl) rfl rfl (Nat.le_of_ble_eq_true rfl) ⟨by decide, by decide⟩ (k_X7_gcd l D B _ _ (odC (M 3) (M 2 0) K (nI x) P (M 5) n (nI p) (K ^ n)) (K ^ n) (by omega) (by omega)) (fun r158 T158 M158 hp158 => ?_)
        obtain ⟨e1, e2, e3⟩ := hp158
        replace e1 := e1.symm; replace e2 := e2.symm; replace e3 := e3.symm; subst e1; subst e2; subst e3
        refine g_istore F [(7, .int (nI (Nat.gcd (odC (M 3) (M 2 0) K (nI x) P (M 5) n (nI p) (K ^ n)) (K ^ n)))), (0, .ref (B + 0)), (1, .int (nI p)), (2, .int (nI x)), (3, .int (nI n)), (4, .int (nI 1)), (5, .int (nI (K ^ n))), (6, .int (nI (odC (M 3) (M 2 0) K (nI x) P (M 5) n (nI p) (K ^ n))))] (dk dtX7_odds_1 26 rfl) (by decide) rfl ?_
        refine g_iload F 5 (dk dtX7_odds_1 27 rfl) rfl ?_
        refine g_if_neN F 176 (dk dtX7_odds_1 28 rfl) (by decide) (by decide) (fun _ => ?_) (fun c => absurd c (by decide))
        refine g_iload F 6 (dk dtX7_odds_1 33 rfl) rfl ?_
        refine g_iload F 0 (dk dtX7_odds_1 34 rfl) rfl ?_
        refine g_idivN F (dk dtX7_odds_1 35 rfl) (by omega) (by omega) (by omega) ?_
        refine g_iret (F := F) hQ (dk dtX7_odds_1 36 rfl) ?_
        exact ⟨rfl, rfl, fun i h6 _ => by rw [setR_ne _ _ h6]⟩
      · -- not taken at 64
        refine g_aload_n F 0 (dk dtX7_odds_0 37 rfl) rfl ?_
        refine g_get F fa_X7_22 (dk dtX7_odds_0 38 rfl) (by decide) (cm0 D B _ _) rfl ?_
        refine g_aload_n F 0 (dk dtX7_odds_0 39 rfl) rfl ?_
        refine g_get F fa_X7_25 (dk dtX7_odds_0 40 rfl) (by decide) (cm0 D B _ _) rfl ?_
        refine g_callSv F (As := [.ref (B + 5), .ref (B + 6)]) (st := []) cs_X7_115 (dk dtX7_odds_0 41 rfl) rfl rfl (Nat.le_of_ble_eq_true rfl) ⟨by decide, by decide⟩ (k_X7_copies l D B _ _ 5 6 (isRow5 D B) (isRow6 D B) (by decide)) (fun T75 M75 hp75 => ?_)
        obtain ⟨e2, e3⟩ := hp75
        replace e2 := e2.symm; replace e3 := e3.symm; subst e2; subst e3
        refine g_iload F 7 (dk dtX7_odds_0 42 rfl) rfl ?_
        refine g_istore F [(8, .int (nI r)), (0, .ref (B + 0)), (1, .int (nI p)), (2, .int (nI x)), (3, .int (nI n)), (4, .int (nI 1)), (5, .int (nI (K ^ n))), (6, .int (nI (odC (M 3) (M 2 0) K (nI x) P (M 5) n (nI p) r))), (7, .int (nI r))] (dk dtX7_odds_0 43 rfl) (by decide) rfl ?_
        refine g_iconst F (nI 0) (dk dtX7_odds_0 44 rfl) (by decide) ?_
        refine g_istore F [(9, .int (nI 0)), (8, .int (nI r)), (0, .ref (B + 0)), (1, .int (nI p)), (2, .int (nI x)), (3, .int (nI n)), (4, .int (nI 1)), (5, .int (nI (K ^ n))), (6, .int (nI (odC (M 3) (M 2 0) K (nI x) P (M 5) n (nI p) r))), (7, .int (nI r))] (dk dtX7_odds_0 45 rfl) (by decide) rfl ?_
        have lp85 : ∀ (fz : Nat) (i : Nat), i ≤ n → (n - i) < fz → G zp l ze { frames := 3, cells := 0, slots := 0, locals := 40 * 3 } zs zm [.ref (B + 0), .int (nI p), .int (nI x), .int (nI n), .int (nI 1)].toArray zb zt zc 10 D B 14 (celM D B) Q T (setR M 6 (odR (M 3) (M 2 0) K (nI x) P (M 5) r i)) 85 [(0, .ref (B + 0)), (1, .int (nI p)), (2, .int (nI x)), (3, .int (nI n)), (4, .int (nI 1)), (5, .int (nI (K ^ n))), (6, .int (nI (odC (M 3) (M 2 0) K (nI x) P (M 5) n (nI p) r))), (7, .int (nI r)), (8, .int (nI (r / K ^ i))), (9, .int (nI i))] [] := by
          intro n85
          induction n85 with
          | zero => intro i hI hn; exact absurd hn (Nat.not_lt_zero _)
          | succ n85 ih85 =>
            intro i hI85 hn85
            have hrd : r / K ^ i ≤ r := Nat.div_le_self _ _
            have hrm := Nat.mod_lt (r / K ^ i) (show 0 < K by omega)
            refine g_iload F 9 (dk dtX7_odds_0 46 rfl) rfl ?_
            refine g_iload_n F 3 (dk dtX7_odds_0 47 rfl) rfl ?_
            refine g_icmp_geN F 127 (dk dtX7_odds_0 48 rfl) (by decide) (by omega) (by omega) (fun c88 => ?_) (fun c88 => ?_)
            · -- taken at 88
              obtain rfl : n = i := by omega
              refine g_iload F 6 (dk dtX7_odds_1 10 rfl) rfl ?_
              refine g_aload_n F 0 (dk dtX7_odds_1 11 rfl) rfl ?_
              refine g_get F fa_X7_25 (dk dtX7_odds_1 12 rfl) (by decide) (cm0 D B _ _) rfl ?_
              refine g_callSi F (As := [.ref (B + 6)]) (st := [.int (nI (odC (M 3) (M 2 0) K (nI x) P (M 5) n (nI p) r))]) cs_X7_140 (dk dtX7_odds_1 13 rfl) rfl rfl (Nat.le_of_ble_eq_true rfl) ⟨by decide, by decide⟩ (k_X7_mayorOfR l D B _ _ 6 (isRow6 D B) (odR (M 3) (M 2 0) K (nI x) P (M 5) r n) (setR_self _ _ _)) (fun r133 T133 M133 hp133 => ?_)
              obtain ⟨e1, e2, e3⟩ := hp133
              replace e1 := e1.symm; replace e2 := e2.symm; replace e3 := e3.symm; subst e1; subst e2; subst e3
              refine g_iload_n F 1 (dk dtX7_odds_1 14 rfl) rfl ?_
              refine g_icmp_ne F 144 (dk dtX7_odds_1 15 rfl) (by decide) (fun c137 => ?_) (fun c137 => ?_)
              · -- taken at 137
                refine g_iconst F (nI 0) (dk dtX7_odds_1 18 rfl) (by decide) ?_
                refine g_iaddN F (dk dtX7_odds_1 19 rfl) ?_
                refine g_istore F [(6, .int (nI ((odC (M 3) (M 2 0) K (nI x) P (M 5) n (nI p) r) + 0))), (0, .ref (B + 0)), (1, .int (nI p)), (2, .int (nI x)), (3, .int (nI n)), (4, .int (nI 1)), (5, .int (nI (K ^ n))), (7, .int (nI r)), (8, .int (nI (r / K ^ n))), (9, .int (nI n))] (dk dtX7_odds_1 20 rfl) (by decide) rfl ?_
                refine g_iinc F 7 (nI (r + 1)) [(7, .int (nI (r + 1))), (6, .int (nI ((odC (M 3) (M 2 0) K (nI x) P (M 5) n (nI p) r) + 0))), (0, .ref (B + 0)), (1, .int (nI p)), (2, .int (nI x)), (3, .int (nI n)), (4, .int (nI 1)), (5, .int (nI (K ^ n))), (8, .int (nI (r / K ^ n))), (9, .int (nI n))] (dk dtX7_odds_1 21 rfl) rfl (nI_1 _) (by decide) rfl ?_
                refine g_goto F 60 (dk dtX7_odds_1 22 rfl) (by decide) ?_
                refine g_sub [2, 3, 4, 5, 6, 7, 1, 0] (L1 := [(0, .ref (B + 0)), (1, .int (nI p)), (2, .int (nI x)), (3, .int (nI n)), (4, .int (nI 1)), (5, .int (nI (K ^ n))), (6, .int (nI ((odC (M 3) (M 2 0) K (nI x) P (M 5) n (nI p) r) + 0))), (7, .int (nI (r + 1)))]) rfl ?_
                refine g_st (M1 := setR M 6 (odR (M 3) (M 2 0) K (nI x) P (M 5) r n)) (L1 := [(0, .ref (B + 0)), (1, .int (nI p)), (2, .int (nI x)), (3, .int (nI n)), (4, .int (nI 1)), (5, .int (nI (K ^ n))), (6, .int (nI (odC (M 3) (M 2 0) K (nI x) P (M 5) n (nI p) (r + 1)))), (7, .int (nI (r + 1)))]) rfl (by rw [odC, if_neg c137]) rfl ?_
                exact ih60 (r + 1) _ (by omega) (by omega)
              · -- not taken at 137
                refine g_iconst F (nI 1) (dk dtX7_odds_1 16 rfl) (by decide) ?_
                refine g_goto F 145 (dk dtX7_odds_1 17 rfl) (by decide) ?_
                refine g_iaddN F (dk dtX7_odds_1 19 rfl) ?_
                refine g_istore F [(6, .int (nI ((odC (M 3) (M 2 0) K (nI x) P (M 5) n (nI p) r) + 1))), (0, .ref (B + 0)), (1, .int (nI p)), (2, .int (nI x)), (3, .int (nI n)), (4, .int (nI 1)), (5, .int (nI (K ^ n))), (7, .int (nI r)), (8, .int (nI (r / K ^ n))), (9, .int (nI n))] (dk dtX7_odds_1 20 rfl) (by decide) rfl ?_
                refine g_iinc F 7 (nI (r + 1)) [(7, .int (nI (r + 1))), (6, .int (nI ((odC (M 3) (M 2 0) K (nI x) P (M 5) n (nI p) r) + 1))), (0, .ref (B + 0)), (1, .int (nI p)), (2, .int (nI x)), (3, .int (nI n)), (4, .int (nI 1)), (5, .int (nI (K ^ n))), (8, .int (nI (r / K ^ n))), (9, .int (nI n))] (dk dtX7_odds_1 21 rfl) rfl (nI_1 _) (by decide) rfl ?_
                refine g_goto F 60 (dk dtX7_odds_1 22 rfl) (by decide) ?_
                refine g_sub [2, 3, 4, 5, 6, 7, 1, 0] (L1 := [(0, .ref (B + 0)), (1, .int (nI p)), (2, .int (nI x)), (3, .int (nI n)), (4, .int (nI 1)), (5, .int (nI (K ^ n))), (6, .int (nI ((odC (M 3) (M 2 0) K (nI x) P (M 5) n (nI p) r) + 1))), (7, .int (nI (r + 1)))]) rfl ?_
                refine g_st (M1 := setR M 6 (odR (M 3) (M 2 0) K (nI x) P (M 5) r n)) (L1 := [(0, .ref (B + 0)), (1, .int (nI p)), (2, .int (nI x)), (3, .int (nI n)), (4, .int (nI 1)), (5, .int (nI (K ^ n))), (6, .int (nI (odC (M 3) (M 2 0) K (nI x) P (M 5) n (nI p) (r + 1)))), (7, .int (nI (r + 1)))]) rfl (by rw [odC, if_pos c137]) rfl ?_
                exact ih60 (r + 1) _ (by omega) (by omega)
            · -- not taken at 88
              refine g_aload_n F 0 (dk dtX7_odds_0 49 rfl) rfl ?_
              refine g_aload_n F 0 (dk dtX7_odds_0 50 rfl) rfl ?_
              refine g_get F fa_X7_25 (dk dtX7_odds_0 51 rfl) (by decide) (cm0 D B _ _) rfl ?_
              refine g_iload F 8 (dk dtX7_odds_0 52 rfl) rfl ?_
              refine g_aload_n F 0 (dk dtX7_odds_0 53 rfl) rfl ?_
              refine g_get F fa_X7_13 (dk dtX7_odds_0 54 rfl) (by decide) (cm0 D B _ _) rfl ?_
              refine g_iconst F (nI 0) (dk dtX7_odds_0 55 rfl) (by decide) ?_
              refine g_iald F (0) (dk dtX7_odds_0 56 rfl) (by decide) (cm2 D B _ _) (by omega) (by decide) ?_
              refine g_top (congrFun (setR_ne _ _ (by decide)) _) ?_
              refine g_top hK ?_
              refine g_iremN F (dk dtX7_odds_0 57 rfl) (by omega) (by omega) (by omega) ?_
              refine g_iload_n F 2 (dk dtX7_odds_0 58 rfl) rfl ?_
              refine g_callVi F (As := [.ref (B + 6), .int (nI ((r / K ^ i) % K)), .int (nI x)]) (st := []) cv_X7_157 (dk dtX7_odds_0 59 rfl) (by decide) (cm0 D B _ _) rfl rfl (Nat.le_of_ble_eq_true rfl) ⟨by decide, by decide⟩ (k_X7_eventR l D B _ _ 6 (isRow6 D B) ((r / K ^ i) % K) (by omega) (nI x) (M 3) ((M 2) 0) (odR (M 3) (M 2 0) K (nI x) P (M 5) r i) (setR_ne _ _ (by decide)) (congrFun (setR_ne _ _ (by decide)) 0) (setR_self _ _ _) K P hK ((congrFun (setR_ne _ _ (by decide)) _).trans hP) hK1 hK4 hP5 (odR_WR hW hK1 hK4 _)) (fun r106 T106 M106 hp106 => ?_)
              obtain ⟨e1, e2, e3⟩ := hp106
              replace e1 := e1.symm; replace e2 := e2.symm; replace e3 := e3.symm; subst e1; subst e2; subst e3
              refine g_pop F (dk dtX7_odds_1 0 rfl) rfl ?_
              refine g_iload F 8 (dk dtX7_odds_1 1 rfl) rfl ?_
              refine g_aload_n F 0 (dk dtX7_odds_1 2 rfl) rfl ?_
              refine g_get F fa_X7_13 (dk dtX7_odds_1 3 rfl) (by decide) (cm0 D B _ _) rfl ?_
              refine g_iconst F (nI 0) (dk dtX7_odds_1 4 rfl) (by decide) ?_
              refine g_iald F (0) (dk dtX7_odds_1 5 rfl) (by decide) (cm2 D B _ _) (by omega) (by decide) ?_
              refine g_top (congrFun (setR_ne _ _ (by decide)) _) ?_
              refine g_top (congrFun (setR_ne _ _ (by decide)) _) ?_
              refine g_top hK ?_
              refine g_idivN F (dk dtX7_odds_1 6 rfl) (by omega) (by omega) (by omega) ?_
              refine g_istore F [(8, .int (nI ((r / K ^ i) / K))), (0, .ref (B + 0)), (1, .int (nI p)), (2, .int (nI x)), (3, .int (nI n)), (4, .int (nI 1)), (5, .int (nI (K ^ n))), (6, .int (nI (odC (M 3) (M 2 0) K (nI x) P (M 5) n (nI p) r))), (7, .int (nI r)), (9, .int (nI i))] (dk dtX7_odds_1 7 rfl) (by decide) rfl ?_
              refine g_iinc F 9 (nI (i + 1)) [(9, .int (nI (i + 1))), (8, .int (nI ((r / K ^ i) / K))), (0, .ref (B + 0)), (1, .int (nI p)), (2, .int (nI x)), (3, .int (nI n)), (4, .int (nI 1)), (5, .int (nI (K ^ n))), (6, .int (nI (odC (M 3) (M 2 0) K (nI x) P (M 5) n (nI p) r))), (7, .int (nI r))] (dk dtX7_odds_1 8 rfl) rfl (nI_1 _) (by decide) rfl ?_
              refine g_goto F 85 (dk dtX7_odds_1 9 rfl) (by decide) ?_
              refine g_sub [2, 3, 4, 5, 6, 7, 8, 9, 1, 0] (L1 := [(0, .ref (B + 0)), (1, .int (nI p)), (2, .int (nI x)), (3, .int (nI n)), (4, .int (nI 1)), (5, .int (nI (K ^ n))), (6, .int (nI (odC (M 3) (M 2 0) K (nI x) P (M 5) n (nI p) r))), (7, .int (nI r)), (8, .int (nI ((r / K ^ i) / K))), (9, .int (nI (i + 1)))]) rfl ?_
              have eq85_8 : (nI ((r / K ^ i) / K) : Int32) = nI (r / K ^ (i + 1)) := by
                rw [Nat.div_div_eq_div_mul, Nat.pow_succ]
              refine g_st (M1 := setR M 6 (odR (M 3) (M 2 0) K (nI x) P (M 5) r (i + 1))) (L1 := [(0, .ref (B + 0)), (1, .int (nI p)), (2, .int (nI x)), (3, .int (nI n)), (4, .int (nI 1)), (5, .int (nI (K ^ n))), (6, .int (nI (odC (M 3) (M 2 0) K (nI x) P (M 5) n (nI p) r))), (7, .int (nI r)), (8, .int (nI (r / K ^ (i + 1)))), (9, .int (nI (i + 1)))]) (by rw [setR_setR]; rfl) (lc rfl (lc rfl (lc rfl (lc rfl (lc rfl (lc rfl (lc rfl (lc rfl (lc (vi eq85_8) (lc rfl rfl)))))))))) rfl ?_
              exact ih85 (i + 1) (by omega) (by omega)
        refine g_sub [2, 3, 4, 5, 6, 7, 8, 9, 1, 0] (L1 := [(0, .ref (B + 0)), (1, .int (nI p)), (2, .int (nI x)), (3, .int (nI n)), (4, .int (nI 1)), (5, .int (nI (K ^ n))), (6, .int (nI (odC (M 3) (M 2 0) K (nI x) P (M 5) n (nI p) r))), (7, .int (nI r)), (8, .int (nI r)), (9, .int (nI 0))]) rfl ?_
        refine g_st (M1 := setR M 6 (odR (M 3) (M 2 0) K (nI x) P (M 5) r 0)) (L1 := [(0, .ref (B + 0)), (1, .int (nI p)), (2, .int (nI x)), (3, .int (nI n)), (4, .int (nI 1)), (5, .int (nI (K ^ n))), (6, .int (nI (odC (M 3) (M 2 0) K (nI x) P (M 5) n (nI p) r))), (7, .int (nI r)), (8, .int (nI (r / K ^ 0))), (9, .int (nI 0))]) (setR_setR _ _ _ _) (by rw [Nat.pow_zero, Nat.div_one]) rfl ?_
        exact lp85 (n + 1) 0 (by omega) (by omega)
  refine g_sub [3, 4, 5, 6, 7, 2, 1, 0] (L1 := [(0, .ref (B + 0)), (1, .int (nI p)), (2, .int (nI x)), (3, .int (nI n)), (4, .int (nI 1)), (5, .int (nI (K ^ n))), (6, .int (nI 0)), (7, .int (nI 0))]) rfl ?_
  exact g_mem (setR_same M 6).symm (lp60 (K ^ n + 1) 0 (M 6) (Nat.zero_le _) (by omega))
set_option maxRecDepth 100000 in
set_option maxHeartbeats 4000000 in
theorem k_X7_odds_bad (l : Launch) (D : DX) (B : Nat) (T : Int64) (M : Mem) (h0 : M 0 0 = nI 0) (P : Nat) (hP : M 2 2 = nI P) (hP5 : P ≤ 5) (X : Nat) (hX : M 2 1 = nI X) (hX1 : 1 ≤ X) (hX4 : X ≤ 4) (p x n w : Int32) (hb : ¬ (inR p P ∧ inR x X ∧ inR n 5 ∧ inR w 2)) : Ci l D B 14 (celM D B) yX7_odds cX7_odds 10 (some .int) 3 [.ref (B + 0), .int p, .int x, .int n, .int w] T M (fun rz T1 M1 => rz = (-1) ∧ T1 = T ∧ M1 = M) := by
  refine g_entryi (L := [(0, .ref (B + 0)), (1, .int p), (2, .int x), (3, .int n), (4, .int w)]) (by decide) (Nat.le_of_ble_eq_true rfl) rfl ?_
  intro zp ze zs zm zb zt zc Q F hQ
  refine g_aload_n F 0 (dk dtX7_odds_0 0 rfl) rfl ?_
  refine g_iconst F (nI 0) (dk dtX7_odds_0 1 rfl) (by decide) ?_
  refine g_put F fa_X7_56 (dk dtX7_odds_0 2 rfl) (by decide) (cm0 D B _ _) (Nat.le_of_ble_eq_true rfl) rfl rfl (cm0 D B _ _) ?_
  refine g_mem (up2_same h0) ?_
  refine g_aload_n F 0 (dk dtX7_odds_0 3 rfl) rfl ?_
  refine g_iload_n F 1 (dk dtX7_odds_0 4 rfl) rfl ?_
  refine g_callVi F (As := [.int p]) (st := []) cv_X7_129 (dk dtX7_odds_0 5 rfl) (by decide) (cm0 D B _ _) rfl rfl (Nat.le_of_ble_eq_true rfl) ⟨by decide, by decide⟩ (k_X7_isOne l D B _ _ _ P hP (by omega)) (fun r7 T7 M7 hp7 => ?_)
  obtain ⟨e1, e2, e3⟩ := hp7
  replace e1 := e1.symm; replace e2 := e2.symm; replace e3 := e3.symm; subst e1; subst e2; subst e3
  refine g_if_eqB F 40 (dk dtX7_odds_0 6 rfl) (by decide) (fun c10 => ?_) (fun c10 => ?_)
  · -- taken at 10
    refine g_iconst F (-1) (dk dtX7_odds_0 21 rfl) (by decide) ?_
    refine g_iret (F := F) hQ (dk dtX7_odds_0 22 rfl) ?_
    exact ⟨rfl, rfl, rfl⟩
  · -- not taken at 10
    refine g_aload_n F 0 (dk dtX7_odds_0 7 rfl) rfl ?_
    refine g_iload_n F 2 (dk dtX7_odds_0 8 rfl) rfl ?_
    refine g_callVi F (As := [.int x]) (st := []) cv_X7_151 (dk dtX7_odds_0 9 rfl) (by decide) (cm0 D B _ _) rfl rfl (Nat.le_of_ble_eq_true rfl) ⟨by decide, by decide⟩ (k_X7_isPlace l D B _ _ _ X hX (by omega)) (fun r15 T15 M15 hp15 => ?_)
    obtain ⟨e1, e2, e3⟩ := hp15
    replace e1 := e1.symm; replace e2 := e2.symm; replace e3 := e3.symm; subst e1; subst e2; subst e3
    refine g_if_eqB F 40 (dk dtX7_odds_0 10 rfl) (by decide) (fun c18 => ?_) (fun c18 => ?_)
    · -- taken at 18
      refine g_iconst F (-1) (dk dtX7_odds_0 21 rfl) (by decide) ?_
      refine g_iret (F := F) hQ (dk dtX7_odds_0 22 rfl) ?_
      exact ⟨rfl, rfl, rfl⟩
    · -- not taken at 18
      refine g_iload_n F 3 (dk dtX7_odds_0 11 rfl) rfl ?_
      refine g_iconst F (nI 0) (dk dtX7_odds_0 12 rfl) (by decide) ?_
      refine g_iconst F (nI 4) (dk dtX7_odds_0 13 rfl) (by decide) ?_
      refine g_callSi F (As := [.int n, .int (nI 0), .int (nI 4)]) (st := []) cs_X7_60 (dk dtX7_odds_0 14 rfl) rfl rfl (Nat.le_of_ble_eq_true rfl) ⟨by decide, by decide⟩ (k_X7_inR l D B _ _ _ 4 (by decide)) (fun r24 T24 M24 hp24 => ?_)
      obtain ⟨e1, e2, e3⟩ := hp24
      replace e1 := e1.symm; replace e2 := e2.symm; replace e3 := e3.symm; subst e1; subst e2; subst e3
      refine g_if_eqB F 40 (dk dtX7_odds_0 15 rfl) (by decide) (fun c27 => ?_) (fun c27 => ?_)
      · -- taken at 27
        refine g_iconst F (-1) (dk dtX7_odds_0 21 rfl) (by decide) ?_
        refine g_iret (F := F) hQ (dk dtX7_odds_0 22 rfl) ?_
        exact ⟨rfl, rfl, rfl⟩
      · -- not taken at 27
        refine g_iload F 4 (dk dtX7_odds_0 16 rfl) rfl ?_
        refine g_iconst F (nI 0) (dk dtX7_odds_0 17 rfl) (by decide) ?_
        refine g_iconst F (nI 1) (dk dtX7_odds_0 18 rfl) (by decide) ?_
        refine g_callSi F (As := [.int w, .int (nI 0), .int (nI 1)]) (st := []) cs_X7_60 (dk dtX7_odds_0 19 rfl) rfl rfl (Nat.le_of_ble_eq_true rfl) ⟨by decide, by decide⟩ (k_X7_inR l D B _ _ _ 1 (by decide)) (fun r34 T34 M34 hp34 => ?_)
        obtain ⟨e1, e2, e3⟩ := hp34
        replace e1 := e1.symm; replace e2 := e2.symm; replace e3 := e3.symm; subst e1; subst e2; subst e3
        refine g_if_neB F 42 (dk dtX7_odds_0 20 rfl) (by decide) (fun c37 => ?_) (fun c37 => ?_)
        · -- taken at 37
          exact absurd ⟨c10, c18, c27, c37⟩ hb
        · -- not taken at 37
          refine g_iconst F (-1) (dk dtX7_odds_0 21 rfl) (by decide) ?_
          refine g_iret (F := F) hQ (dk dtX7_odds_0 22 rfl) ?_
          exact ⟨rfl, rfl, rfl⟩
end
section
def cbB (Kv : Int32) (row of_ by_ nt : Nat → Int32) (p : Nat) (v : Int32) : Nat → Bool
  | 0 => true
  | n + 1 => cbB Kv row of_ by_ nt p v n && decide (¬ of_ n = nI p ∨ (v ≤ suR Kv row p (by_ n).toNatClampNeg ↔ nt n = nI 1))
theorem cb_y {Kv : Int32} {row of_ by_ nt : Nat → Int32} {p : Nat} {v : Int32} {n : Nat} (h : cbB Kv row of_ by_ nt p v n = true) (h2 : ¬ of_ n = nI p ∨ (v ≤ suR Kv row p (by_ n).toNatClampNeg ↔ nt n = nI 1)) : cbB Kv row of_ by_ nt p v (n + 1) = true := by
  simp only [cbB]
  rw [h, decide_eq_true h2]
  rfl
theorem cb_n1 {Kv : Int32} {row of_ by_ nt : Nat → Int32} {p : Nat} {v : Int32} {n : Nat} (h : ¬ cbB Kv row of_ by_ nt p v n = true) : ¬ cbB Kv row of_ by_ nt p v (n + 1) = true := by
  simp only [cbB]
  intro q
  exact h (Bool.and_eq_true _ _ ▸ q).1
theorem cb_n2 {Kv : Int32} {row of_ by_ nt : Nat → Int32} {p : Nat} {v : Int32} {n : Nat} (h2 : ¬ (¬ of_ n = nI p ∨ (v ≤ suR Kv row p (by_ n).toNatClampNeg ↔ nt n = nI 1))) : ¬ cbB Kv row of_ by_ nt p v (n + 1) = true := by
  simp only [cbB]
  intro q
  exact h2 (of_decide_eq_true (Bool.and_eq_true _ _ ▸ q).2)
def nvF (f : Nat → Bool) : Nat → Nat × Int32 × Int32
  | 0 => (0, -9, -9)
  | n + 1 => if f n = true then ((nvF f n).1 + 1, (if (nvF f n).1 = 0 then nI n else (nvF f n).2.1), nI n) else nvF f n
theorem nvF_le (f : Nat → Bool) (n : Nat) : (nvF f n).1 ≤ n := by
  induction n with
  | zero => exact Nat.le_refl _
  | succ n ih =>
    simp only [nvF]
    split
    · exact Nat.succ_le_succ ih
    · omega
def cnB (f : Nat → Bool) : Nat → Nat
  | 0 => 0
  | n + 1 => cnB f n + (if f n = true then 1 else 0)
theorem cnB_y {f : Nat → Bool} {n : Nat} (h : f n = true) : cnB f (n + 1) = cnB f n + 1 := by
  simp only [cnB]
  rw [if_pos h]
theorem cnB_n {f : Nat → Bool} {n : Nat} (h : ¬ f n = true) : cnB f (n + 1) = cnB f n + 0 := by
  simp only [cnB]
  rw [if_neg h]
theorem cnB_le (f : Nat → Bool) (n : Nat) : cnB f n ≤ n := by
  induction n with
  | zero => exact Nat.le_refl _
  | succ n ih =>
    simp only [cnB]
    split <;> omega
theorem cnB_mono {f g : Nat → Bool} (h : ∀ v, f v = true → g v = true) (n : Nat) : cnB f n ≤ cnB g n := by
  induction n with
  | zero => exact Nat.le_refl _
  | succ n ih =>
    simp only [cnB]
    by_cases hf : f n = true
    · rw [if_pos hf, if_pos (h n hf)]; omega
    · rw [if_neg hf]; omega
theorem and_l {a : Bool} {P : Prop} [Decidable P] (h : (a && decide P) = true) : a = true := (Bool.and_eq_true _ _ ▸ h).1
theorem and_r {a : Bool} {P : Prop} [Decidable P] (h : (a && decide P) = true) : P := of_decide_eq_true (Bool.and_eq_true _ _ ▸ h).2
theorem and_i {a : Bool} {P : Prop} [Decidable P] (h : a = true) (h2 : P) : (a && decide P) = true := by
  rw [h, decide_eq_true h2]
  rfl
def gtr (A Y : Nat) : Nat := if Y ≤ A - Y then A - Y else Y
def tsF (f : Nat → Bool) (y : Nat → Nat → Bool) : Nat → Int32 × Nat
  | 0 => (-9, 101)
  | k + 1 => if gtr (cnB f 100) (cnB (y k) 100) < (tsF f y k).2 then (nI k, gtr (cnB f 100) (cnB (y k) 100)) else tsF f y k
theorem tsF_y (f : Nat → Bool) (y : Nat → Nat → Bool) {k : Nat} (h : gtr (cnB f 100) (cnB (y k) 100) < (tsF f y k).2) : tsF f y (k + 1) = (nI k, gtr (cnB f 100) (cnB (y k) 100)) := if_pos h
theorem tsF_n (f : Nat → Bool) (y : Nat → Nat → Bool) {k : Nat} (h : ¬ gtr (cnB f 100) (cnB (y k) 100) < (tsF f y k).2) : tsF f y (k + 1) = tsF f y k := if_neg h
theorem tsF_le (f : Nat → Bool) (y : Nat → Nat → Bool) (k : Nat) : (tsF f y k).2 ≤ 101 := by
  induction k with
  | zero => exact Nat.le_refl _
  | succ k ih =>
    simp only [tsF]
    split
    · dsimp only; omega
    · exact ih
set_option maxRecDepth 100000 in
set_option maxHeartbeats 4000000 in
theorem k_X7_canBe (l : Launch) (D : DX) (B : Nat) (T : Int64) (M : Mem) (K : Nat) (hK : M 2 0 = nI K) (hK1 : 1 ≤ K) (hK4 : K ≤ 4) (nn : Nat) (hnn : M 0 22 = nI nn) (hnn6 : nn ≤ 6) (hN : ∀ i, i < nn → ∃ k : Nat, k < 4 ∧ M 11 i = nI k) (hW : WR (M 5)) (p v : Nat) (hp : p < 5) (hv : v < 100) : Ci l D B 14 (celM D B) yX7_canBe cX7_canBe 5 (some .boolean) 2 [.ref (B + 0), .int (nI p), .int (nI v)] T M (fun rz T1 M1 => rz = (bI (cbB (M 2 0) (M 5) (M 10) (M 11) (M 12) p (nI v) nn = true)) ∧ T1 = T ∧ M1 = M) := by
  refine g_entryi (L := [(0, .ref (B + 0)), (1, .int (nI p)), (2, .int (nI v))]) (by decide) (Nat.le_of_ble_eq_true rfl) rfl ?_
  intro zp ze zs zm zb zt zc Q F hQ
  refine g_iconst F (nI 1) (dk dtX7_canBe_0 0 rfl) (by decide) ?_
  refine g_istore_n F [(3, .int (nI 1)), (0, .ref (B + 0)), (1, .int (nI p)), (2, .int (nI v))] (dk dtX7_canBe_0 1 rfl) (by decide) rfl ?_
  refine g_iconst F (nI 0) (dk dtX7_canBe_0 2 rfl) (by decide) ?_
  refine g_istore F [(4, .int (nI 0)), (3, .int (nI 1)), (0, .ref (B + 0)), (1, .int (nI p)), (2, .int (nI v))] (dk dtX7_canBe_0 3 rfl) (by decide) rfl ?_
  have lp5 : ∀ (fz : Nat) (i : Nat), i ≤ nn → (nn - i) < fz → G zp l ze { frames := 2, cells := 0, slots := 0, locals := 40 * 2 } zs zm [.ref (B + 0), .int (nI p), .int (nI v)].toArray zb zt zc 5 D B 14 (celM D B) Q T M 5 [(0, .ref (B + 0)), (1, .int (nI p)), (2, .int (nI v)), (3, .int (bI (cbB (M 2 0) (M 5) (M 10) (M 11) (M 12) p (nI v) i = true))), (4, .int (nI i))] [] := by
    intro n5
    induction n5 with
    | zero => intro i hI hn; exact absurd hn (Nat.not_lt_zero _)
    | succ n5 ih5 =>
      intro i hI5 hn5
      refine g_iload F 4 (dk dtX7_canBe_0 4 rfl) rfl ?_
      refine g_aload_n F 0 (dk dtX7_canBe_0 5 rfl) rfl ?_
      refine g_get F fa_X7_119 (dk dtX7_canBe_0 6 rfl) (by decide) (cm0 D B _ _) rfl ?_
      refine g_top hnn ?_
      refine g_icmp_geN F 85 (dk dtX7_canBe_0 7 rfl) (by decide) (by omega) (by omega) (fun c11 => ?_) (fun c11 => ?_)
      · -- taken at 11
        obtain rfl : nn = i := by omega
        refine g_iload_n F 3 (dk dtX7_canBe_0 46 rfl) rfl ?_
        refine g_zret (F := F) hQ (dk dtX7_canBe_0 47 rfl) (bI_nar) ?_
        exact ⟨rfl, rfl, rfl⟩
      · -- not taken at 11
        refine g_iload_n F 3 (dk dtX7_canBe_0 8 rfl) rfl ?_
        refine g_if_eqB F 77 (dk dtX7_canBe_0 9 rfl) (by decide) (fun c15 => ?_) (fun c15 => ?_)
        · -- taken at 15
          refine g_iconst F (nI 0) (dk dtX7_canBe_0 42 rfl) (by decide) ?_
          refine g_istore_n F [(3, .int (nI 0)), (0, .ref (B + 0)), (1, .int (nI p)), (2, .int (nI v)), (4, .int (nI i))] (dk dtX7_canBe_0 43 rfl) (by decide) rfl ?_
          refine g_iinc F 4 (nI (i + 1)) [(4, .int (nI (i + 1))), (3, .int (nI 0)), (0, .ref (B + 0)), (1, .int (nI p)), (2, .int (nI v))] (dk dtX7_canBe_0 44 rfl) rfl (nI_1 _) (by decide) rfl ?_
          refine g_goto F 5 (dk dtX7_canBe_0 45 rfl) (by decide) ?_
          refine g_sub [2, 3, 4, 1, 0] (L1 := [(0, .ref (B + 0)), (1, .int (nI p)), (2, .int (nI v)), (3, .int (nI 0)), (4, .int (nI (i + 1)))]) rfl ?_
          have eq5_3 : (nI 0 : Int32) = bI (cbB (M 2 0) (M 5) (M 10) (M 11) (M 12) p (nI v) (i + 1) = true) := by
            exact (bI_f (cb_n1 c15)).symm
          refine g_st (M1 := M) (L1 := [(0, .ref (B + 0)), (1, .int (nI p)), (2, .int (nI v)), (3, .int (bI (cbB (M 2 0) (M 5) (M 10) (M 11) (M 12) p (nI v) (i + 1) = true))), (4, .int (nI (i + 1)))]) rfl (lc rfl (lc rfl (lc rfl (lc (vi eq5_3) (lc rfl rfl))))) rfl ?_
          exact ih5 (i + 1) (by omega) (by omega)
        · -- not taken at 15
          refine g_aload_n F 0 (dk dtX7_canBe_0 10 rfl) rfl ?_
          refine g_get F fa_X7_38 (dk dtX7_canBe_0 11 rfl) (by decide) (cm0 D B _ _) rfl ?_
          refine g_iload F 4 (dk dtX7_canBe_0 12 rfl) rfl ?_
          refine g_iald F (i) (dk dtX7_canBe_0 13 rfl) (by decide) (cm10 D B _ _) (by omega) (by decide) ?_
          refine g_iload_n F 1 (dk dtX7_canBe_0 14 rfl) rfl ?_
          refine g_icmp_ne F 73 (dk dtX7_canBe_0 15 rfl) (by decide) (fun c26 => ?_) (fun c26 => ?_)
          · -- taken at 26
            refine g_iconst F (nI 1) (dk dtX7_canBe_0 40 rfl) (by decide) ?_
            refine g_goto F 78 (dk dtX7_canBe_0 41 rfl) (by decide) ?_
            refine g_istore_n F [(3, .int (nI 1)), (0, .ref (B + 0)), (1, .int (nI p)), (2, .int (nI v)), (4, .int (nI i))] (dk dtX7_canBe_0 43 rfl) (by decide) rfl ?_
            refine g_iinc F 4 (nI (i + 1)) [(4, .int (nI (i + 1))), (3, .int (nI 1)), (0, .ref (B + 0)), (1, .int (nI p)), (2, .int (nI v))] (dk dtX7_canBe_0 44 rfl) rfl (nI_1 _) (by decide) rfl ?_
            refine g_goto F 5 (dk dtX7_canBe_0 45 rfl) (by decide) ?_
            refine g_sub [2, 3, 4, 1, 0] (L1 := [(0, .ref (B + 0)), (1, .int (nI p)), (2, .int (nI v)), (3, .int (nI 1)), (4, .int (nI (i + 1)))]) rfl ?_
            have eq5_3 : (nI 1 : Int32) = bI (cbB (M 2 0) (M 5) (M 10) (M 11) (M 12) p (nI v) (i + 1) = true) := by
              exact (bI_t (cb_y c15 (Or.inl c26))).symm
            refine g_st (M1 := M) (L1 := [(0, .ref (B + 0)), (1, .int (nI p)), (2, .int (nI v)), (3, .int (bI (cbB (M 2 0) (M 5) (M 10) (M 11) (M 12) p (nI v) (i + 1) = true))), (4, .int (nI (i + 1)))]) rfl (lc rfl (lc rfl (lc rfl (lc (vi eq5_3) (lc rfl rfl))))) rfl ?_
            exact ih5 (i + 1) (by omega) (by omega)
          · -- not taken at 26
            refine g_iload_n F 2 (dk dtX7_canBe_0 16 rfl) rfl ?_
            refine g_aload_n F 0 (dk dtX7_canBe_0 17 rfl) rfl ?_
            refine g_aload_n F 0 (dk dtX7_canBe_0 18 rfl) rfl ?_
            refine g_get F fa_X7_22 (dk dtX7_canBe_0 19 rfl) (by decide) (cm0 D B _ _) rfl ?_
            refine g_iload_n F 1 (dk dtX7_canBe_0 20 rfl) rfl ?_
            refine g_aload_n F 0 (dk dtX7_canBe_0 21 rfl) rfl ?_
            refine g_get F fa_X7_41 (dk dtX7_canBe_0 22 rfl) (by decide) (cm0 D B _ _) rfl ?_
            obtain ⟨kq, hkq4, hkq⟩ := hN i (by omega)
            refine g_iload F 4 (dk dtX7_canBe_0 23 rfl) rfl ?_
            refine g_iald F (i) (dk dtX7_canBe_0 24 rfl) (by decide) (cm11 D B _ _) (by omega) (by decide) ?_
            refine g_top hkq ?_
            refine g_callVi F (As := [.ref (B + 5), .int (nI p), .int (nI kq)]) (st := [.int (nI v)]) cv_X7_135 (dk dtX7_canBe_0 25 rfl) (by decide) (cm0 D B _ _) rfl rfl (Nat.le_of_ble_eq_true rfl) ⟨by decide, by decide⟩ (k_X7_surpriseOf l D B _ _ 5 (isRow5 D B) p kq (by omega) (by omega) (dvR hK hW hK1 hK4 (by omega))) (fun r43 T43 M43 hp43 => ?_)
            obtain ⟨e1, e2, e3⟩ := hp43
            replace e1 := e1.symm; replace e2 := e2.symm; replace e3 := e3.symm; subst e1; subst e2; subst e3
            refine g_icmp_gt F 53 (dk dtX7_canBe_0 26 rfl) (by decide) (fun c46 => ?_) (fun c46 => ?_)
            · -- taken at 46
              refine g_iconst F (nI 0) (dk dtX7_canBe_0 29 rfl) (by decide) ?_
              refine g_aload_n F 0 (dk dtX7_canBe_0 30 rfl) rfl ?_
              refine g_get F fa_X7_44 (dk dtX7_canBe_0 31 rfl) (by decide) (cm0 D B _ _) rfl ?_
              refine g_iload F 4 (dk dtX7_canBe_0 32 rfl) rfl ?_
              refine g_iald F (i) (dk dtX7_canBe_0 33 rfl) (by decide) (cm12 D B _ _) (by omega) (by decide) ?_
              refine g_iconst F (nI 1) (dk dtX7_canBe_0 34 rfl) (by decide) ?_
              refine g_icmp_ne F 69 (dk dtX7_canBe_0 35 rfl) (by decide) (fun c62 => ?_) (fun c62 => ?_)
              · -- taken at 62
                refine g_iconst F (nI 0) (dk dtX7_canBe_0 38 rfl) (by decide) ?_
                refine g_icmp_neN F 77 (dk dtX7_canBe_0 39 rfl) (by decide) (by decide) (by decide) (fun c => absurd c (by decide)) (fun _ => ?_)
                refine g_iconst F (nI 1) (dk dtX7_canBe_0 40 rfl) (by decide) ?_
                refine g_goto F 78 (dk dtX7_canBe_0 41 rfl) (by decide) ?_
                refine g_istore_n F [(3, .int (nI 1)), (0, .ref (B + 0)), (1, .int (nI p)), (2, .int (nI v)), (4, .int (nI i))] (dk dtX7_canBe_0 43 rfl) (by decide) rfl ?_
                refine g_iinc F 4 (nI (i + 1)) [(4, .int (nI (i + 1))), (3, .int (nI 1)), (0, .ref (B + 0)), (1, .int (nI p)), (2, .int (nI v))] (dk dtX7_canBe_0 44 rfl) rfl (nI_1 _) (by decide) rfl ?_
                refine g_goto F 5 (dk dtX7_canBe_0 45 rfl) (by decide) ?_
                refine g_sub [2, 3, 4, 1, 0] (L1 := [(0, .ref (B + 0)), (1, .int (nI p)), (2, .int (nI v)), (3, .int (nI 1)), (4, .int (nI (i + 1)))]) rfl ?_
                have eq5_3 : (nI 1 : Int32) = bI (cbB (M 2 0) (M 5) (M 10) (M 11) (M 12) p (nI v) (i + 1) = true) := by
                  have hsu := Int32.not_le.mpr c46
                  exact (bI_t (cb_y c15 (Or.inr (by rw [hkq, nI_clamp (by omega)]; exact ⟨fun h => absurd h hsu, fun h => absurd h c62⟩)))).symm
                refine g_st (M1 := M) (L1 := [(0, .ref (B + 0)), (1, .int (nI p)), (2, .int (nI v)), (3, .int (bI (cbB (M 2 0) (M 5) (M 10) (M 11) (M 12) p (nI v) (i + 1) = true))), (4, .int (nI (i + 1)))]) rfl (lc rfl (lc rfl (lc rfl (lc (vi eq5_3) (lc rfl rfl))))) rfl ?_
                exact ih5 (i + 1) (by omega) (by omega)
              · -- not taken at 62
                refine g_iconst F (nI 1) (dk dtX7_canBe_0 36 rfl) (by decide) ?_
                refine g_goto F 70 (dk dtX7_canBe_0 37 rfl) (by decide) ?_
                refine g_icmp_neN F 77 (dk dtX7_canBe_0 39 rfl) (by decide) (by decide) (by decide) (fun _ => ?_) (fun c => absurd c (by decide))
                refine g_iconst F (nI 0) (dk dtX7_canBe_0 42 rfl) (by decide) ?_
                refine g_istore_n F [(3, .int (nI 0)), (0, .ref (B + 0)), (1, .int (nI p)), (2, .int (nI v)), (4, .int (nI i))] (dk dtX7_canBe_0 43 rfl) (by decide) rfl ?_
                refine g_iinc F 4 (nI (i + 1)) [(4, .int (nI (i + 1))), (3, .int (nI 0)), (0, .ref (B + 0)), (1, .int (nI p)), (2, .int (nI v))] (dk dtX7_canBe_0 44 rfl) rfl (nI_1 _) (by decide) rfl ?_
                refine g_goto F 5 (dk dtX7_canBe_0 45 rfl) (by decide) ?_
                refine g_sub [2, 3, 4, 1, 0] (L1 := [(0, .ref (B + 0)), (1, .int (nI p)), (2, .int (nI v)), (3, .int (nI 0)), (4, .int (nI (i + 1)))]) rfl ?_
                have eq5_3 : (nI 0 : Int32) = bI (cbB (M 2 0) (M 5) (M 10) (M 11) (M 12) p (nI v) (i + 1) = true) := by
                  have hsu := Int32.not_le.mpr c46
                  exact (bI_f (cb_n2 (fun h => h.elim (fun q => q c26) (by rw [hkq, nI_clamp (by omega)]; exact fun h => absurd (h.mpr c62) hsu)))).symm
                refine g_st (M1 := M) (L1 := [(0, .ref (B + 0)), (1, .int (nI p)), (2, .int (nI v)), (3, .int (bI (cbB (M 2 0) (M 5) (M 10) (M 11) (M 12) p (nI v) (i + 1) = true))), (4, .int (nI (i + 1)))]) rfl (lc rfl (lc rfl (lc rfl (lc (vi eq5_3) (lc rfl rfl))))) rfl ?_
                exact ih5 (i + 1) (by omega) (by omega)
            · -- not taken at 46
              refine g_iconst F (nI 1) (dk dtX7_canBe_0 27 rfl) (by decide) ?_
              refine g_goto F 54 (dk dtX7_canBe_0 28 rfl) (by decide) ?_
              refine g_aload_n F 0 (dk dtX7_canBe_0 30 rfl) rfl ?_
              refine g_get F fa_X7_44 (dk dtX7_canBe_0 31 rfl) (by decide) (cm0 D B _ _) rfl ?_
              refine g_iload F 4 (dk dtX7_canBe_0 32 rfl) rfl ?_
              refine g_iald F (i) (dk dtX7_canBe_0 33 rfl) (by decide) (cm12 D B _ _) (by omega) (by decide) ?_
              refine g_iconst F (nI 1) (dk dtX7_canBe_0 34 rfl) (by decide) ?_
              refine g_icmp_ne F 69 (dk dtX7_canBe_0 35 rfl) (by decide) (fun c62 => ?_) (fun c62 => ?_)
              · -- taken at 62
                refine g_iconst F (nI 0) (dk dtX7_canBe_0 38 rfl) (by decide) ?_
                refine g_icmp_neN F 77 (dk dtX7_canBe_0 39 rfl) (by decide) (by decide) (by decide) (fun _ => ?_) (fun c => absurd c (by decide))
                refine g_iconst F (nI 0) (dk dtX7_canBe_0 42 rfl) (by decide) ?_
                refine g_istore_n F [(3, .int (nI 0)), (0, .ref (B + 0)), (1, .int (nI p)), (2, .int (nI v)), (4, .int (nI i))] (dk dtX7_canBe_0 43 rfl) (by decide) rfl ?_
                refine g_iinc F 4 (nI (i + 1)) [(4, .int (nI (i + 1))), (3, .int (nI 0)), (0, .ref (B + 0)), (1, .int (nI p)), (2, .int (nI v))] (dk dtX7_canBe_0 44 rfl) rfl (nI_1 _) (by decide) rfl ?_
                refine g_goto F 5 (dk dtX7_canBe_0 45 rfl) (by decide) ?_
                refine g_sub [2, 3, 4, 1, 0] (L1 := [(0, .ref (B + 0)), (1, .int (nI p)), (2, .int (nI v)), (3, .int (nI 0)), (4, .int (nI (i + 1)))]) rfl ?_
                have eq5_3 : (nI 0 : Int32) = bI (cbB (M 2 0) (M 5) (M 10) (M 11) (M 12) p (nI v) (i + 1) = true) := by
                  have hsu := Int32.not_lt.mp c46
                  exact (bI_f (cb_n2 (fun h => h.elim (fun q => q c26) (by rw [hkq, nI_clamp (by omega)]; exact fun h => absurd (h.mp hsu) c62)))).symm
                refine g_st (M1 := M) (L1 := [(0, .ref (B + 0)), (1, .int (nI p)), (2, .int (nI v)), (3, .int (bI (cbB (M 2 0) (M 5) (M 10) (M 11) (M 12) p (nI v) (i + 1) = true))), (4, .int (nI (i + 1)))]) rfl (lc rfl (lc rfl (lc rfl (lc (vi eq5_3) (lc rfl rfl))))) rfl ?_
                exact ih5 (i + 1) (by omega) (by omega)
              · -- not taken at 62
                refine g_iconst F (nI 1) (dk dtX7_canBe_0 36 rfl) (by decide) ?_
                refine g_goto F 70 (dk dtX7_canBe_0 37 rfl) (by decide) ?_
                refine g_icmp_neN F 77 (dk dtX7_canBe_0 39 rfl) (by decide) (by decide) (by decide) (fun c => absurd c (by decide)) (fun _ => ?_)
                refine g_iconst F (nI 1) (dk dtX7_canBe_0 40 rfl) (by decide) ?_
                refine g_goto F 78 (dk dtX7_canBe_0 41 rfl) (by decide) ?_
                refine g_istore_n F [(3, .int (nI 1)), (0, .ref (B + 0)), (1, .int (nI p)), (2, .int (nI v)), (4, .int (nI i))] (dk dtX7_canBe_0 43 rfl) (by decide) rfl ?_
                refine g_iinc F 4 (nI (i + 1)) [(4, .int (nI (i + 1))), (3, .int (nI 1)), (0, .ref (B + 0)), (1, .int (nI p)), (2, .int (nI v))] (dk dtX7_canBe_0 44 rfl) rfl (nI_1 _) (by decide) rfl ?_
                refine g_goto F 5 (dk dtX7_canBe_0 45 rfl) (by decide) ?_
                refine g_sub [2, 3, 4, 1, 0] (L1 := [(0, .ref (B + 0)), (1, .int (nI p)), (2, .int (nI v)), (3, .int (nI 1)), (4, .int (nI (i + 1)))]) rfl ?_
                have eq5_3 : (nI 1 : Int32) = bI (cbB (M 2 0) (M 5) (M 10) (M 11) (M 12) p (nI v) (i + 1) = true) := by
                  have hsu := Int32.not_lt.mp c46
                  exact (bI_t (cb_y c15 (Or.inr (by rw [hkq, nI_clamp (by omega)]; exact ⟨fun _ => c62, fun _ => hsu⟩)))).symm
                refine g_st (M1 := M) (L1 := [(0, .ref (B + 0)), (1, .int (nI p)), (2, .int (nI v)), (3, .int (bI (cbB (M 2 0) (M 5) (M 10) (M 11) (M 12) p (nI v) (i + 1) = true))), (4, .int (nI (i + 1)))]) rfl (lc rfl (lc rfl (lc rfl (lc (vi eq5_3) (lc rfl rfl))))) rfl ?_
                exact ih5 (i + 1) (by omega) (by omega)
  refine g_sub [2, 3, 4, 1, 0] (L1 := [(0, .ref (B + 0)), (1, .int (nI p)), (2, .int (nI v)), (3, .int (nI 1)), (4, .int (nI 0))]) rfl ?_
  exact g_st (M1 := M) (L1 := [(0, .ref (B + 0)), (1, .int (nI p)), (2, .int (nI v)), (3, .int (bI (cbB (M 2 0) (M 5) (M 10) (M 11) (M 12) p (nI v) 0 = true))), (4, .int (nI 0))]) rfl (by rw [bI_t (show cbB (M 2 0) (M 5) (M 10) (M 11) (M 12) p (nI v) 0 = true from rfl)]) rfl (lp5 (nn + 1) 0 (by omega) (by omega))
set_option maxRecDepth 100000 in
set_option maxHeartbeats 4000000 in
theorem k_X7_nerves_0 (l : Launch) (D : DX) (B : Nat) (T : Int64) (M : Mem) (h0 : M 0 0 = nI 0) (P : Nat) (hP : M 2 2 = nI P) (hP5 : P ≤ 5) (K : Nat) (hK : M 2 0 = nI K) (hK1 : 1 ≤ K) (hK4 : K ≤ 4) (nn : Nat) (hnn : M 0 22 = nI nn) (hnn6 : nn ≤ 6) (hN : ∀ i, i < nn → ∃ k : Nat, k < 4 ∧ M 11 i = nI k) (hW : WR (M 5)) (p : Nat) (hp : p < P)  : Ci l D B 14 (celM D B) yX7_nerves cX7_nerves 7 (some .int) 3 [.ref (B + 0), .int (nI p), .int (nI 0)] T M (fun rz T1 M1 => rz = (nI (nvF (fun v => cbB (M 2 0) (M 5) (M 10) (M 11) (M 12) p (nI v) nn) 100).1) ∧ T1 = T ∧ M1 = M) := by
  refine g_entryi (L := [(0, .ref (B + 0)), (1, .int (nI p)), (2, .int (nI 0))]) (by decide) (Nat.le_of_ble_eq_true rfl) rfl ?_
  intro zp ze zs zm zb zt zc Q F hQ
  refine g_aload_n F 0 (dk dtX7_nerves_0 0 rfl) rfl ?_
  refine g_iconst F (nI 0) (dk dtX7_nerves_0 1 rfl) (by decide) ?_
  refine g_put F fa_X7_56 (dk dtX7_nerves_0 2 rfl) (by decide) (cm0 D B _ _) (Nat.le_of_ble_eq_true rfl) rfl rfl (cm0 D B _ _) ?_
  refine g_mem (up2_same h0) ?_
  refine g_aload_n F 0 (dk dtX7_nerves_0 3 rfl) rfl ?_
  refine g_iload_n F 1 (dk dtX7_nerves_0 4 rfl) rfl ?_
  refine g_callVi F (As := [.int (nI p)]) (st := []) cv_X7_129 (dk dtX7_nerves_0 5 rfl) (by decide) (cm0 D B _ _) rfl rfl (Nat.le_of_ble_eq_true rfl) ⟨by decide, by decide⟩ (k_X7_isOne l D B _ _ _ P hP (by omega)) (fun r7 T7 M7 hp7 => ?_)
  obtain ⟨e1, e2, e3⟩ := hp7
  replace e1 := e1.symm; replace e2 := e2.symm; replace e3 := e3.symm; subst e1; subst e2; subst e3
  refine g_if_eqB F 22 (dk dtX7_nerves_0 6 rfl) (by decide) (fun c => absurd (inR_nI (by omega)) c) (fun _ => ?_)
  refine g_iload_n F 2 (dk dtX7_nerves_0 7 rfl) rfl ?_
  refine g_iconst F (nI 0) (dk dtX7_nerves_0 8 rfl) (by decide) ?_
  refine g_iconst F (nI 2) (dk dtX7_nerves_0 9 rfl) (by decide) ?_
  refine g_callSi F (As := [.int (nI 0), .int (nI 0), .int (nI 2)]) (st := []) cs_X7_60 (dk dtX7_nerves_0 10 rfl) rfl rfl (Nat.le_of_ble_eq_true rfl) ⟨by decide, by decide⟩ (k_X7_inR l D B _ _ _ 2 (by decide)) (fun r16 T16 M16 hp16 => ?_)
  obtain ⟨e1, e2, e3⟩ := hp16
  replace e1 := e1.symm; replace e2 := e2.symm; replace e3 := e3.symm; subst e1; subst e2; subst e3
  refine g_if_neB F 24 (dk dtX7_nerves_0 11 rfl) (by decide) (fun _ => ?_) (fun c => absurd (inR_nI (by omega)) c)
  refine g_iconst F (nI 0) (dk dtX7_nerves_0 14 rfl) (by decide) ?_
  refine g_istore_n F [(3, .int (nI 0)), (0, .ref (B + 0)), (1, .int (nI p)), (2, .int (nI 0))] (dk dtX7_nerves_0 15 rfl) (by decide) rfl ?_
  refine g_bipush F (-9) (dk dtX7_nerves_0 16 rfl) (by decide) ?_
  refine g_istore F [(4, .int (-9)), (3, .int (nI 0)), (0, .ref (B + 0)), (1, .int (nI p)), (2, .int (nI 0))] (dk dtX7_nerves_0 17 rfl) (by decide) rfl ?_
  refine g_bipush F (-9) (dk dtX7_nerves_0 18 rfl) (by decide) ?_
  refine g_istore F [(5, .int (-9)), (4, .int (-9)), (3, .int (nI 0)), (0, .ref (B + 0)), (1, .int (nI p)), (2, .int (nI 0))] (dk dtX7_nerves_0 19 rfl) (by decide) rfl ?_
  refine g_iconst F (nI 0) (dk dtX7_nerves_0 20 rfl) (by decide) ?_
  refine g_istore F [(6, .int (nI 0)), (5, .int (-9)), (4, .int (-9)), (3, .int (nI 0)), (0, .ref (B + 0)), (1, .int (nI p)), (2, .int (nI 0))] (dk dtX7_nerves_0 21 rfl) (by decide) rfl ?_
  have lp37 : ∀ (fz : Nat) (i : Nat), i ≤ 100 → (100 - i) < fz → G zp l ze { frames := 3, cells := 0, slots := 0, locals := 40 * 3 } zs zm [.ref (B + 0), .int (nI p), .int (nI 0)].toArray zb zt zc 7 D B 14 (celM D B) Q T M 37 [(0, .ref (B + 0)), (1, .int (nI p)), (2, .int (nI 0)), (3, .int (nI ((nvF (fun v => cbB (M 2 0) (M 5) (M 10) (M 11) (M 12) p (nI v) nn) i).1))), (4, .int ((nvF (fun v => cbB (M 2 0) (M 5) (M 10) (M 11) (M 12) p (nI v) nn) i).2.1)), (5, .int ((nvF (fun v => cbB (M 2 0) (M 5) (M 10) (M 11) (M 12) p (nI v) nn) i).2.2)), (6, .int (nI i))] [] := by
    intro n37
    induction n37 with
    | zero => intro i hI hn; exact absurd hn (Nat.not_lt_zero _)
    | succ n37 ih37 =>
      intro i hI37 hn37
      have hle := nvF_le (fun v => cbB (M 2 0) (M 5) (M 10) (M 11) (M 12) p (nI v) nn) i
      refine g_iload F 6 (dk dtX7_nerves_0 22 rfl) rfl ?_
      refine g_bipush F (nI 100) (dk dtX7_nerves_0 23 rfl) (by decide) ?_
      refine g_icmp_geN F 80 (dk dtX7_nerves_0 24 rfl) (by decide) (by omega) (by omega) (fun c41 => ?_) (fun c41 => ?_)
      · -- taken at 41
        obtain rfl : 100 = i := by omega
        refine g_iload_n F 2 (dk dtX7_nerves_0 41 rfl) rfl ?_
        refine g_if_neN F 88 (dk dtX7_nerves_0 42 rfl) (by decide) (by decide) (fun c => absurd c (by decide)) (fun _ => ?_)
        refine g_iload_n F 3 (dk dtX7_nerves_0 43 rfl) rfl ?_
        refine g_goto F 100 (dk dtX7_nerves_0 44 rfl) (by decide) ?_
        refine g_iret (F := F) hQ (dk dtX7_nerves_0 51 rfl) ?_
        exact ⟨rfl, rfl, rfl⟩
      · -- not taken at 41
        refine g_aload_n F 0 (dk dtX7_nerves_0 25 rfl) rfl ?_
        refine g_iload_n F 1 (dk dtX7_nerves_0 26 rfl) rfl ?_
        refine g_iload F 6 (dk dtX7_nerves_0 27 rfl) rfl ?_
        refine g_callVi F (As := [.int (nI p), .int (nI i)]) (st := []) cv_X7_179 (dk dtX7_nerves_0 28 rfl) (by decide) (cm0 D B _ _) rfl rfl (Nat.le_of_ble_eq_true rfl) ⟨by decide, by decide⟩ (k_X7_canBe l D B _ _ K hK hK1 hK4 nn hnn hnn6 hN hW p i (by omega) (by omega)) (fun r48 T48 M48 hp48 => ?_)
        obtain ⟨e1, e2, e3⟩ := hp48
        replace e1 := e1.symm; replace e2 := e2.symm; replace e3 := e3.symm; subst e1; subst e2; subst e3
        refine g_if_eqB F 74 (dk dtX7_nerves_0 29 rfl) (by decide) (fun c51 => ?_) (fun c51 => ?_)
        · -- taken at 51
          refine g_iinc F 6 (nI (i + 1)) [(6, .int (nI (i + 1))), (0, .ref (B + 0)), (1, .int (nI p)), (2, .int (nI 0)), (3, .int (nI ((nvF (fun v => cbB (M 2 0) (M 5) (M 10) (M 11) (M 12) p (nI v) nn) i).1))), (4, .int ((nvF (fun v => cbB (M 2 0) (M 5) (M 10) (M 11) (M 12) p (nI v) nn) i).2.1)), (5, .int ((nvF (fun v => cbB (M 2 0) (M 5) (M 10) (M 11) (M 12) p (nI v) nn) i).2.2))] (dk dtX7_nerves_0 39 rfl) rfl (nI_1 _) (by decide) rfl ?_
          refine g_goto F 37 (dk dtX7_nerves_0 40 rfl) (by decide) ?_
          refine g_sub [1, 2, 3, 4, 5, 6, 0] (L1 := [(0, .ref (B + 0)), (1, .int (nI p)), (2, .int (nI 0)), (3, .int (nI ((nvF (fun v => cbB (M 2 0) (M 5) (M 10) (M 11) (M 12) p (nI v) nn) i).1))), (4, .int ((nvF (fun v => cbB (M 2 0) (M 5) (M 10) (M 11) (M 12) p (nI v) nn) i).2.1)), (5, .int ((nvF (fun v => cbB (M 2 0) (M 5) (M 10) (M 11) (M 12) p (nI v) nn) i).2.2)), (6, .int (nI (i + 1)))]) rfl ?_
          have eq37_3 : (nI ((nvF (fun v => cbB (M 2 0) (M 5) (M 10) (M 11) (M 12) p (nI v) nn) i).1) : Int32) = nI ((nvF (fun v => cbB (M 2 0) (M 5) (M 10) (M 11) (M 12) p (nI v) nn) (i + 1)).1) := by
            simp only [nvF]; rw [if_neg c51]
          have eq37_4 : ((nvF (fun v => cbB (M 2 0) (M 5) (M 10) (M 11) (M 12) p (nI v) nn) i).2.1 : Int32) = (nvF (fun v => cbB (M 2 0) (M 5) (M 10) (M 11) (M 12) p (nI v) nn) (i + 1)).2.1 := by
            simp only [nvF]; rw [if_neg c51]
          have eq37_5 : ((nvF (fun v => cbB (M 2 0) (M 5) (M 10) (M 11) (M 12) p (nI v) nn) i).2.2 : Int32) = (nvF (fun v => cbB (M 2 0) (M 5) (M 10) (M 11) (M 12) p (nI v) nn) (i + 1)).2.2 := by
            simp only [nvF]; rw [if_neg c51]
          refine g_st (M1 := M) (L1 := [(0, .ref (B + 0)), (1, .int (nI p)), (2, .int (nI 0)), (3, .int (nI ((nvF (fun v => cbB (M 2 0) (M 5) (M 10) (M 11) (M 12) p (nI v) nn) (i + 1)).1))), (4, .int ((nvF (fun v => cbB (M 2 0) (M 5) (M 10) (M 11) (M 12) p (nI v) nn) (i + 1)).2.1)), (5, .int ((nvF (fun v => cbB (M 2 0) (M 5) (M 10) (M 11) (M 12) p (nI v) nn) (i + 1)).2.2)), (6, .int (nI (i + 1)))]) rfl (lc rfl (lc rfl (lc rfl (lc (vi eq37_3) (lc (vi eq37_4) (lc (vi eq37_5) (lc rfl rfl))))))) rfl ?_
          exact ih37 (i + 1) (by omega) (by omega)
        · -- not taken at 51
          refine g_iload_n F 3 (dk dtX7_nerves_0 30 rfl) rfl ?_
          refine g_if_neN F 63 (dk dtX7_nerves_0 31 rfl) (by decide) (by omega) (fun c55 => ?_) (fun c55 => ?_)
          · -- taken at 55
            refine g_iload F 4 (dk dtX7_nerves_0 34 rfl) rfl ?_
            refine g_istore F [(4, .int ((nvF (fun v => cbB (M 2 0) (M 5) (M 10) (M 11) (M 12) p (nI v) nn) i).2.1)), (0, .ref (B + 0)), (1, .int (nI p)), (2, .int (nI 0)), (3, .int (nI ((nvF (fun v => cbB (M 2 0) (M 5) (M 10) (M 11) (M 12) p (nI v) nn) i).1))), (5, .int ((nvF (fun v => cbB (M 2 0) (M 5) (M 10) (M 11) (M 12) p (nI v) nn) i).2.2)), (6, .int (nI i))] (dk dtX7_nerves_0 35 rfl) (by decide) rfl ?_
            refine g_iload F 6 (dk dtX7_nerves_0 36 rfl) rfl ?_
            refine g_istore F [(5, .int (nI i)), (4, .int ((nvF (fun v => cbB (M 2 0) (M 5) (M 10) (M 11) (M 12) p (nI v) nn) i).2.1)), (0, .ref (B + 0)), (1, .int (nI p)), (2, .int (nI 0)), (3, .int (nI ((nvF (fun v => cbB (M 2 0) (M 5) (M 10) (M 11) (M 12) p (nI v) nn) i).1))), (6, .int (nI i))] (dk dtX7_nerves_0 37 rfl) (by decide) rfl ?_
            refine g_iinc F 5 (nI ((nvF (fun v => cbB (M 2 0) (M 5) (M 10) (M 11) (M 12) p (nI v) nn) i).1 + 1)) [(3, .int (nI ((nvF (fun v => cbB (M 2 0) (M 5) (M 10) (M 11) (M 12) p (nI v) nn) i).1 + 1))), (5, .int (nI i)), (4, .int ((nvF (fun v => cbB (M 2 0) (M 5) (M 10) (M 11) (M 12) p (nI v) nn) i).2.1)), (0, .ref (B + 0)), (1, .int (nI p)), (2, .int (nI 0)), (6, .int (nI i))] (dk dtX7_nerves_0 38 rfl) rfl (nI_1 _) (by decide) rfl ?_
            refine g_iinc F 6 (nI (i + 1)) [(6, .int (nI (i + 1))), (3, .int (nI ((nvF (fun v => cbB (M 2 0) (M 5) (M 10) (M 11) (M 12) p (nI v) nn) i).1 + 1))), (5, .int (nI i)), (4, .int ((nvF (fun v => cbB (M 2 0) (M 5) (M 10) (M 11) (M 12) p (nI v) nn) i).2.1)), (0, .ref (B + 0)), (1, .int (nI p)), (2, .int (nI 0))] (dk dtX7_nerves_0 39 rfl) rfl (nI_1 _) (by decide) rfl ?_
            refine g_goto F 37 (dk dtX7_nerves_0 40 rfl) (by decide) ?_
            refine g_sub [4, 5, 6, 1, 3, 2, 0] (L1 := [(0, .ref (B + 0)), (1, .int (nI p)), (2, .int (nI 0)), (3, .int (nI ((nvF (fun v => cbB (M 2 0) (M 5) (M 10) (M 11) (M 12) p (nI v) nn) i).1 + 1))), (4, .int ((nvF (fun v => cbB (M 2 0) (M 5) (M 10) (M 11) (M 12) p (nI v) nn) i).2.1)), (5, .int (nI i)), (6, .int (nI (i + 1)))]) rfl ?_
            have eq37_3 : (nI ((nvF (fun v => cbB (M 2 0) (M 5) (M 10) (M 11) (M 12) p (nI v) nn) i).1 + 1) : Int32) = nI ((nvF (fun v => cbB (M 2 0) (M 5) (M 10) (M 11) (M 12) p (nI v) nn) (i + 1)).1) := by
              simp only [nvF]; rw [if_pos c51]
            have eq37_4 : ((nvF (fun v => cbB (M 2 0) (M 5) (M 10) (M 11) (M 12) p (nI v) nn) i).2.1 : Int32) = (nvF (fun v => cbB (M 2 0) (M 5) (M 10) (M 11) (M 12) p (nI v) nn) (i + 1)).2.1 := by
              simp only [nvF]; rw [if_pos c51]; dsimp only; rw [if_neg c55]
            have eq37_5 : (nI i : Int32) = (nvF (fun v => cbB (M 2 0) (M 5) (M 10) (M 11) (M 12) p (nI v) nn) (i + 1)).2.2 := by
              simp only [nvF]; rw [if_pos c51]
            refine g_st (M1 := M) (L1 := [(0, .ref (B + 0)), (1, .int (nI p)), (2, .int (nI 0)), (3, .int (nI ((nvF (fun v => cbB (M 2 0) (M 5) (M 10) (M 11) (M 12) p (nI v) nn) (i + 1)).1))), (4, .int ((nvF (fun v => cbB (M 2 0) (M 5) (M 10) (M 11) (M 12) p (nI v) nn) (i + 1)).2.1)), (5, .int ((nvF (fun v => cbB (M 2 0) (M 5) (M 10) (M 11) (M 12) p (nI v) nn) (i + 1)).2.2)), (6, .int (nI (i + 1)))]) rfl (lc rfl (lc rfl (lc rfl (lc (vi eq37_3) (lc (vi eq37_4) (lc (vi eq37_5) (lc rfl rfl))))))) rfl ?_
            exact ih37 (i + 1) (by omega) (by omega)
          · -- not taken at 55
            refine g_iload F 6 (dk dtX7_nerves_0 32 rfl) rfl ?_
            refine g_goto F 65 (dk dtX7_nerves_0 33 rfl) (by decide) ?_
            refine g_istore F [(4, .int (nI i)), (0, .ref (B + 0)), (1, .int (nI p)), (2, .int (nI 0)), (3, .int (nI ((nvF (fun v => cbB (M 2 0) (M 5) (M 10) (M 11) (M 12) p (nI v) nn) i).1))), (5, .int ((nvF (fun v => cbB (M 2 0) (M 5) (M 10) (M 11) (M 12) p (nI v) nn) i).2.2)), (6, .int (nI i))] (dk dtX7_nerves_0 35 rfl) (by decide) rfl ?_
            refine g_iload F 6 (dk dtX7_nerves_0 36 rfl) rfl ?_
            refine g_istore F [(5, .int (nI i)), (4, .int (nI i)), (0, .ref (B + 0)), (1, .int (nI p)), (2, .int (nI 0)), (3, .int (nI ((nvF (fun v => cbB (M 2 0) (M 5) (M 10) (M 11) (M 12) p (nI v) nn) i).1))), (6, .int (nI i))] (dk dtX7_nerves_0 37 rfl) (by decide) rfl ?_
            refine g_iinc F 5 (nI ((nvF (fun v => cbB (M 2 0) (M 5) (M 10) (M 11) (M 12) p (nI v) nn) i).1 + 1)) [(3, .int (nI ((nvF (fun v => cbB (M 2 0) (M 5) (M 10) (M 11) (M 12) p (nI v) nn) i).1 + 1))), (5, .int (nI i)), (4, .int (nI i)), (0, .ref (B + 0)), (1, .int (nI p)), (2, .int (nI 0)), (6, .int (nI i))] (dk dtX7_nerves_0 38 rfl) rfl (nI_1 _) (by decide) rfl ?_
            refine g_iinc F 6 (nI (i + 1)) [(6, .int (nI (i + 1))), (3, .int (nI ((nvF (fun v => cbB (M 2 0) (M 5) (M 10) (M 11) (M 12) p (nI v) nn) i).1 + 1))), (5, .int (nI i)), (4, .int (nI i)), (0, .ref (B + 0)), (1, .int (nI p)), (2, .int (nI 0))] (dk dtX7_nerves_0 39 rfl) rfl (nI_1 _) (by decide) rfl ?_
            refine g_goto F 37 (dk dtX7_nerves_0 40 rfl) (by decide) ?_
            refine g_sub [4, 5, 6, 1, 3, 2, 0] (L1 := [(0, .ref (B + 0)), (1, .int (nI p)), (2, .int (nI 0)), (3, .int (nI ((nvF (fun v => cbB (M 2 0) (M 5) (M 10) (M 11) (M 12) p (nI v) nn) i).1 + 1))), (4, .int (nI i)), (5, .int (nI i)), (6, .int (nI (i + 1)))]) rfl ?_
            have eq37_3 : (nI ((nvF (fun v => cbB (M 2 0) (M 5) (M 10) (M 11) (M 12) p (nI v) nn) i).1 + 1) : Int32) = nI ((nvF (fun v => cbB (M 2 0) (M 5) (M 10) (M 11) (M 12) p (nI v) nn) (i + 1)).1) := by
              simp only [nvF]; rw [if_pos c51]
            have eq37_4 : (nI i : Int32) = (nvF (fun v => cbB (M 2 0) (M 5) (M 10) (M 11) (M 12) p (nI v) nn) (i + 1)).2.1 := by
              simp only [nvF]; rw [if_pos c51]; dsimp only; rw [if_pos c55]
            have eq37_5 : (nI i : Int32) = (nvF (fun v => cbB (M 2 0) (M 5) (M 10) (M 11) (M 12) p (nI v) nn) (i + 1)).2.2 := by
              simp only [nvF]; rw [if_pos c51]
            refine g_st (M1 := M) (L1 := [(0, .ref (B + 0)), (1, .int (nI p)), (2, .int (nI 0)), (3, .int (nI ((nvF (fun v => cbB (M 2 0) (M 5) (M 10) (M 11) (M 12) p (nI v) nn) (i + 1)).1))), (4, .int ((nvF (fun v => cbB (M 2 0) (M 5) (M 10) (M 11) (M 12) p (nI v) nn) (i + 1)).2.1)), (5, .int ((nvF (fun v => cbB (M 2 0) (M 5) (M 10) (M 11) (M 12) p (nI v) nn) (i + 1)).2.2)), (6, .int (nI (i + 1)))]) rfl (lc rfl (lc rfl (lc rfl (lc (vi eq37_3) (lc (vi eq37_4) (lc (vi eq37_5) (lc rfl rfl))))))) rfl ?_
            exact ih37 (i + 1) (by omega) (by omega)
  refine g_sub [4, 5, 6, 3, 2, 1, 0] (L1 := [(0, .ref (B + 0)), (1, .int (nI p)), (2, .int (nI 0)), (3, .int (nI 0)), (4, .int (-9)), (5, .int (-9)), (6, .int (nI 0))]) rfl ?_
  exact lp37 101 0 (by omega) (by omega)
set_option maxRecDepth 100000 in
set_option maxHeartbeats 4000000 in
theorem k_X7_nerves_1 (l : Launch) (D : DX) (B : Nat) (T : Int64) (M : Mem) (h0 : M 0 0 = nI 0) (P : Nat) (hP : M 2 2 = nI P) (hP5 : P ≤ 5) (K : Nat) (hK : M 2 0 = nI K) (hK1 : 1 ≤ K) (hK4 : K ≤ 4) (nn : Nat) (hnn : M 0 22 = nI nn) (hnn6 : nn ≤ 6) (hN : ∀ i, i < nn → ∃ k : Nat, k < 4 ∧ M 11 i = nI k) (hW : WR (M 5)) (p : Nat) (hp : p < P)  : Ci l D B 14 (celM D B) yX7_nerves cX7_nerves 7 (some .int) 3 [.ref (B + 0), .int (nI p), .int (nI 1)] T M (fun rz T1 M1 => rz = ((nvF (fun v => cbB (M 2 0) (M 5) (M 10) (M 11) (M 12) p (nI v) nn) 100).2.1) ∧ T1 = T ∧ M1 = M) := by
  refine g_entryi (L := [(0, .ref (B + 0)), (1, .int (nI p)), (2, .int (nI 1))]) (by decide) (Nat.le_of_ble_eq_true rfl) rfl ?_
  intro zp ze zs zm zb zt zc Q F hQ
  refine g_aload_n F 0 (dk dtX7_nerves_0 0 rfl) rfl ?_
  refine g_iconst F (nI 0) (dk dtX7_nerves_0 1 rfl) (by decide) ?_
  refine g_put F fa_X7_56 (dk dtX7_nerves_0 2 rfl) (by decide) (cm0 D B _ _) (Nat.le_of_ble_eq_true rfl) rfl rfl (cm0 D B _ _) ?_
  refine g_mem (up2_same h0) ?_
  refine g_aload_n F 0 (dk dtX7_nerves_0 3 rfl) rfl ?_
  refine g_iload_n F 1 (dk dtX7_nerves_0 4 rfl) rfl ?_
  refine g_callVi F (As := [.int (nI p)]) (st := []) cv_X7_129 (dk dtX7_nerves_0 5 rfl) (by decide) (cm0 D B _ _) rfl rfl (Nat.le_of_ble_eq_true rfl) ⟨by decide, by decide⟩ (k_X7_isOne l D B _ _ _ P hP (by omega)) (fun r7 T7 M7 hp7 => ?_)
  obtain ⟨e1, e2, e3⟩ := hp7
  replace e1 := e1.symm; replace e2 := e2.symm; replace e3 := e3.symm; subst e1; subst e2; subst e3
  refine g_if_eqB F 22 (dk dtX7_nerves_0 6 rfl) (by decide) (fun c => absurd (inR_nI (by omega)) c) (fun _ => ?_)
  refine g_iload_n F 2 (dk dtX7_nerves_0 7 rfl) rfl ?_
  refine g_iconst F (nI 0) (dk dtX7_nerves_0 8 rfl) (by decide) ?_
  refine g_iconst F (nI 2) (dk dtX7_nerves_0 9 rfl) (by decide) ?_
  refine g_callSi F (As := [.int (nI 1), .int (nI 0), .int (nI 2)]) (st := []) cs_X7_60 (dk dtX7_nerves_0 10 rfl) rfl rfl (Nat.le_of_ble_eq_true rfl) ⟨by decide, by decide⟩ (k_X7_inR l D B _ _ _ 2 (by decide)) (fun r16 T16 M16 hp16 => ?_)
  obtain ⟨e1, e2, e3⟩ := hp16
  replace e1 := e1.symm; replace e2 := e2.symm; replace e3 := e3.symm; subst e1; subst e2; subst e3
  refine g_if_neB F 24 (dk dtX7_nerves_0 11 rfl) (by decide) (fun _ => ?_) (fun c => absurd (inR_nI (by omega)) c)
  refine g_iconst F (nI 0) (dk dtX7_nerves_0 14 rfl) (by decide) ?_
  refine g_istore_n F [(3, .int (nI 0)), (0, .ref (B + 0)), (1, .int (nI p)), (2, .int (nI 1))] (dk dtX7_nerves_0 15 rfl) (by decide) rfl ?_
  refine g_bipush F (-9) (dk dtX7_nerves_0 16 rfl) (by decide) ?_
  refine g_istore F [(4, .int (-9)), (3, .int (nI 0)), (0, .ref (B + 0)), (1, .int (nI p)), (2, .int (nI 1))] (dk dtX7_nerves_0 17 rfl) (by decide) rfl ?_
  refine g_bipush F (-9) (dk dtX7_nerves_0 18 rfl) (by decide) ?_
  refine g_istore F [(5, .int (-9)), (4, .int (-9)), (3, .int (nI 0)), (0, .ref (B + 0)), (1, .int (nI p)), (2, .int (nI 1))] (dk dtX7_nerves_0 19 rfl) (by decide) rfl ?_
  refine g_iconst F (nI 0) (dk dtX7_nerves_0 20 rfl) (by decide) ?_
  refine g_istore F [(6, .int (nI 0)), (5, .int (-9)), (4, .int (-9)), (3, .int (nI 0)), (0, .ref (B + 0)), (1, .int (nI p)), (2, .int (nI 1))] (dk dtX7_nerves_0 21 rfl) (by decide) rfl ?_
  have lp37 : ∀ (fz : Nat) (i : Nat), i ≤ 100 → (100 - i) < fz → G zp l ze { frames := 3, cells := 0, slots := 0, locals := 40 * 3 } zs zm [.ref (B + 0), .int (nI p), .int (nI 1)].toArray zb zt zc 7 D B 14 (celM D B) Q T M 37 [(0, .ref (B + 0)), (1, .int (nI p)), (2, .int (nI 1)), (3, .int (nI ((nvF (fun v => cbB (M 2 0) (M 5) (M 10) (M 11) (M 12) p (nI v) nn) i).1))), (4, .int ((nvF (fun v => cbB (M 2 0) (M 5) (M 10) (M 11) (M 12) p (nI v) nn) i).2.1)), (5, .int ((nvF (fun v => cbB (M 2 0) (M 5) (M 10) (M 11) (M 12) p (nI v) nn) i).2.2)), (6, .int (nI i))] [] := by
    intro n37
    induction n37 with
    | zero => intro i hI hn; exact absurd hn (Nat.not_lt_zero _)
    | succ n37 ih37 =>
      intro i hI37 hn37
      have hle := nvF_le (fun v => cbB (M 2 0) (M 5) (M 10) (M 11) (M 12) p (nI v) nn) i
      refine g_iload F 6 (dk dtX7_nerves_0 22 rfl) rfl ?_
      refine g_bipush F (nI 100) (dk dtX7_nerves_0 23 rfl) (by decide) ?_
      refine g_icmp_geN F 80 (dk dtX7_nerves_0 24 rfl) (by decide) (by omega) (by omega) (fun c41 => ?_) (fun c41 => ?_)
      · -- taken at 41
        obtain rfl : 100 = i := by omega
        refine g_iload_n F 2 (dk dtX7_nerves_0 41 rfl) rfl ?_
        refine g_if_neN F 88 (dk dtX7_nerves_0 42 rfl) (by decide) (by decide) (fun _ => ?_) (fun c => absurd c (by decide))
        refine g_iload_n F 2 (dk dtX7_nerves_0 45 rfl) rfl ?_
        refine g_iconst F (nI 1) (dk dtX7_nerves_0 46 rfl) (by decide) ?_
        refine g_icmp_neN F 98 (dk dtX7_nerves_0 47 rfl) (by decide) (by decide) (by decide) (fun c => absurd c (by decide)) (fun _ => ?_)
        refine g_iload F 4 (dk dtX7_nerves_0 48 rfl) rfl ?_
        refine g_goto F 100 (dk dtX7_nerves_0 49 rfl) (by decide) ?_
        refine g_iret (F := F) hQ (dk dtX7_nerves_0 51 rfl) ?_
        exact ⟨rfl, rfl, rfl⟩
      · -- not taken at 41
        refine g_aload_n F 0 (dk dtX7_nerves_0 25 rfl) rfl ?_
        refine g_iload_n F 1 (dk dtX7_nerves_0 26 rfl) rfl ?_
        refine g_iload F 6 (dk dtX7_nerves_0 27 rfl) rfl ?_
        refine g_callVi F (As := [.int (nI p), .int (nI i)]) (st := []) cv_X7_179 (dk dtX7_nerves_0 28 rfl) (by decide) (cm0 D B _ _) rfl rfl (Nat.le_of_ble_eq_true rfl) ⟨by decide, by decide⟩ (k_X7_canBe l D B _ _ K hK hK1 hK4 nn hnn hnn6 hN hW p i (by omega) (by omega)) (fun r48 T48 M48 hp48 => ?_)
        obtain ⟨e1, e2, e3⟩ := hp48
        replace e1 := e1.symm; replace e2 := e2.symm; replace e3 := e3.symm; subst e1; subst e2; subst e3
        refine g_if_eqB F 74 (dk dtX7_nerves_0 29 rfl) (by decide) (fun c51 => ?_) (fun c51 => ?_)
        · -- taken at 51
          refine g_iinc F 6 (nI (i + 1)) [(6, .int (nI (i + 1))), (0, .ref (B + 0)), (1, .int (nI p)), (2, .int (nI 1)), (3, .int (nI ((nvF (fun v => cbB (M 2 0) (M 5) (M 10) (M 11) (M 12) p (nI v) nn) i).1))), (4, .int ((nvF (fun v => cbB (M 2 0) (M 5) (M 10) (M 11) (M 12) p (nI v) nn) i).2.1)), (5, .int ((nvF (fun v => cbB (M 2 0) (M 5) (M 10) (M 11) (M 12) p (nI v) nn) i).2.2))] (dk dtX7_nerves_0 39 rfl) rfl (nI_1 _) (by decide) rfl ?_
          refine g_goto F 37 (dk dtX7_nerves_0 40 rfl) (by decide) ?_
          refine g_sub [1, 2, 3, 4, 5, 6, 0] (L1 := [(0, .ref (B + 0)), (1, .int (nI p)), (2, .int (nI 1)), (3, .int (nI ((nvF (fun v => cbB (M 2 0) (M 5) (M 10) (M 11) (M 12) p (nI v) nn) i).1))), (4, .int ((nvF (fun v => cbB (M 2 0) (M 5) (M 10) (M 11) (M 12) p (nI v) nn) i).2.1)), (5, .int ((nvF (fun v => cbB (M 2 0) (M 5) (M 10) (M 11) (M 12) p (nI v) nn) i).2.2)), (6, .int (nI (i + 1)))]) rfl ?_
          have eq37_3 : (nI ((nvF (fun v => cbB (M 2 0) (M 5) (M 10) (M 11) (M 12) p (nI v) nn) i).1) : Int32) = nI ((nvF (fun v => cbB (M 2 0) (M 5) (M 10) (M 11) (M 12) p (nI v) nn) (i + 1)).1) := by
            simp only [nvF]; rw [if_neg c51]
          have eq37_4 : ((nvF (fun v => cbB (M 2 0) (M 5) (M 10) (M 11) (M 12) p (nI v) nn) i).2.1 : Int32) = (nvF (fun v => cbB (M 2 0) (M 5) (M 10) (M 11) (M 12) p (nI v) nn) (i + 1)).2.1 := by
            simp only [nvF]; rw [if_neg c51]
          have eq37_5 : ((nvF (fun v => cbB (M 2 0) (M 5) (M 10) (M 11) (M 12) p (nI v) nn) i).2.2 : Int32) = (nvF (fun v => cbB (M 2 0) (M 5) (M 10) (M 11) (M 12) p (nI v) nn) (i + 1)).2.2 := by
            simp only [nvF]; rw [if_neg c51]
          refine g_st (M1 := M) (L1 := [(0, .ref (B + 0)), (1, .int (nI p)), (2, .int (nI 1)), (3, .int (nI ((nvF (fun v => cbB (M 2 0) (M 5) (M 10) (M 11) (M 12) p (nI v) nn) (i + 1)).1))), (4, .int ((nvF (fun v => cbB (M 2 0) (M 5) (M 10) (M 11) (M 12) p (nI v) nn) (i + 1)).2.1)), (5, .int ((nvF (fun v => cbB (M 2 0) (M 5) (M 10) (M 11) (M 12) p (nI v) nn) (i + 1)).2.2)), (6, .int (nI (i + 1)))]) rfl (lc rfl (lc rfl (lc rfl (lc (vi eq37_3) (lc (vi eq37_4) (lc (vi eq37_5) (lc rfl rfl))))))) rfl ?_
          exact ih37 (i + 1) (by omega) (by omega)
        · -- not taken at 51
          refine g_iload_n F 3 (dk dtX7_nerves_0 30 rfl) rfl ?_
          refine g_if_neN F 63 (dk dtX7_nerves_0 31 rfl) (by decide) (by omega) (fun c55 => ?_) (fun c55 => ?_)
          · -- taken at 55
            refine g_iload F 4 (dk dtX7_nerves_0 34 rfl) rfl ?_
            refine g_istore F [(4, .int ((nvF (fun v => cbB (M 2 0) (M 5) (M 10) (M 11) (M 12) p (nI v) nn) i).2.1)), (0, .ref (B + 0)), (1, .int (nI p)), (2, .int (nI 1)), (3, .int (nI ((nvF (fun v => cbB (M 2 0) (M 5) (M 10) (M 11) (M 12) p (nI v) nn) i).1))), (5, .int ((nvF (fun v => cbB (M 2 0) (M 5) (M 10) (M 11) (M 12) p (nI v) nn) i).2.2)), (6, .int (nI i))] (dk dtX7_nerves_0 35 rfl) (by decide) rfl ?_
            refine g_iload F 6 (dk dtX7_nerves_0 36 rfl) rfl ?_
            refine g_istore F [(5, .int (nI i)), (4, .int ((nvF (fun v => cbB (M 2 0) (M 5) (M 10) (M 11) (M 12) p (nI v) nn) i).2.1)), (0, .ref (B + 0)), (1, .int (nI p)), (2, .int (nI 1)), (3, .int (nI ((nvF (fun v => cbB (M 2 0) (M 5) (M 10) (M 11) (M 12) p (nI v) nn) i).1))), (6, .int (nI i))] (dk dtX7_nerves_0 37 rfl) (by decide) rfl ?_
            refine g_iinc F 5 (nI ((nvF (fun v => cbB (M 2 0) (M 5) (M 10) (M 11) (M 12) p (nI v) nn) i).1 + 1)) [(3, .int (nI ((nvF (fun v => cbB (M 2 0) (M 5) (M 10) (M 11) (M 12) p (nI v) nn) i).1 + 1))), (5, .int (nI i)), (4, .int ((nvF (fun v => cbB (M 2 0) (M 5) (M 10) (M 11) (M 12) p (nI v) nn) i).2.1)), (0, .ref (B + 0)), (1, .int (nI p)), (2, .int (nI 1)), (6, .int (nI i))] (dk dtX7_nerves_0 38 rfl) rfl (nI_1 _) (by decide) rfl ?_
            refine g_iinc F 6 (nI (i + 1)) [(6, .int (nI (i + 1))), (3, .int (nI ((nvF (fun v => cbB (M 2 0) (M 5) (M 10) (M 11) (M 12) p (nI v) nn) i).1 + 1))), (5, .int (nI i)), (4, .int ((nvF (fun v => cbB (M 2 0) (M 5) (M 10) (M 11) (M 12) p (nI v) nn) i).2.1)), (0, .ref (B + 0)), (1, .int (nI p)), (2, .int (nI 1))] (dk dtX7_nerves_0 39 rfl) rfl (nI_1 _) (by decide) rfl ?_
            refine g_goto F 37 (dk dtX7_nerves_0 40 rfl) (by decide) ?_
            refine g_sub [4, 5, 6, 1, 3, 2, 0] (L1 := [(0, .ref (B + 0)), (1, .int (nI p)), (2, .int (nI 1)), (3, .int (nI ((nvF (fun v => cbB (M 2 0) (M 5) (M 10) (M 11) (M 12) p (nI v) nn) i).1 + 1))), (4, .int ((nvF (fun v => cbB (M 2 0) (M 5) (M 10) (M 11) (M 12) p (nI v) nn) i).2.1)), (5, .int (nI i)), (6, .int (nI (i + 1)))]) rfl ?_
            have eq37_3 : (nI ((nvF (fun v => cbB (M 2 0) (M 5) (M 10) (M 11) (M 12) p (nI v) nn) i).1 + 1) : Int32) = nI ((nvF (fun v => cbB (M 2 0) (M 5) (M 10) (M 11) (M 12) p (nI v) nn) (i + 1)).1) := by
              simp only [nvF]; rw [if_pos c51]
            have eq37_4 : ((nvF (fun v => cbB (M 2 0) (M 5) (M 10) (M 11) (M 12) p (nI v) nn) i).2.1 : Int32) = (nvF (fun v => cbB (M 2 0) (M 5) (M 10) (M 11) (M 12) p (nI v) nn) (i + 1)).2.1 := by
              simp only [nvF]; rw [if_pos c51]; dsimp only; rw [if_neg c55]
            have eq37_5 : (nI i : Int32) = (nvF (fun v => cbB (M 2 0) (M 5) (M 10) (M 11) (M 12) p (nI v) nn) (i + 1)).2.2 := by
              simp only [nvF]; rw [if_pos c51]
            refine g_st (M1 := M) (L1 := [(0, .ref (B + 0)), (1, .int (nI p)), (2, .int (nI 1)), (3, .int (nI ((nvF (fun v => cbB (M 2 0) (M 5) (M 10) (M 11) (M 12) p (nI v) nn) (i + 1)).1))), (4, .int ((nvF (fun v => cbB (M 2 0) (M 5) (M 10) (M 11) (M 12) p (nI v) nn) (i + 1)).2.1)), (5, .int ((nvF (fun v => cbB (M 2 0) (M 5) (M 10) (M 11) (M 12) p (nI v) nn) (i + 1)).2.2)), (6, .int (nI (i + 1)))]) rfl (lc rfl (lc rfl (lc rfl (lc (vi eq37_3) (lc (vi eq37_4) (lc (vi eq37_5) (lc rfl rfl))))))) rfl ?_
            exact ih37 (i + 1) (by omega) (by omega)
          · -- not taken at 55
            refine g_iload F 6 (dk dtX7_nerves_0 32 rfl) rfl ?_
            refine g_goto F 65 (dk dtX7_nerves_0 33 rfl) (by decide) ?_
            refine g_istore F [(4, .int (nI i)), (0, .ref (B + 0)), (1, .int (nI p)), (2, .int (nI 1)), (3, .int (nI ((nvF (fun v => cbB (M 2 0) (M 5) (M 10) (M 11) (M 12) p (nI v) nn) i).1))), (5, .int ((nvF (fun v => cbB (M 2 0) (M 5) (M 10) (M 11) (M 12) p (nI v) nn) i).2.2)), (6, .int (nI i))] (dk dtX7_nerves_0 35 rfl) (by decide) rfl ?_
            refine g_iload F 6 (dk dtX7_nerves_0 36 rfl) rfl ?_
            refine g_istore F [(5, .int (nI i)), (4, .int (nI i)), (0, .ref (B + 0)), (1, .int (nI p)), (2, .int (nI 1)), (3, .int (nI ((nvF (fun v => cbB (M 2 0) (M 5) (M 10) (M 11) (M 12) p (nI v) nn) i).1))), (6, .int (nI i))] (dk dtX7_nerves_0 37 rfl) (by decide) rfl ?_
            refine g_iinc F 5 (nI ((nvF (fun v => cbB (M 2 0) (M 5) (M 10) (M 11) (M 12) p (nI v) nn) i).1 + 1)) [(3, .int (nI ((nvF (fun v => cbB (M 2 0) (M 5) (M 10) (M 11) (M 12) p (nI v) nn) i).1 + 1))), (5, .int (nI i)), (4, .int (nI i)), (0, .ref (B + 0)), (1, .int (nI p)), (2, .int (nI 1)), (6, .int (nI i))] (dk dtX7_nerves_0 38 rfl) rfl (nI_1 _) (by decide) rfl ?_
            refine g_iinc F 6 (nI (i + 1)) [(6, .int (nI (i + 1))), (3, .int (nI ((nvF (fun v => cbB (M 2 0) (M 5) (M 10) (M 11) (M 12) p (nI v) nn) i).1 + 1))), (5, .int (nI i)), (4, .int (nI i)), (0, .ref (B + 0)), (1, .int (nI p)), (2, .int (nI 1))] (dk dtX7_nerves_0 39 rfl) rfl (nI_1 _) (by decide) rfl ?_
            refine g_goto F 37 (dk dtX7_nerves_0 40 rfl) (by decide) ?_
            refine g_sub [4, 5, 6, 1, 3, 2, 0] (L1 := [(0, .ref (B + 0)), (1, .int (nI p)), (2, .int (nI 1)), (3, .int (nI ((nvF (fun v => cbB (M 2 0) (M 5) (M 10) (M 11) (M 12) p (nI v) nn) i).1 + 1))), (4, .int (nI i)), (5, .int (nI i)), (6, .int (nI (i + 1)))]) rfl ?_
            have eq37_3 : (nI ((nvF (fun v => cbB (M 2 0) (M 5) (M 10) (M 11) (M 12) p (nI v) nn) i).1 + 1) : Int32) = nI ((nvF (fun v => cbB (M 2 0) (M 5) (M 10) (M 11) (M 12) p (nI v) nn) (i + 1)).1) := by
              simp only [nvF]; rw [if_pos c51]
            have eq37_4 : (nI i : Int32) = (nvF (fun v => cbB (M 2 0) (M 5) (M 10) (M 11) (M 12) p (nI v) nn) (i + 1)).2.1 := by
              simp only [nvF]; rw [if_pos c51]; dsimp only; rw [if_pos c55]
            have eq37_5 : (nI i : Int32) = (nvF (fun v => cbB (M 2 0) (M 5) (M 10) (M 11) (M 12) p (nI v) nn) (i + 1)).2.2 := by
              simp only [nvF]; rw [if_pos c51]
            refine g_st (M1 := M) (L1 := [(0, .ref (B + 0)), (1, .int (nI p)), (2, .int (nI 1)), (3, .int (nI ((nvF (fun v => cbB (M 2 0) (M 5) (M 10) (M 11) (M 12) p (nI v) nn) (i + 1)).1))), (4, .int ((nvF (fun v => cbB (M 2 0) (M 5) (M 10) (M 11) (M 12) p (nI v) nn) (i + 1)).2.1)), (5, .int ((nvF (fun v => cbB (M 2 0) (M 5) (M 10) (M 11) (M 12) p (nI v) nn) (i + 1)).2.2)), (6, .int (nI (i + 1)))]) rfl (lc rfl (lc rfl (lc rfl (lc (vi eq37_3) (lc (vi eq37_4) (lc (vi eq37_5) (lc rfl rfl))))))) rfl ?_
            exact ih37 (i + 1) (by omega) (by omega)
  refine g_sub [4, 5, 6, 3, 2, 1, 0] (L1 := [(0, .ref (B + 0)), (1, .int (nI p)), (2, .int (nI 1)), (3, .int (nI 0)), (4, .int (-9)), (5, .int (-9)), (6, .int (nI 0))]) rfl ?_
  exact lp37 101 0 (by omega) (by omega)
set_option maxRecDepth 100000 in
set_option maxHeartbeats 4000000 in
theorem k_X7_nerves_2 (l : Launch) (D : DX) (B : Nat) (T : Int64) (M : Mem) (h0 : M 0 0 = nI 0) (P : Nat) (hP : M 2 2 = nI P) (hP5 : P ≤ 5) (K : Nat) (hK : M 2 0 = nI K) (hK1 : 1 ≤ K) (hK4 : K ≤ 4) (nn : Nat) (hnn : M 0 22 = nI nn) (hnn6 : nn ≤ 6) (hN : ∀ i, i < nn → ∃ k : Nat, k < 4 ∧ M 11 i = nI k) (hW : WR (M 5)) (p : Nat) (hp : p < P)  : Ci l D B 14 (celM D B) yX7_nerves cX7_nerves 7 (some .int) 3 [.ref (B + 0), .int (nI p), .int (nI 2)] T M (fun rz T1 M1 => rz = ((nvF (fun v => cbB (M 2 0) (M 5) (M 10) (M 11) (M 12) p (nI v) nn) 100).2.2) ∧ T1 = T ∧ M1 = M) := by
  refine g_entryi (L := [(0, .ref (B + 0)), (1, .int (nI p)), (2, .int (nI 2))]) (by decide) (Nat.le_of_ble_eq_true rfl) rfl ?_
  intro zp ze zs zm zb zt zc Q F hQ
  refine g_aload_n F 0 (dk dtX7_nerves_0 0 rfl) rfl ?_
  refine g_iconst F (nI 0) (dk dtX7_nerves_0 1 rfl) (by decide) ?_
  refine g_put F fa_X7_56 (dk dtX7_nerves_0 2 rfl) (by decide) (cm0 D B _ _) (Nat.le_of_ble_eq_true rfl) rfl rfl (cm0 D B _ _) ?_
  refine g_mem (up2_same h0) ?_
  refine g_aload_n F 0 (dk dtX7_nerves_0 3 rfl) rfl ?_
  refine g_iload_n F 1 (dk dtX7_nerves_0 4 rfl) rfl ?_
  refine g_callVi F (As := [.int (nI p)]) (st := []) cv_X7_129 (dk dtX7_nerves_0 5 rfl) (by decide) (cm0 D B _ _) rfl rfl (Nat.le_of_ble_eq_true rfl) ⟨by decide, by decide⟩ (k_X7_isOne l D B _ _ _ P hP (by omega)) (fun r7 T7 M7 hp7 => ?_)
  obtain ⟨e1, e2, e3⟩ := hp7
  replace e1 := e1.symm; replace e2 := e2.symm; replace e3 := e3.symm; subst e1; subst e2; subst e3
  refine g_if_eqB F 22 (dk dtX7_nerves_0 6 rfl) (by decide) (fun c => absurd (inR_nI (by omega)) c) (fun _ => ?_)
  refine g_iload_n F 2 (dk dtX7_nerves_0 7 rfl) rfl ?_
  refine g_iconst F (nI 0) (dk dtX7_nerves_0 8 rfl) (by decide) ?_
  refine g_iconst F (nI 2) (dk dtX7_nerves_0 9 rfl) (by decide) ?_
  refine g_callSi F (As := [.int (nI 2), .int (nI 0), .int (nI 2)]) (st := []) cs_X7_60 (dk dtX7_nerves_0 10 rfl) rfl rfl (Nat.le_of_ble_eq_true rfl) ⟨by decide, by decide⟩ (k_X7_inR l D B _ _ _ 2 (by decide)) (fun r16 T16 M16 hp16 => ?_)
  obtain ⟨e1, e2, e3⟩ := hp16
  replace e1 := e1.symm; replace e2 := e2.symm; replace e3 := e3.symm; subst e1; subst e2; subst e3
  refine g_if_neB F 24 (dk dtX7_nerves_0 11 rfl) (by decide) (fun _ => ?_) (fun c => absurd (inR_nI (by omega)) c)
  refine g_iconst F (nI 0) (dk dtX7_nerves_0 14 rfl) (by decide) ?_
  refine g_istore_n F [(3, .int (nI 0)), (0, .ref (B + 0)), (1, .int (nI p)), (2, .int (nI 2))] (dk dtX7_nerves_0 15 rfl) (by decide) rfl ?_
  refine g_bipush F (-9) (dk dtX7_nerves_0 16 rfl) (by decide) ?_
  refine g_istore F [(4, .int (-9)), (3, .int (nI 0)), (0, .ref (B + 0)), (1, .int (nI p)), (2, .int (nI 2))] (dk dtX7_nerves_0 17 rfl) (by decide) rfl ?_
  refine g_bipush F (-9) (dk dtX7_nerves_0 18 rfl) (by decide) ?_
  refine g_istore F [(5, .int (-9)), (4, .int (-9)), (3, .int (nI 0)), (0, .ref (B + 0)), (1, .int (nI p)), (2, .int (nI 2))] (dk dtX7_nerves_0 19 rfl) (by decide) rfl ?_
  refine g_iconst F (nI 0) (dk dtX7_nerves_0 20 rfl) (by decide) ?_
  refine g_istore F [(6, .int (nI 0)), (5, .int (-9)), (4, .int (-9)), (3, .int (nI 0)), (0, .ref (B + 0)), (1, .int (nI p)), (2, .int (nI 2))] (dk dtX7_nerves_0 21 rfl) (by decide) rfl ?_
  have lp37 : ∀ (fz : Nat) (i : Nat), i ≤ 100 → (100 - i) < fz → G zp l ze { frames := 3, cells := 0, slots := 0, locals := 40 * 3 } zs zm [.ref (B + 0), .int (nI p), .int (nI 2)].toArray zb zt zc 7 D B 14 (celM D B) Q T M 37 [(0, .ref (B + 0)), (1, .int (nI p)), (2, .int (nI 2)), (3, .int (nI ((nvF (fun v => cbB (M 2 0) (M 5) (M 10) (M 11) (M 12) p (nI v) nn) i).1))), (4, .int ((nvF (fun v => cbB (M 2 0) (M 5) (M 10) (M 11) (M 12) p (nI v) nn) i).2.1)), (5, .int ((nvF (fun v => cbB (M 2 0) (M 5) (M 10) (M 11) (M 12) p (nI v) nn) i).2.2)), (6, .int (nI i))] [] := by
    intro n37
    induction n37 with
    | zero => intro i hI hn; exact absurd hn (Nat.not_lt_zero _)
    | succ n37 ih37 =>
      intro i hI37 hn37
      have hle := nvF_le (fun v => cbB (M 2 0) (M 5) (M 10) (M 11) (M 12) p (nI v) nn) i
      refine g_iload F 6 (dk dtX7_nerves_0 22 rfl) rfl ?_
      refine g_bipush F (nI 100) (dk dtX7_nerves_0 23 rfl) (by decide) ?_
      refine g_icmp_geN F 80 (dk dtX7_nerves_0 24 rfl) (by decide) (by omega) (by omega) (fun c41 => ?_) (fun c41 => ?_)
      · -- taken at 41
        obtain rfl : 100 = i := by omega
        refine g_iload_n F 2 (dk dtX7_nerves_0 41 rfl) rfl ?_
        refine g_if_neN F 88 (dk dtX7_nerves_0 42 rfl) (by decide) (by decide) (fun _ => ?_) (fun c => absurd c (by decide))
        refine g_iload_n F 2 (dk dtX7_nerves_0 45 rfl) rfl ?_
        refine g_iconst F (nI 1) (dk dtX7_nerves_0 46 rfl) (by decide) ?_
        refine g_icmp_neN F 98 (dk dtX7_nerves_0 47 rfl) (by decide) (by decide) (by decide) (fun _ => ?_) (fun c => absurd c (by decide))
        refine g_iload F 5 (dk dtX7_nerves_0 50 rfl) rfl ?_
        refine g_iret (F := F) hQ (dk dtX7_nerves_0 51 rfl) ?_
        exact ⟨rfl, rfl, rfl⟩
      · -- not taken at 41
        refine g_aload_n F 0 (dk dtX7_nerves_0 25 rfl) rfl ?_
        refine g_iload_n F 1 (dk dtX7_nerves_0 26 rfl) rfl ?_
        refine g_iload F 6 (dk dtX7_nerves_0 27 rfl) rfl ?_
        refine g_callVi F (As := [.int (nI p), .int (nI i)]) (st := []) cv_X7_179 (dk dtX7_nerves_0 28 rfl) (by decide) (cm0 D B _ _) rfl rfl (Nat.le_of_ble_eq_true rfl) ⟨by decide, by decide⟩ (k_X7_canBe l D B _ _ K hK hK1 hK4 nn hnn hnn6 hN hW p i (by omega) (by omega)) (fun r48 T48 M48 hp48 => ?_)
        obtain ⟨e1, e2, e3⟩ := hp48
        replace e1 := e1.symm; replace e2 := e2.symm; replace e3 := e3.symm; subst e1; subst e2; subst e3
        refine g_if_eqB F 74 (dk dtX7_nerves_0 29 rfl) (by decide) (fun c51 => ?_) (fun c51 => ?_)
        · -- taken at 51
          refine g_iinc F 6 (nI (i + 1)) [(6, .int (nI (i + 1))), (0, .ref (B + 0)), (1, .int (nI p)), (2, .int (nI 2)), (3, .int (nI ((nvF (fun v => cbB (M 2 0) (M 5) (M 10) (M 11) (M 12) p (nI v) nn) i).1))), (4, .int ((nvF (fun v => cbB (M 2 0) (M 5) (M 10) (M 11) (M 12) p (nI v) nn) i).2.1)), (5, .int ((nvF (fun v => cbB (M 2 0) (M 5) (M 10) (M 11) (M 12) p (nI v) nn) i).2.2))] (dk dtX7_nerves_0 39 rfl) rfl (nI_1 _) (by decide) rfl ?_
          refine g_goto F 37 (dk dtX7_nerves_0 40 rfl) (by decide) ?_
          refine g_sub [1, 2, 3, 4, 5, 6, 0] (L1 := [(0, .ref (B + 0)), (1, .int (nI p)), (2, .int (nI 2)), (3, .int (nI ((nvF (fun v => cbB (M 2 0) (M 5) (M 10) (M 11) (M 12) p (nI v) nn) i).1))), (4, .int ((nvF (fun v => cbB (M 2 0) (M 5) (M 10) (M 11) (M 12) p (nI v) nn) i).2.1)), (5, .int ((nvF (fun v => cbB (M 2 0) (M 5) (M 10) (M 11) (M 12) p (nI v) nn) i).2.2)), (6, .int (nI (i + 1)))]) rfl ?_
          have eq37_3 : (nI ((nvF (fun v => cbB (M 2 0) (M 5) (M 10) (M 11) (M 12) p (nI v) nn) i).1) : Int32) = nI ((nvF (fun v => cbB (M 2 0) (M 5) (M 10) (M 11) (M 12) p (nI v) nn) (i + 1)).1) := by
            simp only [nvF]; rw [if_neg c51]
          have eq37_4 : ((nvF (fun v => cbB (M 2 0) (M 5) (M 10) (M 11) (M 12) p (nI v) nn) i).2.1 : Int32) = (nvF (fun v => cbB (M 2 0) (M 5) (M 10) (M 11) (M 12) p (nI v) nn) (i + 1)).2.1 := by
            simp only [nvF]; rw [if_neg c51]
          have eq37_5 : ((nvF (fun v => cbB (M 2 0) (M 5) (M 10) (M 11) (M 12) p (nI v) nn) i).2.2 : Int32) = (nvF (fun v => cbB (M 2 0) (M 5) (M 10) (M 11) (M 12) p (nI v) nn) (i + 1)).2.2 := by
            simp only [nvF]; rw [if_neg c51]
          refine g_st (M1 := M) (L1 := [(0, .ref (B + 0)), (1, .int (nI p)), (2, .int (nI 2)), (3, .int (nI ((nvF (fun v => cbB (M 2 0) (M 5) (M 10) (M 11) (M 12) p (nI v) nn) (i + 1)).1))), (4, .int ((nvF (fun v => cbB (M 2 0) (M 5) (M 10) (M 11) (M 12) p (nI v) nn) (i + 1)).2.1)), (5, .int ((nvF (fun v => cbB (M 2 0) (M 5) (M 10) (M 11) (M 12) p (nI v) nn) (i + 1)).2.2)), (6, .int (nI (i + 1)))]) rfl (lc rfl (lc rfl (lc rfl (lc (vi eq37_3) (lc (vi eq37_4) (lc (vi eq37_5) (lc rfl rfl))))))) rfl ?_
          exact ih37 (i + 1) (by omega) (by omega)
        · -- not taken at 51
          refine g_iload_n F 3 (dk dtX7_nerves_0 30 rfl) rfl ?_
          refine g_if_neN F 63 (dk dtX7_nerves_0 31 rfl) (by decide) (by omega) (fun c55 => ?_) (fun c55 => ?_)
          · -- taken at 55
            refine g_iload F 4 (dk dtX7_nerves_0 34 rfl) rfl ?_
            refine g_istore F [(4, .int ((nvF (fun v => cbB (M 2 0) (M 5) (M 10) (M 11) (M 12) p (nI v) nn) i).2.1)), (0, .ref (B + 0)), (1, .int (nI p)), (2, .int (nI 2)), (3, .int (nI ((nvF (fun v => cbB (M 2 0) (M 5) (M 10) (M 11) (M 12) p (nI v) nn) i).1))), (5, .int ((nvF (fun v => cbB (M 2 0) (M 5) (M 10) (M 11) (M 12) p (nI v) nn) i).2.2)), (6, .int (nI i))] (dk dtX7_nerves_0 35 rfl) (by decide) rfl ?_
            refine g_iload F 6 (dk dtX7_nerves_0 36 rfl) rfl ?_
            refine g_istore F [(5, .int (nI i)), (4, .int ((nvF (fun v => cbB (M 2 0) (M 5) (M 10) (M 11) (M 12) p (nI v) nn) i).2.1)), (0, .ref (B + 0)), (1, .int (nI p)), (2, .int (nI 2)), (3, .int (nI ((nvF (fun v => cbB (M 2 0) (M 5) (M 10) (M 11) (M 12) p (nI v) nn) i).1))), (6, .int (nI i))] (dk dtX7_nerves_0 37 rfl) (by decide) rfl ?_
            refine g_iinc F 5 (nI ((nvF (fun v => cbB (M 2 0) (M 5) (M 10) (M 11) (M 12) p (nI v) nn) i).1 + 1)) [(3, .int (nI ((nvF (fun v => cbB (M 2 0) (M 5) (M 10) (M 11) (M 12) p (nI v) nn) i).1 + 1))), (5, .int (nI i)), (4, .int ((nvF (fun v => cbB (M 2 0) (M 5) (M 10) (M 11) (M 12) p (nI v) nn) i).2.1)), (0, .ref (B + 0)), (1, .int (nI p)), (2, .int (nI 2)), (6, .int (nI i))] (dk dtX7_nerves_0 38 rfl) rfl (nI_1 _) (by decide) rfl ?_
            refine g_iinc F 6 (nI (i + 1)) [(6, .int (nI (i + 1))), (3, .int (nI ((nvF (fun v => cbB (M 2 0) (M 5) (M 10) (M 11) (M 12) p (nI v) nn) i).1 + 1))), (5, .int (nI i)), (4, .int ((nvF (fun v => cbB (M 2 0) (M 5) (M 10) (M 11) (M 12) p (nI v) nn) i).2.1)), (0, .ref (B + 0)), (1, .int (nI p)), (2, .int (nI 2))] (dk dtX7_nerves_0 39 rfl) rfl (nI_1 _) (by decide) rfl ?_
            refine g_goto F 37 (dk dtX7_nerves_0 40 rfl) (by decide) ?_
            refine g_sub [4, 5, 6, 1, 3, 2, 0] (L1 := [(0, .ref (B + 0)), (1, .int (nI p)), (2, .int (nI 2)), (3, .int (nI ((nvF (fun v => cbB (M 2 0) (M 5) (M 10) (M 11) (M 12) p (nI v) nn) i).1 + 1))), (4, .int ((nvF (fun v => cbB (M 2 0) (M 5) (M 10) (M 11) (M 12) p (nI v) nn) i).2.1)), (5, .int (nI i)), (6, .int (nI (i + 1)))]) rfl ?_
            have eq37_3 : (nI ((nvF (fun v => cbB (M 2 0) (M 5) (M 10) (M 11) (M 12) p (nI v) nn) i).1 + 1) : Int32) = nI ((nvF (fun v => cbB (M 2 0) (M 5) (M 10) (M 11) (M 12) p (nI v) nn) (i + 1)).1) := by
              simp only [nvF]; rw [if_pos c51]
            have eq37_4 : ((nvF (fun v => cbB (M 2 0) (M 5) (M 10) (M 11) (M 12) p (nI v) nn) i).2.1 : Int32) = (nvF (fun v => cbB (M 2 0) (M 5) (M 10) (M 11) (M 12) p (nI v) nn) (i + 1)).2.1 := by
              simp only [nvF]; rw [if_pos c51]; dsimp only; rw [if_neg c55]
            have eq37_5 : (nI i : Int32) = (nvF (fun v => cbB (M 2 0) (M 5) (M 10) (M 11) (M 12) p (nI v) nn) (i + 1)).2.2 := by
              simp only [nvF]; rw [if_pos c51]
            refine g_st (M1 := M) (L1 := [(0, .ref (B + 0)), (1, .int (nI p)), (2, .int (nI 2)), (3, .int (nI ((nvF (fun v => cbB (M 2 0) (M 5) (M 10) (M 11) (M 12) p (nI v) nn) (i + 1)).1))), (4, .int ((nvF (fun v => cbB (M 2 0) (M 5) (M 10) (M 11) (M 12) p (nI v) nn) (i + 1)).2.1)), (5, .int ((nvF (fun v => cbB (M 2 0) (M 5) (M 10) (M 11) (M 12) p (nI v) nn) (i + 1)).2.2)), (6, .int (nI (i + 1)))]) rfl (lc rfl (lc rfl (lc rfl (lc (vi eq37_3) (lc (vi eq37_4) (lc (vi eq37_5) (lc rfl rfl))))))) rfl ?_
            exact ih37 (i + 1) (by omega) (by omega)
          · -- not taken at 55
            refine g_iload F 6 (dk dtX7_nerves_0 32 rfl) rfl ?_
            refine g_goto F 65 (dk dtX7_nerves_0 33 rfl) (by decide) ?_
            refine g_istore F [(4, .int (nI i)), (0, .ref (B + 0)), (1, .int (nI p)), (2, .int (nI 2)), (3, .int (nI ((nvF (fun v => cbB (M 2 0) (M 5) (M 10) (M 11) (M 12) p (nI v) nn) i).1))), (5, .int ((nvF (fun v => cbB (M 2 0) (M 5) (M 10) (M 11) (M 12) p (nI v) nn) i).2.2)), (6, .int (nI i))] (dk dtX7_nerves_0 35 rfl) (by decide) rfl ?_
            refine g_iload F 6 (dk dtX7_nerves_0 36 rfl) rfl ?_
            refine g_istore F [(5, .int (nI i)), (4, .int (nI i)), (0, .ref (B + 0)), (1, .int (nI p)), (2, .int (nI 2)), (3, .int (nI ((nvF (fun v => cbB (M 2 0) (M 5) (M 10) (M 11) (M 12) p (nI v) nn) i).1))), (6, .int (nI i))] (dk dtX7_nerves_0 37 rfl) (by decide) rfl ?_
            refine g_iinc F 5 (nI ((nvF (fun v => cbB (M 2 0) (M 5) (M 10) (M 11) (M 12) p (nI v) nn) i).1 + 1)) [(3, .int (nI ((nvF (fun v => cbB (M 2 0) (M 5) (M 10) (M 11) (M 12) p (nI v) nn) i).1 + 1))), (5, .int (nI i)), (4, .int (nI i)), (0, .ref (B + 0)), (1, .int (nI p)), (2, .int (nI 2)), (6, .int (nI i))] (dk dtX7_nerves_0 38 rfl) rfl (nI_1 _) (by decide) rfl ?_
            refine g_iinc F 6 (nI (i + 1)) [(6, .int (nI (i + 1))), (3, .int (nI ((nvF (fun v => cbB (M 2 0) (M 5) (M 10) (M 11) (M 12) p (nI v) nn) i).1 + 1))), (5, .int (nI i)), (4, .int (nI i)), (0, .ref (B + 0)), (1, .int (nI p)), (2, .int (nI 2))] (dk dtX7_nerves_0 39 rfl) rfl (nI_1 _) (by decide) rfl ?_
            refine g_goto F 37 (dk dtX7_nerves_0 40 rfl) (by decide) ?_
            refine g_sub [4, 5, 6, 1, 3, 2, 0] (L1 := [(0, .ref (B + 0)), (1, .int (nI p)), (2, .int (nI 2)), (3, .int (nI ((nvF (fun v => cbB (M 2 0) (M 5) (M 10) (M 11) (M 12) p (nI v) nn) i).1 + 1))), (4, .int (nI i)), (5, .int (nI i)), (6, .int (nI (i + 1)))]) rfl ?_
            have eq37_3 : (nI ((nvF (fun v => cbB (M 2 0) (M 5) (M 10) (M 11) (M 12) p (nI v) nn) i).1 + 1) : Int32) = nI ((nvF (fun v => cbB (M 2 0) (M 5) (M 10) (M 11) (M 12) p (nI v) nn) (i + 1)).1) := by
              simp only [nvF]; rw [if_pos c51]
            have eq37_4 : (nI i : Int32) = (nvF (fun v => cbB (M 2 0) (M 5) (M 10) (M 11) (M 12) p (nI v) nn) (i + 1)).2.1 := by
              simp only [nvF]; rw [if_pos c51]; dsimp only; rw [if_pos c55]
            have eq37_5 : (nI i : Int32) = (nvF (fun v => cbB (M 2 0) (M 5) (M 10) (M 11) (M 12) p (nI v) nn) (i + 1)).2.2 := by
              simp only [nvF]; rw [if_pos c51]
            refine g_st (M1 := M) (L1 := [(0, .ref (B + 0)), (1, .int (nI p)), (2, .int (nI 2)), (3, .int (nI ((nvF (fun v => cbB (M 2 0) (M 5) (M 10) (M 11) (M 12) p (nI v) nn) (i + 1)).1))), (4, .int ((nvF (fun v => cbB (M 2 0) (M 5) (M 10) (M 11) (M 12) p (nI v) nn) (i + 1)).2.1)), (5, .int ((nvF (fun v => cbB (M 2 0) (M 5) (M 10) (M 11) (M 12) p (nI v) nn) (i + 1)).2.2)), (6, .int (nI (i + 1)))]) rfl (lc rfl (lc rfl (lc rfl (lc (vi eq37_3) (lc (vi eq37_4) (lc (vi eq37_5) (lc rfl rfl))))))) rfl ?_
            exact ih37 (i + 1) (by omega) (by omega)
  refine g_sub [4, 5, 6, 3, 2, 1, 0] (L1 := [(0, .ref (B + 0)), (1, .int (nI p)), (2, .int (nI 2)), (3, .int (nI 0)), (4, .int (-9)), (5, .int (-9)), (6, .int (nI 0))]) rfl ?_
  exact lp37 101 0 (by omega) (by omega)
set_option maxRecDepth 100000 in
set_option maxHeartbeats 4000000 in
theorem k_X7_nerves_bad (l : Launch) (D : DX) (B : Nat) (T : Int64) (M : Mem) (h0 : M 0 0 = nI 0) (P : Nat) (hP : M 2 2 = nI P) (hP5 : P ≤ 5) (p w : Int32) (hb : ¬ (inR p P ∧ inR w 3)) : Ci l D B 14 (celM D B) yX7_nerves cX7_nerves 7 (some .int) 3 [.ref (B + 0), .int p, .int w] T M (fun rz T1 M1 => rz = (-1) ∧ T1 = T ∧ M1 = M) := by
  refine g_entryi (L := [(0, .ref (B + 0)), (1, .int p), (2, .int w)]) (by decide) (Nat.le_of_ble_eq_true rfl) rfl ?_
  intro zp ze zs zm zb zt zc Q F hQ
  refine g_aload_n F 0 (dk dtX7_nerves_0 0 rfl) rfl ?_
  refine g_iconst F (nI 0) (dk dtX7_nerves_0 1 rfl) (by decide) ?_
  refine g_put F fa_X7_56 (dk dtX7_nerves_0 2 rfl) (by decide) (cm0 D B _ _) (Nat.le_of_ble_eq_true rfl) rfl rfl (cm0 D B _ _) ?_
  refine g_mem (up2_same h0) ?_
  refine g_aload_n F 0 (dk dtX7_nerves_0 3 rfl) rfl ?_
  refine g_iload_n F 1 (dk dtX7_nerves_0 4 rfl) rfl ?_
  refine g_callVi F (As := [.int p]) (st := []) cv_X7_129 (dk dtX7_nerves_0 5 rfl) (by decide) (cm0 D B _ _) rfl rfl (Nat.le_of_ble_eq_true rfl) ⟨by decide, by decide⟩ (k_X7_isOne l D B _ _ _ P hP (by omega)) (fun r7 T7 M7 hp7 => ?_)
  obtain ⟨e1, e2, e3⟩ := hp7
  replace e1 := e1.symm; replace e2 := e2.symm; replace e3 := e3.symm; subst e1; subst e2; subst e3
  refine g_if_eqB F 22 (dk dtX7_nerves_0 6 rfl) (by decide) (fun c10 => ?_) (fun c10 => ?_)
  · -- taken at 10
    refine g_iconst F (-1) (dk dtX7_nerves_0 12 rfl) (by decide) ?_
    refine g_iret (F := F) hQ (dk dtX7_nerves_0 13 rfl) ?_
    exact ⟨rfl, rfl, rfl⟩
  · -- not taken at 10
    refine g_iload_n F 2 (dk dtX7_nerves_0 7 rfl) rfl ?_
    refine g_iconst F (nI 0) (dk dtX7_nerves_0 8 rfl) (by decide) ?_
    refine g_iconst F (nI 2) (dk dtX7_nerves_0 9 rfl) (by decide) ?_
    refine g_callSi F (As := [.int w, .int (nI 0), .int (nI 2)]) (st := []) cs_X7_60 (dk dtX7_nerves_0 10 rfl) rfl rfl (Nat.le_of_ble_eq_true rfl) ⟨by decide, by decide⟩ (k_X7_inR l D B _ _ _ 2 (by decide)) (fun r16 T16 M16 hp16 => ?_)
    obtain ⟨e1, e2, e3⟩ := hp16
    replace e1 := e1.symm; replace e2 := e2.symm; replace e3 := e3.symm; subst e1; subst e2; subst e3
    refine g_if_neB F 24 (dk dtX7_nerves_0 11 rfl) (by decide) (fun c19 => ?_) (fun c19 => ?_)
    · -- taken at 19
      exact absurd ⟨c10, c19⟩ hb
    · -- not taken at 19
      refine g_iconst F (-1) (dk dtX7_nerves_0 12 rfl) (by decide) ?_
      refine g_iret (F := F) hQ (dk dtX7_nerves_0 13 rfl) ?_
      exact ⟨rfl, rfl, rfl⟩
set_option maxRecDepth 100000 in
set_option maxHeartbeats 4000000 in
theorem k_X7_test (l : Launch) (D : DX) (B : Nat) (T : Int64) (M : Mem) (h0 : M 0 0 = nI 0) (P : Nat) (hP : M 2 2 = nI P) (hP5 : P ≤ 5) (K : Nat) (hK : M 2 0 = nI K) (hK1 : 1 ≤ K) (hK4 : K ≤ 4) (nn : Nat) (hnn : M 0 22 = nI nn) (hnn6 : nn ≤ 6) (hN : ∀ i, i < nn → ∃ k : Nat, k < 4 ∧ M 11 i = nI k) (hW : WR (M 5)) (p : Nat) (hp : p < P)  : Ci l D B 14 (celM D B) yX7_test cX7_test 8 (some .int) 3 [.ref (B + 0), .int (nI p)] T M (fun rz T1 M1 => rz = (if cnB (fun v => cbB (M 2 0) (M 5) (M 10) (M 11) (M 12) p (nI v) nn) 100 < 2 then -9 else (tsF (fun v => cbB (M 2 0) (M 5) (M 10) (M 11) (M 12) p (nI v) nn) (fun k => (fun v => (fun v => cbB (M 2 0) (M 5) (M 10) (M 11) (M 12) p (nI v) nn) v && decide (nI v ≤ suR (M 2 0) (M 5) p k))) K).1) ∧ T1 = T ∧ M1 = M) := by
  refine g_entryi (L := [(0, .ref (B + 0)), (1, .int (nI p))]) (by decide) (Nat.le_of_ble_eq_true rfl) rfl ?_
  intro zp ze zs zm zb zt zc Q F hQ
  refine g_aload_n F 0 (dk dtX7_test_0 0 rfl) rfl ?_
  refine g_iconst F (nI 0) (dk dtX7_test_0 1 rfl) (by decide) ?_
  refine g_put F fa_X7_56 (dk dtX7_test_0 2 rfl) (by decide) (cm0 D B _ _) (Nat.le_of_ble_eq_true rfl) rfl rfl (cm0 D B _ _) ?_
  refine g_mem (up2_same h0) ?_
  refine g_aload_n F 0 (dk dtX7_test_0 3 rfl) rfl ?_
  refine g_iload_n F 1 (dk dtX7_test_0 4 rfl) rfl ?_
  refine g_callVi F (As := [.int (nI p)]) (st := []) cv_X7_129 (dk dtX7_test_0 5 rfl) (by decide) (cm0 D B _ _) rfl rfl (Nat.le_of_ble_eq_true rfl) ⟨by decide, by decide⟩ (k_X7_isOne l D B _ _ _ P hP (by omega)) (fun r7 T7 M7 hp7 => ?_)
  obtain ⟨e1, e2, e3⟩ := hp7
  replace e1 := e1.symm; replace e2 := e2.symm; replace e3 := e3.symm; subst e1; subst e2; subst e3
  refine g_if_neB F 15 (dk dtX7_test_0 6 rfl) (by decide) (fun _ => ?_) (fun c => absurd (inR_nI (by omega)) c)
  refine g_bipush F (-9) (dk dtX7_test_0 9 rfl) (by decide) ?_
  refine g_istore_n F [(2, .int (-9)), (0, .ref (B + 0)), (1, .int (nI p))] (dk dtX7_test_0 10 rfl) (by decide) rfl ?_
  refine g_bipush F (nI 101) (dk dtX7_test_0 11 rfl) (by decide) ?_
  refine g_istore_n F [(3, .int (nI 101)), (2, .int (-9)), (0, .ref (B + 0)), (1, .int (nI p))] (dk dtX7_test_0 12 rfl) (by decide) rfl ?_
  refine g_iconst F (nI 0) (dk dtX7_test_0 13 rfl) (by decide) ?_
  refine g_istore F [(4, .int (nI 0)), (3, .int (nI 101)), (2, .int (-9)), (0, .ref (B + 0)), (1, .int (nI p))] (dk dtX7_test_0 14 rfl) (by decide) rfl ?_
  refine g_iconst F (nI 0) (dk dtX7_test_0 15 rfl) (by decide) ?_
  refine g_istore F [(5, .int (nI 0)), (4, .int (nI 0)), (3, .int (nI 101)), (2, .int (-9)), (0, .ref (B + 0)), (1, .int (nI p))] (dk dtX7_test_0 16 rfl) (by decide) rfl ?_
  have lp27 : ∀ (fz : Nat) (i al : Nat), (i ≤ K ∧ al ≤ 100 ∧ (0 < i → al = cnB (fun v => cbB (M 2 0) (M 5) (M 10) (M 11) (M 12) p (nI v) nn) 100)) → (K - i) < fz → G zp l ze { frames := 3, cells := 0, slots := 0, locals := 40 * 3 } zs zm [.ref (B + 0), .int (nI p)].toArray zb zt zc 8 D B 14 (celM D B) Q T M 27 [(0, .ref (B + 0)), (1, .int (nI p)), (2, .int ((tsF (fun v => cbB (M 2 0) (M 5) (M 10) (M 11) (M 12) p (nI v) nn) (fun k => (fun v => (fun v => cbB (M 2 0) (M 5) (M 10) (M 11) (M 12) p (nI v) nn) v && decide (nI v ≤ suR (M 2 0) (M 5) p k))) i).1)), (3, .int (nI ((tsF (fun v => cbB (M 2 0) (M 5) (M 10) (M 11) (M 12) p (nI v) nn) (fun k => (fun v => (fun v => cbB (M 2 0) (M 5) (M 10) (M 11) (M 12) p (nI v) nn) v && decide (nI v ≤ suR (M 2 0) (M 5) p k))) i).2))), (4, .int (nI al)), (5, .int (nI i))] [] := by
    intro n27
    induction n27 with
    | zero => intro i al hI hn; exact absurd hn (Nat.not_lt_zero _)
    | succ n27 ih27 =>
      intro i al hI27 hn27
      have hlo := tsF_le (fun v => cbB (M 2 0) (M 5) (M 10) (M 11) (M 12) p (nI v) nn) (fun k => (fun v => (fun v => cbB (M 2 0) (M 5) (M 10) (M 11) (M 12) p (nI v) nn) v && decide (nI v ≤ suR (M 2 0) (M 5) p k))) i
      refine g_iload F 5 (dk dtX7_test_0 17 rfl) rfl ?_
      refine g_aload_n F 0 (dk dtX7_test_0 18 rfl) rfl ?_
      refine g_get F fa_X7_13 (dk dtX7_test_0 19 rfl) (by decide) (cm0 D B _ _) rfl ?_
      refine g_iconst F (nI 0) (dk dtX7_test_0 20 rfl) (by decide) ?_
      refine g_iald F (0) (dk dtX7_test_0 21 rfl) (by decide) (cm2 D B _ _) (by omega) (by decide) ?_
      refine g_top hK ?_
      refine g_icmp_geN F 170 (dk dtX7_test_0 22 rfl) (by decide) (by omega) (by omega) (fun c35 => ?_) (fun c35 => ?_)
      · -- taken at 35
        obtain rfl : K = i := by omega
        obtain rfl : cnB (fun v => cbB (M 2 0) (M 5) (M 10) (M 11) (M 12) p (nI v) nn) 100 = al := (hI27.2.2 (by omega)).symm
        refine g_iload F 4 (dk dtX7_test_1 31 rfl) rfl ?_
        refine g_iconst F (nI 2) (dk dtX7_test_1 32 rfl) (by decide) ?_
        refine g_icmp_geN F 181 (dk dtX7_test_1 33 rfl) (by decide) (by omega) (by omega) (fun c173 => ?_) (fun c173 => ?_)
        · -- taken at 173
          refine g_iload_n F 2 (dk dtX7_test_1 36 rfl) rfl ?_
          refine g_iret (F := F) hQ (dk dtX7_test_1 37 rfl) ?_
          exact ⟨(if_neg (by omega)).symm, rfl, rfl⟩
        · -- not taken at 173
          refine g_bipush F (-9) (dk dtX7_test_1 34 rfl) (by decide) ?_
          refine g_goto F 182 (dk dtX7_test_1 35 rfl) (by decide) ?_
          refine g_iret (F := F) hQ (dk dtX7_test_1 37 rfl) ?_
          exact ⟨(if_pos (by omega)).symm, rfl, rfl⟩
      · -- not taken at 35
        refine g_iconst F (nI 0) (dk dtX7_test_0 23 rfl) (by decide) ?_
        refine g_istore F [(6, .int (nI 0)), (0, .ref (B + 0)), (1, .int (nI p)), (2, .int ((tsF (fun v => cbB (M 2 0) (M 5) (M 10) (M 11) (M 12) p (nI v) nn) (fun k => (fun v => (fun v => cbB (M 2 0) (M 5) (M 10) (M 11) (M 12) p (nI v) nn) v && decide (nI v ≤ suR (M 2 0) (M 5) p k))) i).1)), (3, .int (nI ((tsF (fun v => cbB (M 2 0) (M 5) (M 10) (M 11) (M 12) p (nI v) nn) (fun k => (fun v => (fun v => cbB (M 2 0) (M 5) (M 10) (M 11) (M 12) p (nI v) nn) v && decide (nI v ≤ suR (M 2 0) (M 5) p k))) i).2))), (4, .int (nI al)), (5, .int (nI i))] (dk dtX7_test_0 24 rfl) (by decide) rfl ?_
        refine g_iconst F (nI 0) (dk dtX7_test_0 25 rfl) (by decide) ?_
        refine g_istore F [(4, .int (nI 0)), (6, .int (nI 0)), (0, .ref (B + 0)), (1, .int (nI p)), (2, .int ((tsF (fun v => cbB (M 2 0) (M 5) (M 10) (M 11) (M 12) p (nI v) nn) (fun k => (fun v => (fun v => cbB (M 2 0) (M 5) (M 10) (M 11) (M 12) p (nI v) nn) v && decide (nI v ≤ suR (M 2 0) (M 5) p k))) i).1)), (3, .int (nI ((tsF (fun v => cbB (M 2 0) (M 5) (M 10) (M 11) (M 12) p (nI v) nn) (fun k => (fun v => (fun v => cbB (M 2 0) (M 5) (M 10) (M 11) (M 12) p (nI v) nn) v && decide (nI v ≤ suR (M 2 0) (M 5) p k))) i).2))), (5, .int (nI i))] (dk dtX7_test_0 26 rfl) (by decide) rfl ?_
        refine g_iconst F (nI 0) (dk dtX7_test_0 27 rfl) (by decide) ?_
        refine g_istore F [(7, .int (nI 0)), (4, .int (nI 0)), (6, .int (nI 0)), (0, .ref (B + 0)), (1, .int (nI p)), (2, .int ((tsF (fun v => cbB (M 2 0) (M 5) (M 10) (M 11) (M 12) p (nI v) nn) (fun k => (fun v => (fun v => cbB (M 2 0) (M 5) (M 10) (M 11) (M 12) p (nI v) nn) v && decide (nI v ≤ suR (M 2 0) (M 5) p k))) i).1)), (3, .int (nI ((tsF (fun v => cbB (M 2 0) (M 5) (M 10) (M 11) (M 12) p (nI v) nn) (fun k => (fun v => (fun v => cbB (M 2 0) (M 5) (M 10) (M 11) (M 12) p (nI v) nn) v && decide (nI v ≤ suR (M 2 0) (M 5) p k))) i).2))), (5, .int (nI i))] (dk dtX7_test_0 28 rfl) (by decide) rfl ?_
        have lp47 : ∀ (fz : Nat) (j : Nat), j ≤ 100 → (100 - j) < fz → G zp l ze { frames := 3, cells := 0, slots := 0, locals := 40 * 3 } zs zm [.ref (B + 0), .int (nI p)].toArray zb zt zc 8 D B 14 (celM D B) Q T M 47 [(0, .ref (B + 0)), (1, .int (nI p)), (2, .int ((tsF (fun v => cbB (M 2 0) (M 5) (M 10) (M 11) (M 12) p (nI v) nn) (fun k => (fun v => (fun v => cbB (M 2 0) (M 5) (M 10) (M 11) (M 12) p (nI v) nn) v && decide (nI v ≤ suR (M 2 0) (M 5) p k))) i).1)), (3, .int (nI ((tsF (fun v => cbB (M 2 0) (M 5) (M 10) (M 11) (M 12) p (nI v) nn) (fun k => (fun v => (fun v => cbB (M 2 0) (M 5) (M 10) (M 11) (M 12) p (nI v) nn) v && decide (nI v ≤ suR (M 2 0) (M 5) p k))) i).2))), (4, .int (nI (cnB (fun v => cbB (M 2 0) (M 5) (M 10) (M 11) (M 12) p (nI v) nn) j))), (5, .int (nI i)), (6, .int (nI (cnB (fun v => (fun v => cbB (M 2 0) (M 5) (M 10) (M 11) (M 12) p (nI v) nn) v && decide (nI v ≤ suR (M 2 0) (M 5) p i)) j))), (7, .int (nI j))] [] := by
          intro n47
          induction n47 with
          | zero => intro j hI hn; exact absurd hn (Nat.not_lt_zero _)
          | succ n47 ih47 =>
            intro j hI47 hn47
            refine g_iload F 7 (dk dtX7_test_0 29 rfl) rfl ?_
            refine g_bipush F (nI 100) (dk dtX7_test_0 30 rfl) (by decide) ?_
            refine g_icmp_geN F 116 (dk dtX7_test_0 31 rfl) (by decide) (by omega) (by omega) (fun c51 => ?_) (fun c51 => ?_)
            · -- taken at 51
              obtain rfl : 100 = j := by omega
              have hy := cnB_le (fun v => (fun v => cbB (M 2 0) (M 5) (M 10) (M 11) (M 12) p (nI v) nn) v && decide (nI v ≤ suR (M 2 0) (M 5) p i)) 100
              have ha := cnB_le (fun v => cbB (M 2 0) (M 5) (M 10) (M 11) (M 12) p (nI v) nn) 100
              have hya := cnB_mono (f := (fun v => (fun v => cbB (M 2 0) (M 5) (M 10) (M 11) (M 12) p (nI v) nn) v && decide (nI v ≤ suR (M 2 0) (M 5) p i))) (g := (fun v => cbB (M 2 0) (M 5) (M 10) (M 11) (M 12) p (nI v) nn)) (fun v h => and_l h) 100
              refine g_iload F 6 (dk dtX7_test_1 4 rfl) rfl ?_
              refine g_iload F 4 (dk dtX7_test_1 5 rfl) rfl ?_
              refine g_iload F 6 (dk dtX7_test_1 6 rfl) rfl ?_
              refine g_isubN F (dk dtX7_test_1 7 rfl) (by omega) ?_
              refine g_icmp_leN F 131 (dk dtX7_test_1 8 rfl) (by decide) (by omega) (by omega) (fun c123 => ?_) (fun c123 => ?_)
              · -- taken at 123
                refine g_iload F 4 (dk dtX7_test_1 11 rfl) rfl ?_
                refine g_iload F 6 (dk dtX7_test_1 12 rfl) rfl ?_
                refine g_isubN F (dk dtX7_test_1 13 rfl) (by omega) ?_
                refine g_istore F [(7, .int (nI ((cnB (fun v => cbB (M 2 0) (M 5) (M 10) (M 11) (M 12) p (nI v) nn) 100) - (cnB (fun v => (fun v => cbB (M 2 0) (M 5) (M 10) (M 11) (M 12) p (nI v) nn) v && decide (nI v ≤ suR (M 2 0) (M 5) p i)) 100)))), (0, .ref (B + 0)), (1, .int (nI p)), (2, .int ((tsF (fun v => cbB (M 2 0) (M 5) (M 10) (M 11) (M 12) p (nI v) nn) (fun k => (fun v => (fun v => cbB (M 2 0) (M 5) (M 10) (M 11) (M 12) p (nI v) nn) v && decide (nI v ≤ suR (M 2 0) (M 5) p k))) i).1)), (3, .int (nI ((tsF (fun v => cbB (M 2 0) (M 5) (M 10) (M 11) (M 12) p (nI v) nn) (fun k => (fun v => (fun v => cbB (M 2 0) (M 5) (M 10) (M 11) (M 12) p (nI v) nn) v && decide (nI v ≤ suR (M 2 0) (M 5) p k))) i).2))), (4, .int (nI (cnB (fun v => cbB (M 2 0) (M 5) (M 10) (M 11) (M 12) p (nI v) nn) 100))), (5, .int (nI i)), (6, .int (nI (cnB (fun v => (fun v => cbB (M 2 0) (M 5) (M 10) (M 11) (M 12) p (nI v) nn) v && decide (nI v ≤ suR (M 2 0) (M 5) p i)) 100)))] (dk dtX7_test_1 14 rfl) (by decide) rfl ?_
                refine g_iload F 0 (dk dtX7_test_1 15 rfl) rfl ?_
                refine g_iload_n F 4 (dk dtX7_test_1 16 rfl) rfl ?_
                refine g_icmp_geN F 149 (dk dtX7_test_1 17 rfl) (by decide) (by omega) (by omega) (fun c141 => ?_) (fun c141 => ?_)
                · -- taken at 141
                  refine g_iload_n F 3 (dk dtX7_test_1 20 rfl) rfl ?_
                  refine g_istore_n F [(2, .int ((tsF (fun v => cbB (M 2 0) (M 5) (M 10) (M 11) (M 12) p (nI v) nn) (fun k => (fun v => (fun v => cbB (M 2 0) (M 5) (M 10) (M 11) (M 12) p (nI v) nn) v && decide (nI v ≤ suR (M 2 0) (M 5) p k))) i).1)), (7, .int (nI ((cnB (fun v => cbB (M 2 0) (M 5) (M 10) (M 11) (M 12) p (nI v) nn) 100) - (cnB (fun v => (fun v => cbB (M 2 0) (M 5) (M 10) (M 11) (M 12) p (nI v) nn) v && decide (nI v ≤ suR (M 2 0) (M 5) p i)) 100)))), (0, .ref (B + 0)), (1, .int (nI p)), (3, .int (nI ((tsF (fun v => cbB (M 2 0) (M 5) (M 10) (M 11) (M 12) p (nI v) nn) (fun k => (fun v => (fun v => cbB (M 2 0) (M 5) (M 10) (M 11) (M 12) p (nI v) nn) v && decide (nI v ≤ suR (M 2 0) (M 5) p k))) i).2))), (4, .int (nI (cnB (fun v => cbB (M 2 0) (M 5) (M 10) (M 11) (M 12) p (nI v) nn) 100))), (5, .int (nI i)), (6, .int (nI (cnB (fun v => (fun v => cbB (M 2 0) (M 5) (M 10) (M 11) (M 12) p (nI v) nn) v && decide (nI v ≤ suR (M 2 0) (M 5) p i)) 100)))] (dk dtX7_test_1 21 rfl) (by decide) rfl ?_
                  refine g_iload F 1 (dk dtX7_test_1 22 rfl) rfl ?_
                  refine g_iload_n F 4 (dk dtX7_test_1 23 rfl) rfl ?_
                  refine g_icmp_geN F 162 (dk dtX7_test_1 24 rfl) (by decide) (by omega) (by omega) (fun c154 => ?_) (fun c154 => ?_)
                  · -- taken at 154
                    refine g_iload_n F 4 (dk dtX7_test_1 27 rfl) rfl ?_
                    refine g_istore_n F [(3, .int (nI ((tsF (fun v => cbB (M 2 0) (M 5) (M 10) (M 11) (M 12) p (nI v) nn) (fun k => (fun v => (fun v => cbB (M 2 0) (M 5) (M 10) (M 11) (M 12) p (nI v) nn) v && decide (nI v ≤ suR (M 2 0) (M 5) p k))) i).2))), (2, .int ((tsF (fun v => cbB (M 2 0) (M 5) (M 10) (M 11) (M 12) p (nI v) nn) (fun k => (fun v => (fun v => cbB (M 2 0) (M 5) (M 10) (M 11) (M 12) p (nI v) nn) v && decide (nI v ≤ suR (M 2 0) (M 5) p k))) i).1)), (7, .int (nI ((cnB (fun v => cbB (M 2 0) (M 5) (M 10) (M 11) (M 12) p (nI v) nn) 100) - (cnB (fun v => (fun v => cbB (M 2 0) (M 5) (M 10) (M 11) (M 12) p (nI v) nn) v && decide (nI v ≤ suR (M 2 0) (M 5) p i)) 100)))), (0, .ref (B + 0)), (1, .int (nI p)), (4, .int (nI (cnB (fun v => cbB (M 2 0) (M 5) (M 10) (M 11) (M 12) p (nI v) nn) 100))), (5, .int (nI i)), (6, .int (nI (cnB (fun v => (fun v => cbB (M 2 0) (M 5) (M 10) (M 11) (M 12) p (nI v) nn) v && decide (nI v ≤ suR (M 2 0) (M 5) p i)) 100)))] (dk dtX7_test_1 28 rfl) (by decide) rfl ?_
                    refine g_iinc F 6 (nI (i + 1)) [(5, .int (nI (i + 1))), (3, .int (nI ((tsF (fun v => cbB (M 2 0) (M 5) (M 10) (M 11) (M 12) p (nI v) nn) (fun k => (fun v => (fun v => cbB (M 2 0) (M 5) (M 10) (M 11) (M 12) p (nI v) nn) v && decide (nI v ≤ suR (M 2 0) (M 5) p k))) i).2))), (2, .int ((tsF (fun v => cbB (M 2 0) (M 5) (M 10) (M 11) (M 12) p (nI v) nn) (fun k => (fun v => (fun v => cbB (M 2 0) (M 5) (M 10) (M 11) (M 12) p (nI v) nn) v && decide (nI v ≤ suR (M 2 0) (M 5) p k))) i).1)), (7, .int (nI ((cnB (fun v => cbB (M 2 0) (M 5) (M 10) (M 11) (M 12) p (nI v) nn) 100) - (cnB (fun v => (fun v => cbB (M 2 0) (M 5) (M 10) (M 11) (M 12) p (nI v) nn) v && decide (nI v ≤ suR (M 2 0) (M 5) p i)) 100)))), (0, .ref (B + 0)), (1, .int (nI p)), (4, .int (nI (cnB (fun v => cbB (M 2 0) (M 5) (M 10) (M 11) (M 12) p (nI v) nn) 100))), (6, .int (nI (cnB (fun v => (fun v => cbB (M 2 0) (M 5) (M 10) (M 11) (M 12) p (nI v) nn) v && decide (nI v ≤ suR (M 2 0) (M 5) p i)) 100)))] (dk dtX7_test_1 29 rfl) rfl (nI_1 _) (by decide) rfl ?_
                    refine g_goto F 27 (dk dtX7_test_1 30 rfl) (by decide) ?_
                    refine g_sub [4, 5, 2, 1, 6, 0] (L1 := [(0, .ref (B + 0)), (1, .int (nI p)), (2, .int ((tsF (fun v => cbB (M 2 0) (M 5) (M 10) (M 11) (M 12) p (nI v) nn) (fun k => (fun v => (fun v => cbB (M 2 0) (M 5) (M 10) (M 11) (M 12) p (nI v) nn) v && decide (nI v ≤ suR (M 2 0) (M 5) p k))) i).1)), (3, .int (nI ((tsF (fun v => cbB (M 2 0) (M 5) (M 10) (M 11) (M 12) p (nI v) nn) (fun k => (fun v => (fun v => cbB (M 2 0) (M 5) (M 10) (M 11) (M 12) p (nI v) nn) v && decide (nI v ≤ suR (M 2 0) (M 5) p k))) i).2))), (4, .int (nI (cnB (fun v => cbB (M 2 0) (M 5) (M 10) (M 11) (M 12) p (nI v) nn) 100))), (5, .int (nI (i + 1)))]) rfl ?_
                    have hg : gtr (cnB (fun v => cbB (M 2 0) (M 5) (M 10) (M 11) (M 12) p (nI v) nn) 100) (cnB (fun v => (fun v => cbB (M 2 0) (M 5) (M 10) (M 11) (M 12) p (nI v) nn) v && decide (nI v ≤ suR (M 2 0) (M 5) p i)) 100) = cnB (fun v => cbB (M 2 0) (M 5) (M 10) (M 11) (M 12) p (nI v) nn) 100 - cnB (fun v => (fun v => cbB (M 2 0) (M 5) (M 10) (M 11) (M 12) p (nI v) nn) v && decide (nI v ≤ suR (M 2 0) (M 5) p i)) 100 := if_pos c123
                    have q1 : ((tsF (fun v => cbB (M 2 0) (M 5) (M 10) (M 11) (M 12) p (nI v) nn) (fun k => (fun v => (fun v => cbB (M 2 0) (M 5) (M 10) (M 11) (M 12) p (nI v) nn) v && decide (nI v ≤ suR (M 2 0) (M 5) p k))) i).1 : Int32) = (tsF (fun v => cbB (M 2 0) (M 5) (M 10) (M 11) (M 12) p (nI v) nn) (fun k => (fun v => (fun v => cbB (M 2 0) (M 5) (M 10) (M 11) (M 12) p (nI v) nn) v && decide (nI v ≤ suR (M 2 0) (M 5) p k))) (i + 1)).1 := by rw [tsF_n _ _ (by rw [hg]; omega)]
                    have q2 : (nI ((tsF (fun v => cbB (M 2 0) (M 5) (M 10) (M 11) (M 12) p (nI v) nn) (fun k => (fun v => (fun v => cbB (M 2 0) (M 5) (M 10) (M 11) (M 12) p (nI v) nn) v && decide (nI v ≤ suR (M 2 0) (M 5) p k))) i).2) : Int32) = nI ((tsF (fun v => cbB (M 2 0) (M 5) (M 10) (M 11) (M 12) p (nI v) nn) (fun k => (fun v => (fun v => cbB (M 2 0) (M 5) (M 10) (M 11) (M 12) p (nI v) nn) v && decide (nI v ≤ suR (M 2 0) (M 5) p k))) (i + 1)).2) := by rw [tsF_n _ _ (by rw [hg]; omega)]
                    refine g_st (M1 := M) (L1 := [(0, .ref (B + 0)), (1, .int (nI p)), (2, .int ((tsF (fun v => cbB (M 2 0) (M 5) (M 10) (M 11) (M 12) p (nI v) nn) (fun k => (fun v => (fun v => cbB (M 2 0) (M 5) (M 10) (M 11) (M 12) p (nI v) nn) v && decide (nI v ≤ suR (M 2 0) (M 5) p k))) (i + 1)).1)), (3, .int (nI ((tsF (fun v => cbB (M 2 0) (M 5) (M 10) (M 11) (M 12) p (nI v) nn) (fun k => (fun v => (fun v => cbB (M 2 0) (M 5) (M 10) (M 11) (M 12) p (nI v) nn) v && decide (nI v ≤ suR (M 2 0) (M 5) p k))) (i + 1)).2))), (4, .int (nI (cnB (fun v => cbB (M 2 0) (M 5) (M 10) (M 11) (M 12) p (nI v) nn) 100))), (5, .int (nI (i + 1)))]) rfl (lc rfl (lc rfl (lc (vi q1) (lc (vi q2) rfl)))) rfl ?_
                    exact ih27 (i + 1) _ ⟨by omega, cnB_le _ 100, fun _ => rfl⟩ (by omega)
                  · -- not taken at 154
                    refine g_iload F 1 (dk dtX7_test_1 25 rfl) rfl ?_
                    refine g_goto F 163 (dk dtX7_test_1 26 rfl) (by decide) ?_
                    refine g_istore_n F [(3, .int (nI ((cnB (fun v => cbB (M 2 0) (M 5) (M 10) (M 11) (M 12) p (nI v) nn) 100) - (cnB (fun v => (fun v => cbB (M 2 0) (M 5) (M 10) (M 11) (M 12) p (nI v) nn) v && decide (nI v ≤ suR (M 2 0) (M 5) p i)) 100)))), (2, .int ((tsF (fun v => cbB (M 2 0) (M 5) (M 10) (M 11) (M 12) p (nI v) nn) (fun k => (fun v => (fun v => cbB (M 2 0) (M 5) (M 10) (M 11) (M 12) p (nI v) nn) v && decide (nI v ≤ suR (M 2 0) (M 5) p k))) i).1)), (7, .int (nI ((cnB (fun v => cbB (M 2 0) (M 5) (M 10) (M 11) (M 12) p (nI v) nn) 100) - (cnB (fun v => (fun v => cbB (M 2 0) (M 5) (M 10) (M 11) (M 12) p (nI v) nn) v && decide (nI v ≤ suR (M 2 0) (M 5) p i)) 100)))), (0, .ref (B + 0)), (1, .int (nI p)), (4, .int (nI (cnB (fun v => cbB (M 2 0) (M 5) (M 10) (M 11) (M 12) p (nI v) nn) 100))), (5, .int (nI i)), (6, .int (nI (cnB (fun v => (fun v => cbB (M 2 0) (M 5) (M 10) (M 11) (M 12) p (nI v) nn) v && decide (nI v ≤ suR (M 2 0) (M 5) p i)) 100)))] (dk dtX7_test_1 28 rfl) (by decide) rfl ?_
                    refine g_iinc F 6 (nI (i + 1)) [(5, .int (nI (i + 1))), (3, .int (nI ((cnB (fun v => cbB (M 2 0) (M 5) (M 10) (M 11) (M 12) p (nI v) nn) 100) - (cnB (fun v => (fun v => cbB (M 2 0) (M 5) (M 10) (M 11) (M 12) p (nI v) nn) v && decide (nI v ≤ suR (M 2 0) (M 5) p i)) 100)))), (2, .int ((tsF (fun v => cbB (M 2 0) (M 5) (M 10) (M 11) (M 12) p (nI v) nn) (fun k => (fun v => (fun v => cbB (M 2 0) (M 5) (M 10) (M 11) (M 12) p (nI v) nn) v && decide (nI v ≤ suR (M 2 0) (M 5) p k))) i).1)), (7, .int (nI ((cnB (fun v => cbB (M 2 0) (M 5) (M 10) (M 11) (M 12) p (nI v) nn) 100) - (cnB (fun v => (fun v => cbB (M 2 0) (M 5) (M 10) (M 11) (M 12) p (nI v) nn) v && decide (nI v ≤ suR (M 2 0) (M 5) p i)) 100)))), (0, .ref (B + 0)), (1, .int (nI p)), (4, .int (nI (cnB (fun v => cbB (M 2 0) (M 5) (M 10) (M 11) (M 12) p (nI v) nn) 100))), (6, .int (nI (cnB (fun v => (fun v => cbB (M 2 0) (M 5) (M 10) (M 11) (M 12) p (nI v) nn) v && decide (nI v ≤ suR (M 2 0) (M 5) p i)) 100)))] (dk dtX7_test_1 29 rfl) rfl (nI_1 _) (by decide) rfl ?_
                    refine g_goto F 27 (dk dtX7_test_1 30 rfl) (by decide) ?_
                    refine g_sub [4, 5, 2, 1, 6, 0] (L1 := [(0, .ref (B + 0)), (1, .int (nI p)), (2, .int ((tsF (fun v => cbB (M 2 0) (M 5) (M 10) (M 11) (M 12) p (nI v) nn) (fun k => (fun v => (fun v => cbB (M 2 0) (M 5) (M 10) (M 11) (M 12) p (nI v) nn) v && decide (nI v ≤ suR (M 2 0) (M 5) p k))) i).1)), (3, .int (nI ((cnB (fun v => cbB (M 2 0) (M 5) (M 10) (M 11) (M 12) p (nI v) nn) 100) - (cnB (fun v => (fun v => cbB (M 2 0) (M 5) (M 10) (M 11) (M 12) p (nI v) nn) v && decide (nI v ≤ suR (M 2 0) (M 5) p i)) 100)))), (4, .int (nI (cnB (fun v => cbB (M 2 0) (M 5) (M 10) (M 11) (M 12) p (nI v) nn) 100))), (5, .int (nI (i + 1)))]) rfl ?_
                    have hg : gtr (cnB (fun v => cbB (M 2 0) (M 5) (M 10) (M 11) (M 12) p (nI v) nn) 100) (cnB (fun v => (fun v => cbB (M 2 0) (M 5) (M 10) (M 11) (M 12) p (nI v) nn) v && decide (nI v ≤ suR (M 2 0) (M 5) p i)) 100) = cnB (fun v => cbB (M 2 0) (M 5) (M 10) (M 11) (M 12) p (nI v) nn) 100 - cnB (fun v => (fun v => cbB (M 2 0) (M 5) (M 10) (M 11) (M 12) p (nI v) nn) v && decide (nI v ≤ suR (M 2 0) (M 5) p i)) 100 := if_pos c123
                    have q1 : ((tsF (fun v => cbB (M 2 0) (M 5) (M 10) (M 11) (M 12) p (nI v) nn) (fun k => (fun v => (fun v => cbB (M 2 0) (M 5) (M 10) (M 11) (M 12) p (nI v) nn) v && decide (nI v ≤ suR (M 2 0) (M 5) p k))) i).1 : Int32) = (tsF (fun v => cbB (M 2 0) (M 5) (M 10) (M 11) (M 12) p (nI v) nn) (fun k => (fun v => (fun v => cbB (M 2 0) (M 5) (M 10) (M 11) (M 12) p (nI v) nn) v && decide (nI v ≤ suR (M 2 0) (M 5) p k))) (i + 1)).1 := by rw [tsF_n _ _ (by rw [hg]; omega)]
                    have q2 : (nI ((cnB (fun v => cbB (M 2 0) (M 5) (M 10) (M 11) (M 12) p (nI v) nn) 100) - (cnB (fun v => (fun v => cbB (M 2 0) (M 5) (M 10) (M 11) (M 12) p (nI v) nn) v && decide (nI v ≤ suR (M 2 0) (M 5) p i)) 100)) : Int32) = nI ((tsF (fun v => cbB (M 2 0) (M 5) (M 10) (M 11) (M 12) p (nI v) nn) (fun k => (fun v => (fun v => cbB (M 2 0) (M 5) (M 10) (M 11) (M 12) p (nI v) nn) v && decide (nI v ≤ suR (M 2 0) (M 5) p k))) (i + 1)).2) := by rw [tsF_y _ _ (by rw [hg]; omega), hg]
                    refine g_st (M1 := M) (L1 := [(0, .ref (B + 0)), (1, .int (nI p)), (2, .int ((tsF (fun v => cbB (M 2 0) (M 5) (M 10) (M 11) (M 12) p (nI v) nn) (fun k => (fun v => (fun v => cbB (M 2 0) (M 5) (M 10) (M 11) (M 12) p (nI v) nn) v && decide (nI v ≤ suR (M 2 0) (M 5) p k))) (i + 1)).1)), (3, .int (nI ((tsF (fun v => cbB (M 2 0) (M 5) (M 10) (M 11) (M 12) p (nI v) nn) (fun k => (fun v => (fun v => cbB (M 2 0) (M 5) (M 10) (M 11) (M 12) p (nI v) nn) v && decide (nI v ≤ suR (M 2 0) (M 5) p k))) (i + 1)).2))), (4, .int (nI (cnB (fun v => cbB (M 2 0) (M 5) (M 10) (M 11) (M 12) p (nI v) nn) 100))), (5, .int (nI (i + 1)))]) rfl (lc rfl (lc rfl (lc (vi q1) (lc (vi q2) rfl)))) rfl ?_
                    exact ih27 (i + 1) _ ⟨by omega, cnB_le _ 100, fun _ => rfl⟩ (by omega)
                · -- not taken at 141
                  refine g_iload F 6 (dk dtX7_test_1 18 rfl) rfl ?_
                  refine g_goto F 150 (dk dtX7_test_1 19 rfl) (by decide) ?_
                  refine g_istore_n F [(2, .int (nI i)), (7, .int (nI ((cnB (fun v => cbB (M 2 0) (M 5) (M 10) (M 11) (M 12) p (nI v) nn) 100) - (cnB (fun v => (fun v => cbB (M 2 0) (M 5) (M 10) (M 11) (M 12) p (nI v) nn) v && decide (nI v ≤ suR (M 2 0) (M 5) p i)) 100)))), (0, .ref (B + 0)), (1, .int (nI p)), (3, .int (nI ((tsF (fun v => cbB (M 2 0) (M 5) (M 10) (M 11) (M 12) p (nI v) nn) (fun k => (fun v => (fun v => cbB (M 2 0) (M 5) (M 10) (M 11) (M 12) p (nI v) nn) v && decide (nI v ≤ suR (M 2 0) (M 5) p k))) i).2))), (4, .int (nI (cnB (fun v => cbB (M 2 0) (M 5) (M 10) (M 11) (M 12) p (nI v) nn) 100))), (5, .int (nI i)), (6, .int (nI (cnB (fun v => (fun v => cbB (M 2 0) (M 5) (M 10) (M 11) (M 12) p (nI v) nn) v && decide (nI v ≤ suR (M 2 0) (M 5) p i)) 100)))] (dk dtX7_test_1 21 rfl) (by decide) rfl ?_
                  refine g_iload F 1 (dk dtX7_test_1 22 rfl) rfl ?_
                  refine g_iload_n F 4 (dk dtX7_test_1 23 rfl) rfl ?_
                  refine g_icmp_geN F 162 (dk dtX7_test_1 24 rfl) (by decide) (by omega) (by omega) (fun c154 => ?_) (fun c154 => ?_)
                  · -- taken at 154
                    refine g_iload_n F 4 (dk dtX7_test_1 27 rfl) rfl ?_
                    refine g_istore_n F [(3, .int (nI ((tsF (fun v => cbB (M 2 0) (M 5) (M 10) (M 11) (M 12) p (nI v) nn) (fun k => (fun v => (fun v => cbB (M 2 0) (M 5) (M 10) (M 11) (M 12) p (nI v) nn) v && decide (nI v ≤ suR (M 2 0) (M 5) p k))) i).2))), (2, .int (nI i)), (7, .int (nI ((cnB (fun v => cbB (M 2 0) (M 5) (M 10) (M 11) (M 12) p (nI v) nn) 100) - (cnB (fun v => (fun v => cbB (M 2 0) (M 5) (M 10) (M 11) (M 12) p (nI v) nn) v && decide (nI v ≤ suR (M 2 0) (M 5) p i)) 100)))), (0, .ref (B + 0)), (1, .int (nI p)), (4, .int (nI (cnB (fun v => cbB (M 2 0) (M 5) (M 10) (M 11) (M 12) p (nI v) nn) 100))), (5, .int (nI i)), (6, .int (nI (cnB (fun v => (fun v => cbB (M 2 0) (M 5) (M 10) (M 11) (M 12) p (nI v) nn) v && decide (nI v ≤ suR (M 2 0) (M 5) p i)) 100)))] (dk dtX7_test_1 28 rfl) (by decide) rfl ?_
                    refine g_iinc F 6 (nI (i + 1)) [(5, .int (nI (i + 1))), (3, .int (nI ((tsF (fun v => cbB (M 2 0) (M 5) (M 10) (M 11) (M 12) p (nI v) nn) (fun k => (fun v => (fun v => cbB (M 2 0) (M 5) (M 10) (M 11) (M 12) p (nI v) nn) v && decide (nI v ≤ suR (M 2 0) (M 5) p k))) i).2))), (2, .int (nI i)), (7, .int (nI ((cnB (fun v => cbB (M 2 0) (M 5) (M 10) (M 11) (M 12) p (nI v) nn) 100) - (cnB (fun v => (fun v => cbB (M 2 0) (M 5) (M 10) (M 11) (M 12) p (nI v) nn) v && decide (nI v ≤ suR (M 2 0) (M 5) p i)) 100)))), (0, .ref (B + 0)), (1, .int (nI p)), (4, .int (nI (cnB (fun v => cbB (M 2 0) (M 5) (M 10) (M 11) (M 12) p (nI v) nn) 100))), (6, .int (nI (cnB (fun v => (fun v => cbB (M 2 0) (M 5) (M 10) (M 11) (M 12) p (nI v) nn) v && decide (nI v ≤ suR (M 2 0) (M 5) p i)) 100)))] (dk dtX7_test_1 29 rfl) rfl (nI_1 _) (by decide) rfl ?_
                    refine g_goto F 27 (dk dtX7_test_1 30 rfl) (by decide) ?_
                    refine g_sub [4, 5, 2, 1, 6, 0] (L1 := [(0, .ref (B + 0)), (1, .int (nI p)), (2, .int (nI i)), (3, .int (nI ((tsF (fun v => cbB (M 2 0) (M 5) (M 10) (M 11) (M 12) p (nI v) nn) (fun k => (fun v => (fun v => cbB (M 2 0) (M 5) (M 10) (M 11) (M 12) p (nI v) nn) v && decide (nI v ≤ suR (M 2 0) (M 5) p k))) i).2))), (4, .int (nI (cnB (fun v => cbB (M 2 0) (M 5) (M 10) (M 11) (M 12) p (nI v) nn) 100))), (5, .int (nI (i + 1)))]) rfl ?_
                    have hg : gtr (cnB (fun v => cbB (M 2 0) (M 5) (M 10) (M 11) (M 12) p (nI v) nn) 100) (cnB (fun v => (fun v => cbB (M 2 0) (M 5) (M 10) (M 11) (M 12) p (nI v) nn) v && decide (nI v ≤ suR (M 2 0) (M 5) p i)) 100) = cnB (fun v => cbB (M 2 0) (M 5) (M 10) (M 11) (M 12) p (nI v) nn) 100 - cnB (fun v => (fun v => cbB (M 2 0) (M 5) (M 10) (M 11) (M 12) p (nI v) nn) v && decide (nI v ≤ suR (M 2 0) (M 5) p i)) 100 := if_pos c123
                    have q1 : (nI i : Int32) = (tsF (fun v => cbB (M 2 0) (M 5) (M 10) (M 11) (M 12) p (nI v) nn) (fun k => (fun v => (fun v => cbB (M 2 0) (M 5) (M 10) (M 11) (M 12) p (nI v) nn) v && decide (nI v ≤ suR (M 2 0) (M 5) p k))) (i + 1)).1 := by rw [tsF_y _ _ (by rw [hg]; omega)]
                    have q2 : (nI ((tsF (fun v => cbB (M 2 0) (M 5) (M 10) (M 11) (M 12) p (nI v) nn) (fun k => (fun v => (fun v => cbB (M 2 0) (M 5) (M 10) (M 11) (M 12) p (nI v) nn) v && decide (nI v ≤ suR (M 2 0) (M 5) p k))) i).2) : Int32) = nI ((tsF (fun v => cbB (M 2 0) (M 5) (M 10) (M 11) (M 12) p (nI v) nn) (fun k => (fun v => (fun v => cbB (M 2 0) (M 5) (M 10) (M 11) (M 12) p (nI v) nn) v && decide (nI v ≤ suR (M 2 0) (M 5) p k))) (i + 1)).2) := by rw [tsF_n _ _ (by rw [hg]; omega)]
                    refine g_st (M1 := M) (L1 := [(0, .ref (B + 0)), (1, .int (nI p)), (2, .int ((tsF (fun v => cbB (M 2 0) (M 5) (M 10) (M 11) (M 12) p (nI v) nn) (fun k => (fun v => (fun v => cbB (M 2 0) (M 5) (M 10) (M 11) (M 12) p (nI v) nn) v && decide (nI v ≤ suR (M 2 0) (M 5) p k))) (i + 1)).1)), (3, .int (nI ((tsF (fun v => cbB (M 2 0) (M 5) (M 10) (M 11) (M 12) p (nI v) nn) (fun k => (fun v => (fun v => cbB (M 2 0) (M 5) (M 10) (M 11) (M 12) p (nI v) nn) v && decide (nI v ≤ suR (M 2 0) (M 5) p k))) (i + 1)).2))), (4, .int (nI (cnB (fun v => cbB (M 2 0) (M 5) (M 10) (M 11) (M 12) p (nI v) nn) 100))), (5, .int (nI (i + 1)))]) rfl (lc rfl (lc rfl (lc (vi q1) (lc (vi q2) rfl)))) rfl ?_
                    exact ih27 (i + 1) _ ⟨by omega, cnB_le _ 100, fun _ => rfl⟩ (by omega)
                  · -- not taken at 154
                    refine g_iload F 1 (dk dtX7_test_1 25 rfl) rfl ?_
                    refine g_goto F 163 (dk dtX7_test_1 26 rfl) (by decide) ?_
                    refine g_istore_n F [(3, .int (nI ((cnB (fun v => cbB (M 2 0) (M 5) (M 10) (M 11) (M 12) p (nI v) nn) 100) - (cnB (fun v => (fun v => cbB (M 2 0) (M 5) (M 10) (M 11) (M 12) p (nI v) nn) v && decide (nI v ≤ suR (M 2 0) (M 5) p i)) 100)))), (2, .int (nI i)), (7, .int (nI ((cnB (fun v => cbB (M 2 0) (M 5) (M 10) (M 11) (M 12) p (nI v) nn) 100) - (cnB (fun v => (fun v => cbB (M 2 0) (M 5) (M 10) (M 11) (M 12) p (nI v) nn) v && decide (nI v ≤ suR (M 2 0) (M 5) p i)) 100)))), (0, .ref (B + 0)), (1, .int (nI p)), (4, .int (nI (cnB (fun v => cbB (M 2 0) (M 5) (M 10) (M 11) (M 12) p (nI v) nn) 100))), (5, .int (nI i)), (6, .int (nI (cnB (fun v => (fun v => cbB (M 2 0) (M 5) (M 10) (M 11) (M 12) p (nI v) nn) v && decide (nI v ≤ suR (M 2 0) (M 5) p i)) 100)))] (dk dtX7_test_1 28 rfl) (by decide) rfl ?_
                    refine g_iinc F 6 (nI (i + 1)) [(5, .int (nI (i + 1))), (3, .int (nI ((cnB (fun v => cbB (M 2 0) (M 5) (M 10) (M 11) (M 12) p (nI v) nn) 100) - (cnB (fun v => (fun v => cbB (M 2 0) (M 5) (M 10) (M 11) (M 12) p (nI v) nn) v && decide (nI v ≤ suR (M 2 0) (M 5) p i)) 100)))), (2, .int (nI i)), (7, .int (nI ((cnB (fun v => cbB (M 2 0) (M 5) (M 10) (M 11) (M 12) p (nI v) nn) 100) - (cnB (fun v => (fun v => cbB (M 2 0) (M 5) (M 10) (M 11) (M 12) p (nI v) nn) v && decide (nI v ≤ suR (M 2 0) (M 5) p i)) 100)))), (0, .ref (B + 0)), (1, .int (nI p)), (4, .int (nI (cnB (fun v => cbB (M 2 0) (M 5) (M 10) (M 11) (M 12) p (nI v) nn) 100))), (6, .int (nI (cnB (fun v => (fun v => cbB (M 2 0) (M 5) (M 10) (M 11) (M 12) p (nI v) nn) v && decide (nI v ≤ suR (M 2 0) (M 5) p i)) 100)))] (dk dtX7_test_1 29 rfl) rfl (nI_1 _) (by decide) rfl ?_
                    refine g_goto F 27 (dk dtX7_test_1 30 rfl) (by decide) ?_
                    refine g_sub [4, 5, 2, 1, 6, 0] (L1 := [(0, .ref (B + 0)), (1, .int (nI p)), (2, .int (nI i)), (3, .int (nI ((cnB (fun v => cbB (M 2 0) (M 5) (M 10) (M 11) (M 12) p (nI v) nn) 100) - (cnB (fun v => (fun v => cbB (M 2 0) (M 5) (M 10) (M 11) (M 12) p (nI v) nn) v && decide (nI v ≤ suR (M 2 0) (M 5) p i)) 100)))), (4, .int (nI (cnB (fun v => cbB (M 2 0) (M 5) (M 10) (M 11) (M 12) p (nI v) nn) 100))), (5, .int (nI (i + 1)))]) rfl ?_
                    have hg : gtr (cnB (fun v => cbB (M 2 0) (M 5) (M 10) (M 11) (M 12) p (nI v) nn) 100) (cnB (fun v => (fun v => cbB (M 2 0) (M 5) (M 10) (M 11) (M 12) p (nI v) nn) v && decide (nI v ≤ suR (M 2 0) (M 5) p i)) 100) = cnB (fun v => cbB (M 2 0) (M 5) (M 10) (M 11) (M 12) p (nI v) nn) 100 - cnB (fun v => (fun v => cbB (M 2 0) (M 5) (M 10) (M 11) (M 12) p (nI v) nn) v && decide (nI v ≤ suR (M 2 0) (M 5) p i)) 100 := if_pos c123
                    have q1 : (nI i : Int32) = (tsF (fun v => cbB (M 2 0) (M 5) (M 10) (M 11) (M 12) p (nI v) nn) (fun k => (fun v => (fun v => cbB (M 2 0) (M 5) (M 10) (M 11) (M 12) p (nI v) nn) v && decide (nI v ≤ suR (M 2 0) (M 5) p k))) (i + 1)).1 := by rw [tsF_y _ _ (by rw [hg]; omega)]
                    have q2 : (nI ((cnB (fun v => cbB (M 2 0) (M 5) (M 10) (M 11) (M 12) p (nI v) nn) 100) - (cnB (fun v => (fun v => cbB (M 2 0) (M 5) (M 10) (M 11) (M 12) p (nI v) nn) v && decide (nI v ≤ suR (M 2 0) (M 5) p i)) 100)) : Int32) = nI ((tsF (fun v => cbB (M 2 0) (M 5) (M 10) (M 11) (M 12) p (nI v) nn) (fun k => (fun v => (fun v => cbB (M 2 0) (M 5) (M 10) (M 11) (M 12) p (nI v) nn) v && decide (nI v ≤ suR (M 2 0) (M 5) p k))) (i + 1)).2) := by rw [tsF_y _ _ (by rw [hg]; omega), hg]
                    refine g_st (M1 := M) (L1 := [(0, .ref (B + 0)), (1, .int (nI p)), (2, .int ((tsF (fun v => cbB (M 2 0) (M 5) (M 10) (M 11) (M 12) p (nI v) nn) (fun k => (fun v => (fun v => cbB (M 2 0) (M 5) (M 10) (M 11) (M 12) p (nI v) nn) v && decide (nI v ≤ suR (M 2 0) (M 5) p k))) (i + 1)).1)), (3, .int (nI ((tsF (fun v => cbB (M 2 0) (M 5) (M 10) (M 11) (M 12) p (nI v) nn) (fun k => (fun v => (fun v => cbB (M 2 0) (M 5) (M 10) (M 11) (M 12) p (nI v) nn) v && decide (nI v ≤ suR (M 2 0) (M 5) p k))) (i + 1)).2))), (4, .int (nI (cnB (fun v => cbB (M 2 0) (M 5) (M 10) (M 11) (M 12) p (nI v) nn) 100))), (5, .int (nI (i + 1)))]) rfl (lc rfl (lc rfl (lc (vi q1) (lc (vi q2) rfl)))) rfl ?_
                    exact ih27 (i + 1) _ ⟨by omega, cnB_le _ 100, fun _ => rfl⟩ (by omega)
              · -- not taken at 123
                refine g_iload F 6 (dk dtX7_test_1 9 rfl) rfl ?_
                refine g_goto F 136 (dk dtX7_test_1 10 rfl) (by decide) ?_
                refine g_istore F [(7, .int (nI (cnB (fun v => (fun v => cbB (M 2 0) (M 5) (M 10) (M 11) (M 12) p (nI v) nn) v && decide (nI v ≤ suR (M 2 0) (M 5) p i)) 100))), (0, .ref (B + 0)), (1, .int (nI p)), (2, .int ((tsF (fun v => cbB (M 2 0) (M 5) (M 10) (M 11) (M 12) p (nI v) nn) (fun k => (fun v => (fun v => cbB (M 2 0) (M 5) (M 10) (M 11) (M 12) p (nI v) nn) v && decide (nI v ≤ suR (M 2 0) (M 5) p k))) i).1)), (3, .int (nI ((tsF (fun v => cbB (M 2 0) (M 5) (M 10) (M 11) (M 12) p (nI v) nn) (fun k => (fun v => (fun v => cbB (M 2 0) (M 5) (M 10) (M 11) (M 12) p (nI v) nn) v && decide (nI v ≤ suR (M 2 0) (M 5) p k))) i).2))), (4, .int (nI (cnB (fun v => cbB (M 2 0) (M 5) (M 10) (M 11) (M 12) p (nI v) nn) 100))), (5, .int (nI i)), (6, .int (nI (cnB (fun v => (fun v => cbB (M 2 0) (M 5) (M 10) (M 11) (M 12) p (nI v) nn) v && decide (nI v ≤ suR (M 2 0) (M 5) p i)) 100)))] (dk dtX7_test_1 14 rfl) (by decide) rfl ?_
                refine g_iload F 0 (dk dtX7_test_1 15 rfl) rfl ?_
                refine g_iload_n F 4 (dk dtX7_test_1 16 rfl) rfl ?_
                refine g_icmp_geN F 149 (dk dtX7_test_1 17 rfl) (by decide) (by omega) (by omega) (fun c141 => ?_) (fun c141 => ?_)
                · -- taken at 141
                  refine g_iload_n F 3 (dk dtX7_test_1 20 rfl) rfl ?_
                  refine g_istore_n F [(2, .int ((tsF (fun v => cbB (M 2 0) (M 5) (M 10) (M 11) (M 12) p (nI v) nn) (fun k => (fun v => (fun v => cbB (M 2 0) (M 5) (M 10) (M 11) (M 12) p (nI v) nn) v && decide (nI v ≤ suR (M 2 0) (M 5) p k))) i).1)), (7, .int (nI (cnB (fun v => (fun v => cbB (M 2 0) (M 5) (M 10) (M 11) (M 12) p (nI v) nn) v && decide (nI v ≤ suR (M 2 0) (M 5) p i)) 100))), (0, .ref (B + 0)), (1, .int (nI p)), (3, .int (nI ((tsF (fun v => cbB (M 2 0) (M 5) (M 10) (M 11) (M 12) p (nI v) nn) (fun k => (fun v => (fun v => cbB (M 2 0) (M 5) (M 10) (M 11) (M 12) p (nI v) nn) v && decide (nI v ≤ suR (M 2 0) (M 5) p k))) i).2))), (4, .int (nI (cnB (fun v => cbB (M 2 0) (M 5) (M 10) (M 11) (M 12) p (nI v) nn) 100))), (5, .int (nI i)), (6, .int (nI (cnB (fun v => (fun v => cbB (M 2 0) (M 5) (M 10) (M 11) (M 12) p (nI v) nn) v && decide (nI v ≤ suR (M 2 0) (M 5) p i)) 100)))] (dk dtX7_test_1 21 rfl) (by decide) rfl ?_
                  refine g_iload F 1 (dk dtX7_test_1 22 rfl) rfl ?_
                  refine g_iload_n F 4 (dk dtX7_test_1 23 rfl) rfl ?_
                  refine g_icmp_geN F 162 (dk dtX7_test_1 24 rfl) (by decide) (by omega) (by omega) (fun c154 => ?_) (fun c154 => ?_)
                  · -- taken at 154
                    refine g_iload_n F 4 (dk dtX7_test_1 27 rfl) rfl ?_
                    refine g_istore_n F [(3, .int (nI ((tsF (fun v => cbB (M 2 0) (M 5) (M 10) (M 11) (M 12) p (nI v) nn) (fun k => (fun v => (fun v => cbB (M 2 0) (M 5) (M 10) (M 11) (M 12) p (nI v) nn) v && decide (nI v ≤ suR (M 2 0) (M 5) p k))) i).2))), (2, .int ((tsF (fun v => cbB (M 2 0) (M 5) (M 10) (M 11) (M 12) p (nI v) nn) (fun k => (fun v => (fun v => cbB (M 2 0) (M 5) (M 10) (M 11) (M 12) p (nI v) nn) v && decide (nI v ≤ suR (M 2 0) (M 5) p k))) i).1)), (7, .int (nI (cnB (fun v => (fun v => cbB (M 2 0) (M 5) (M 10) (M 11) (M 12) p (nI v) nn) v && decide (nI v ≤ suR (M 2 0) (M 5) p i)) 100))), (0, .ref (B + 0)), (1, .int (nI p)), (4, .int (nI (cnB (fun v => cbB (M 2 0) (M 5) (M 10) (M 11) (M 12) p (nI v) nn) 100))), (5, .int (nI i)), (6, .int (nI (cnB (fun v => (fun v => cbB (M 2 0) (M 5) (M 10) (M 11) (M 12) p (nI v) nn) v && decide (nI v ≤ suR (M 2 0) (M 5) p i)) 100)))] (dk dtX7_test_1 28 rfl) (by decide) rfl ?_
                    refine g_iinc F 6 (nI (i + 1)) [(5, .int (nI (i + 1))), (3, .int (nI ((tsF (fun v => cbB (M 2 0) (M 5) (M 10) (M 11) (M 12) p (nI v) nn) (fun k => (fun v => (fun v => cbB (M 2 0) (M 5) (M 10) (M 11) (M 12) p (nI v) nn) v && decide (nI v ≤ suR (M 2 0) (M 5) p k))) i).2))), (2, .int ((tsF (fun v => cbB (M 2 0) (M 5) (M 10) (M 11) (M 12) p (nI v) nn) (fun k => (fun v => (fun v => cbB (M 2 0) (M 5) (M 10) (M 11) (M 12) p (nI v) nn) v && decide (nI v ≤ suR (M 2 0) (M 5) p k))) i).1)), (7, .int (nI (cnB (fun v => (fun v => cbB (M 2 0) (M 5) (M 10) (M 11) (M 12) p (nI v) nn) v && decide (nI v ≤ suR (M 2 0) (M 5) p i)) 100))), (0, .ref (B + 0)), (1, .int (nI p)), (4, .int (nI (cnB (fun v => cbB (M 2 0) (M 5) (M 10) (M 11) (M 12) p (nI v) nn) 100))), (6, .int (nI (cnB (fun v => (fun v => cbB (M 2 0) (M 5) (M 10) (M 11) (M 12) p (nI v) nn) v && decide (nI v ≤ suR (M 2 0) (M 5) p i)) 100)))] (dk dtX7_test_1 29 rfl) rfl (nI_1 _) (by decide) rfl ?_
                    refine g_goto F 27 (dk dtX7_test_1 30 rfl) (by decide) ?_
                    refine g_sub [4, 5, 2, 1, 6, 0] (L1 := [(0, .ref (B + 0)), (1, .int (nI p)), (2, .int ((tsF (fun v => cbB (M 2 0) (M 5) (M 10) (M 11) (M 12) p (nI v) nn) (fun k => (fun v => (fun v => cbB (M 2 0) (M 5) (M 10) (M 11) (M 12) p (nI v) nn) v && decide (nI v ≤ suR (M 2 0) (M 5) p k))) i).1)), (3, .int (nI ((tsF (fun v => cbB (M 2 0) (M 5) (M 10) (M 11) (M 12) p (nI v) nn) (fun k => (fun v => (fun v => cbB (M 2 0) (M 5) (M 10) (M 11) (M 12) p (nI v) nn) v && decide (nI v ≤ suR (M 2 0) (M 5) p k))) i).2))), (4, .int (nI (cnB (fun v => cbB (M 2 0) (M 5) (M 10) (M 11) (M 12) p (nI v) nn) 100))), (5, .int (nI (i + 1)))]) rfl ?_
                    have hg : gtr (cnB (fun v => cbB (M 2 0) (M 5) (M 10) (M 11) (M 12) p (nI v) nn) 100) (cnB (fun v => (fun v => cbB (M 2 0) (M 5) (M 10) (M 11) (M 12) p (nI v) nn) v && decide (nI v ≤ suR (M 2 0) (M 5) p i)) 100) = cnB (fun v => (fun v => cbB (M 2 0) (M 5) (M 10) (M 11) (M 12) p (nI v) nn) v && decide (nI v ≤ suR (M 2 0) (M 5) p i)) 100 := if_neg c123
                    have q1 : ((tsF (fun v => cbB (M 2 0) (M 5) (M 10) (M 11) (M 12) p (nI v) nn) (fun k => (fun v => (fun v => cbB (M 2 0) (M 5) (M 10) (M 11) (M 12) p (nI v) nn) v && decide (nI v ≤ suR (M 2 0) (M 5) p k))) i).1 : Int32) = (tsF (fun v => cbB (M 2 0) (M 5) (M 10) (M 11) (M 12) p (nI v) nn) (fun k => (fun v => (fun v => cbB (M 2 0) (M 5) (M 10) (M 11) (M 12) p (nI v) nn) v && decide (nI v ≤ suR (M 2 0) (M 5) p k))) (i + 1)).1 := by rw [tsF_n _ _ (by rw [hg]; omega)]
                    have q2 : (nI ((tsF (fun v => cbB (M 2 0) (M 5) (M 10) (M 11) (M 12) p (nI v) nn) (fun k => (fun v => (fun v => cbB (M 2 0) (M 5) (M 10) (M 11) (M 12) p (nI v) nn) v && decide (nI v ≤ suR (M 2 0) (M 5) p k))) i).2) : Int32) = nI ((tsF (fun v => cbB (M 2 0) (M 5) (M 10) (M 11) (M 12) p (nI v) nn) (fun k => (fun v => (fun v => cbB (M 2 0) (M 5) (M 10) (M 11) (M 12) p (nI v) nn) v && decide (nI v ≤ suR (M 2 0) (M 5) p k))) (i + 1)).2) := by rw [tsF_n _ _ (by rw [hg]; omega)]
                    refine g_st (M1 := M) (L1 := [(0, .ref (B + 0)), (1, .int (nI p)), (2, .int ((tsF (fun v => cbB (M 2 0) (M 5) (M 10) (M 11) (M 12) p (nI v) nn) (fun k => (fun v => (fun v => cbB (M 2 0) (M 5) (M 10) (M 11) (M 12) p (nI v) nn) v && decide (nI v ≤ suR (M 2 0) (M 5) p k))) (i + 1)).1)), (3, .int (nI ((tsF (fun v => cbB (M 2 0) (M 5) (M 10) (M 11) (M 12) p (nI v) nn) (fun k => (fun v => (fun v => cbB (M 2 0) (M 5) (M 10) (M 11) (M 12) p (nI v) nn) v && decide (nI v ≤ suR (M 2 0) (M 5) p k))) (i + 1)).2))), (4, .int (nI (cnB (fun v => cbB (M 2 0) (M 5) (M 10) (M 11) (M 12) p (nI v) nn) 100))), (5, .int (nI (i + 1)))]) rfl (lc rfl (lc rfl (lc (vi q1) (lc (vi q2) rfl)))) rfl ?_
                    exact ih27 (i + 1) _ ⟨by omega, cnB_le _ 100, fun _ => rfl⟩ (by omega)
                  · -- not taken at 154
                    refine g_iload F 1 (dk dtX7_test_1 25 rfl) rfl ?_
                    refine g_goto F 163 (dk dtX7_test_1 26 rfl) (by decide) ?_
                    refine g_istore_n F [(3, .int (nI (cnB (fun v => (fun v => cbB (M 2 0) (M 5) (M 10) (M 11) (M 12) p (nI v) nn) v && decide (nI v ≤ suR (M 2 0) (M 5) p i)) 100))), (2, .int ((tsF (fun v => cbB (M 2 0) (M 5) (M 10) (M 11) (M 12) p (nI v) nn) (fun k => (fun v => (fun v => cbB (M 2 0) (M 5) (M 10) (M 11) (M 12) p (nI v) nn) v && decide (nI v ≤ suR (M 2 0) (M 5) p k))) i).1)), (7, .int (nI (cnB (fun v => (fun v => cbB (M 2 0) (M 5) (M 10) (M 11) (M 12) p (nI v) nn) v && decide (nI v ≤ suR (M 2 0) (M 5) p i)) 100))), (0, .ref (B + 0)), (1, .int (nI p)), (4, .int (nI (cnB (fun v => cbB (M 2 0) (M 5) (M 10) (M 11) (M 12) p (nI v) nn) 100))), (5, .int (nI i)), (6, .int (nI (cnB (fun v => (fun v => cbB (M 2 0) (M 5) (M 10) (M 11) (M 12) p (nI v) nn) v && decide (nI v ≤ suR (M 2 0) (M 5) p i)) 100)))] (dk dtX7_test_1 28 rfl) (by decide) rfl ?_
                    refine g_iinc F 6 (nI (i + 1)) [(5, .int (nI (i + 1))), (3, .int (nI (cnB (fun v => (fun v => cbB (M 2 0) (M 5) (M 10) (M 11) (M 12) p (nI v) nn) v && decide (nI v ≤ suR (M 2 0) (M 5) p i)) 100))), (2, .int ((tsF (fun v => cbB (M 2 0) (M 5) (M 10) (M 11) (M 12) p (nI v) nn) (fun k => (fun v => (fun v => cbB (M 2 0) (M 5) (M 10) (M 11) (M 12) p (nI v) nn) v && decide (nI v ≤ suR (M 2 0) (M 5) p k))) i).1)), (7, .int (nI (cnB (fun v => (fun v => cbB (M 2 0) (M 5) (M 10) (M 11) (M 12) p (nI v) nn) v && decide (nI v ≤ suR (M 2 0) (M 5) p i)) 100))), (0, .ref (B + 0)), (1, .int (nI p)), (4, .int (nI (cnB (fun v => cbB (M 2 0) (M 5) (M 10) (M 11) (M 12) p (nI v) nn) 100))), (6, .int (nI (cnB (fun v => (fun v => cbB (M 2 0) (M 5) (M 10) (M 11) (M 12) p (nI v) nn) v && decide (nI v ≤ suR (M 2 0) (M 5) p i)) 100)))] (dk dtX7_test_1 29 rfl) rfl (nI_1 _) (by decide) rfl ?_
                    refine g_goto F 27 (dk dtX7_test_1 30 rfl) (by decide) ?_
                    refine g_sub [4, 5, 2, 1, 6, 0] (L1 := [(0, .ref (B + 0)), (1, .int (nI p)), (2, .int ((tsF (fun v => cbB (M 2 0) (M 5) (M 10) (M 11) (M 12) p (nI v) nn) (fun k => (fun v => (fun v => cbB (M 2 0) (M 5) (M 10) (M 11) (M 12) p (nI v) nn) v && decide (nI v ≤ suR (M 2 0) (M 5) p k))) i).1)), (3, .int (nI (cnB (fun v => (fun v => cbB (M 2 0) (M 5) (M 10) (M 11) (M 12) p (nI v) nn) v && decide (nI v ≤ suR (M 2 0) (M 5) p i)) 100))), (4, .int (nI (cnB (fun v => cbB (M 2 0) (M 5) (M 10) (M 11) (M 12) p (nI v) nn) 100))), (5, .int (nI (i + 1)))]) rfl ?_
                    have hg : gtr (cnB (fun v => cbB (M 2 0) (M 5) (M 10) (M 11) (M 12) p (nI v) nn) 100) (cnB (fun v => (fun v => cbB (M 2 0) (M 5) (M 10) (M 11) (M 12) p (nI v) nn) v && decide (nI v ≤ suR (M 2 0) (M 5) p i)) 100) = cnB (fun v => (fun v => cbB (M 2 0) (M 5) (M 10) (M 11) (M 12) p (nI v) nn) v && decide (nI v ≤ suR (M 2 0) (M 5) p i)) 100 := if_neg c123
                    have q1 : ((tsF (fun v => cbB (M 2 0) (M 5) (M 10) (M 11) (M 12) p (nI v) nn) (fun k => (fun v => (fun v => cbB (M 2 0) (M 5) (M 10) (M 11) (M 12) p (nI v) nn) v && decide (nI v ≤ suR (M 2 0) (M 5) p k))) i).1 : Int32) = (tsF (fun v => cbB (M 2 0) (M 5) (M 10) (M 11) (M 12) p (nI v) nn) (fun k => (fun v => (fun v => cbB (M 2 0) (M 5) (M 10) (M 11) (M 12) p (nI v) nn) v && decide (nI v ≤ suR (M 2 0) (M 5) p k))) (i + 1)).1 := by rw [tsF_n _ _ (by rw [hg]; omega)]
                    have q2 : (nI (cnB (fun v => (fun v => cbB (M 2 0) (M 5) (M 10) (M 11) (M 12) p (nI v) nn) v && decide (nI v ≤ suR (M 2 0) (M 5) p i)) 100) : Int32) = nI ((tsF (fun v => cbB (M 2 0) (M 5) (M 10) (M 11) (M 12) p (nI v) nn) (fun k => (fun v => (fun v => cbB (M 2 0) (M 5) (M 10) (M 11) (M 12) p (nI v) nn) v && decide (nI v ≤ suR (M 2 0) (M 5) p k))) (i + 1)).2) := by rw [tsF_y _ _ (by rw [hg]; omega), hg]
                    refine g_st (M1 := M) (L1 := [(0, .ref (B + 0)), (1, .int (nI p)), (2, .int ((tsF (fun v => cbB (M 2 0) (M 5) (M 10) (M 11) (M 12) p (nI v) nn) (fun k => (fun v => (fun v => cbB (M 2 0) (M 5) (M 10) (M 11) (M 12) p (nI v) nn) v && decide (nI v ≤ suR (M 2 0) (M 5) p k))) (i + 1)).1)), (3, .int (nI ((tsF (fun v => cbB (M 2 0) (M 5) (M 10) (M 11) (M 12) p (nI v) nn) (fun k => (fun v => (fun v => cbB (M 2 0) (M 5) (M 10) (M 11) (M 12) p (nI v) nn) v && decide (nI v ≤ suR (M 2 0) (M 5) p k))) (i + 1)).2))), (4, .int (nI (cnB (fun v => cbB (M 2 0) (M 5) (M 10) (M 11) (M 12) p (nI v) nn) 100))), (5, .int (nI (i + 1)))]) rfl (lc rfl (lc rfl (lc (vi q1) (lc (vi q2) rfl)))) rfl ?_
                    exact ih27 (i + 1) _ ⟨by omega, cnB_le _ 100, fun _ => rfl⟩ (by omega)
                · -- not taken at 141
                  refine g_iload F 6 (dk dtX7_test_1 18 rfl) rfl ?_
                  refine g_goto F 150 (dk dtX7_test_1 19 rfl) (by decide) ?_
                  refine g_istore_n F [(2, .int (nI i)), (7, .int (nI (cnB (fun v => (fun v => cbB (M 2 0) (M 5) (M 10) (M 11) (M 12) p (nI v) nn) v && decide (nI v ≤ suR (M 2 0) (M 5) p i)) 100))), (0, .ref (B + 0)), (1, .int (nI p)), (3, .int (nI ((tsF (fun v => cbB (M 2 0) (M 5) (M 10) (M 11) (M 12) p (nI v) nn) (fun k => (fun v => (fun v => cbB (M 2 0) (M 5) (M 10) (M 11) (M 12) p (nI v) nn) v && decide (nI v ≤ suR (M 2 0) (M 5) p k))) i).2))), (4, .int (nI (cnB (fun v => cbB (M 2 0) (M 5) (M 10) (M 11) (M 12) p (nI v) nn) 100))), (5, .int (nI i)), (6, .int (nI (cnB (fun v => (fun v => cbB (M 2 0) (M 5) (M 10) (M 11) (M 12) p (nI v) nn) v && decide (nI v ≤ suR (M 2 0) (M 5) p i)) 100)))] (dk dtX7_test_1 21 rfl) (by decide) rfl ?_
                  refine g_iload F 1 (dk dtX7_test_1 22 rfl) rfl ?_
                  refine g_iload_n F 4 (dk dtX7_test_1 23 rfl) rfl ?_
                  refine g_icmp_geN F 162 (dk dtX7_test_1 24 rfl) (by decide) (by omega) (by omega) (fun c154 => ?_) (fun c154 => ?_)
                  · -- taken at 154
                    refine g_iload_n F 4 (dk dtX7_test_1 27 rfl) rfl ?_
                    refine g_istore_n F [(3, .int (nI ((tsF (fun v => cbB (M 2 0) (M 5) (M 10) (M 11) (M 12) p (nI v) nn) (fun k => (fun v => (fun v => cbB (M 2 0) (M 5) (M 10) (M 11) (M 12) p (nI v) nn) v && decide (nI v ≤ suR (M 2 0) (M 5) p k))) i).2))), (2, .int (nI i)), (7, .int (nI (cnB (fun v => (fun v => cbB (M 2 0) (M 5) (M 10) (M 11) (M 12) p (nI v) nn) v && decide (nI v ≤ suR (M 2 0) (M 5) p i)) 100))), (0, .ref (B + 0)), (1, .int (nI p)), (4, .int (nI (cnB (fun v => cbB (M 2 0) (M 5) (M 10) (M 11) (M 12) p (nI v) nn) 100))), (5, .int (nI i)), (6, .int (nI (cnB (fun v => (fun v => cbB (M 2 0) (M 5) (M 10) (M 11) (M 12) p (nI v) nn) v && decide (nI v ≤ suR (M 2 0) (M 5) p i)) 100)))] (dk dtX7_test_1 28 rfl) (by decide) rfl ?_
                    refine g_iinc F 6 (nI (i + 1)) [(5, .int (nI (i + 1))), (3, .int (nI ((tsF (fun v => cbB (M 2 0) (M 5) (M 10) (M 11) (M 12) p (nI v) nn) (fun k => (fun v => (fun v => cbB (M 2 0) (M 5) (M 10) (M 11) (M 12) p (nI v) nn) v && decide (nI v ≤ suR (M 2 0) (M 5) p k))) i).2))), (2, .int (nI i)), (7, .int (nI (cnB (fun v => (fun v => cbB (M 2 0) (M 5) (M 10) (M 11) (M 12) p (nI v) nn) v && decide (nI v ≤ suR (M 2 0) (M 5) p i)) 100))), (0, .ref (B + 0)), (1, .int (nI p)), (4, .int (nI (cnB (fun v => cbB (M 2 0) (M 5) (M 10) (M 11) (M 12) p (nI v) nn) 100))), (6, .int (nI (cnB (fun v => (fun v => cbB (M 2 0) (M 5) (M 10) (M 11) (M 12) p (nI v) nn) v && decide (nI v ≤ suR (M 2 0) (M 5) p i)) 100)))] (dk dtX7_test_1 29 rfl) rfl (nI_1 _) (by decide) rfl ?_
                    refine g_goto F 27 (dk dtX7_test_1 30 rfl) (by decide) ?_
                    refine g_sub [4, 5, 2, 1, 6, 0] (L1 := [(0, .ref (B + 0)), (1, .int (nI p)), (2, .int (nI i)), (3, .int (nI ((tsF (fun v => cbB (M 2 0) (M 5) (M 10) (M 11) (M 12) p (nI v) nn) (fun k => (fun v => (fun v => cbB (M 2 0) (M 5) (M 10) (M 11) (M 12) p (nI v) nn) v && decide (nI v ≤ suR (M 2 0) (M 5) p k))) i).2))), (4, .int (nI (cnB (fun v => cbB (M 2 0) (M 5) (M 10) (M 11) (M 12) p (nI v) nn) 100))), (5, .int (nI (i + 1)))]) rfl ?_
                    have hg : gtr (cnB (fun v => cbB (M 2 0) (M 5) (M 10) (M 11) (M 12) p (nI v) nn) 100) (cnB (fun v => (fun v => cbB (M 2 0) (M 5) (M 10) (M 11) (M 12) p (nI v) nn) v && decide (nI v ≤ suR (M 2 0) (M 5) p i)) 100) = cnB (fun v => (fun v => cbB (M 2 0) (M 5) (M 10) (M 11) (M 12) p (nI v) nn) v && decide (nI v ≤ suR (M 2 0) (M 5) p i)) 100 := if_neg c123
                    have q1 : (nI i : Int32) = (tsF (fun v => cbB (M 2 0) (M 5) (M 10) (M 11) (M 12) p (nI v) nn) (fun k => (fun v => (fun v => cbB (M 2 0) (M 5) (M 10) (M 11) (M 12) p (nI v) nn) v && decide (nI v ≤ suR (M 2 0) (M 5) p k))) (i + 1)).1 := by rw [tsF_y _ _ (by rw [hg]; omega)]
                    have q2 : (nI ((tsF (fun v => cbB (M 2 0) (M 5) (M 10) (M 11) (M 12) p (nI v) nn) (fun k => (fun v => (fun v => cbB (M 2 0) (M 5) (M 10) (M 11) (M 12) p (nI v) nn) v && decide (nI v ≤ suR (M 2 0) (M 5) p k))) i).2) : Int32) = nI ((tsF (fun v => cbB (M 2 0) (M 5) (M 10) (M 11) (M 12) p (nI v) nn) (fun k => (fun v => (fun v => cbB (M 2 0) (M 5) (M 10) (M 11) (M 12) p (nI v) nn) v && decide (nI v ≤ suR (M 2 0) (M 5) p k))) (i + 1)).2) := by rw [tsF_n _ _ (by rw [hg]; omega)]
                    refine g_st (M1 := M) (L1 := [(0, .ref (B + 0)), (1, .int (nI p)), (2, .int ((tsF (fun v => cbB (M 2 0) (M 5) (M 10) (M 11) (M 12) p (nI v) nn) (fun k => (fun v => (fun v => cbB (M 2 0) (M 5) (M 10) (M 11) (M 12) p (nI v) nn) v && decide (nI v ≤ suR (M 2 0) (M 5) p k))) (i + 1)).1)), (3, .int (nI ((tsF (fun v => cbB (M 2 0) (M 5) (M 10) (M 11) (M 12) p (nI v) nn) (fun k => (fun v => (fun v => cbB (M 2 0) (M 5) (M 10) (M 11) (M 12) p (nI v) nn) v && decide (nI v ≤ suR (M 2 0) (M 5) p k))) (i + 1)).2))), (4, .int (nI (cnB (fun v => cbB (M 2 0) (M 5) (M 10) (M 11) (M 12) p (nI v) nn) 100))), (5, .int (nI (i + 1)))]) rfl (lc rfl (lc rfl (lc (vi q1) (lc (vi q2) rfl)))) rfl ?_
                    exact ih27 (i + 1) _ ⟨by omega, cnB_le _ 100, fun _ => rfl⟩ (by omega)
                  · -- not taken at 154
                    refine g_iload F 1 (dk dtX7_test_1 25 rfl) rfl ?_
                    refine g_goto F 163 (dk dtX7_test_1 26 rfl) (by decide) ?_
                    refine g_istore_n F [(3, .int (nI (cnB (fun v => (fun v => cbB (M 2 0) (M 5) (M 10) (M 11) (M 12) p (nI v) nn) v && decide (nI v ≤ suR (M 2 0) (M 5) p i)) 100))), (2, .int (nI i)), (7, .int (nI (cnB (fun v => (fun v => cbB (M 2 0) (M 5) (M 10) (M 11) (M 12) p (nI v) nn) v && decide (nI v ≤ suR (M 2 0) (M 5) p i)) 100))), (0, .ref (B + 0)), (1, .int (nI p)), (4, .int (nI (cnB (fun v => cbB (M 2 0) (M 5) (M 10) (M 11) (M 12) p (nI v) nn) 100))), (5, .int (nI i)), (6, .int (nI (cnB (fun v => (fun v => cbB (M 2 0) (M 5) (M 10) (M 11) (M 12) p (nI v) nn) v && decide (nI v ≤ suR (M 2 0) (M 5) p i)) 100)))] (dk dtX7_test_1 28 rfl) (by decide) rfl ?_
                    refine g_iinc F 6 (nI (i + 1)) [(5, .int (nI (i + 1))), (3, .int (nI (cnB (fun v => (fun v => cbB (M 2 0) (M 5) (M 10) (M 11) (M 12) p (nI v) nn) v && decide (nI v ≤ suR (M 2 0) (M 5) p i)) 100))), (2, .int (nI i)), (7, .int (nI (cnB (fun v => (fun v => cbB (M 2 0) (M 5) (M 10) (M 11) (M 12) p (nI v) nn) v && decide (nI v ≤ suR (M 2 0) (M 5) p i)) 100))), (0, .ref (B + 0)), (1, .int (nI p)), (4, .int (nI (cnB (fun v => cbB (M 2 0) (M 5) (M 10) (M 11) (M 12) p (nI v) nn) 100))), (6, .int (nI (cnB (fun v => (fun v => cbB (M 2 0) (M 5) (M 10) (M 11) (M 12) p (nI v) nn) v && decide (nI v ≤ suR (M 2 0) (M 5) p i)) 100)))] (dk dtX7_test_1 29 rfl) rfl (nI_1 _) (by decide) rfl ?_
                    refine g_goto F 27 (dk dtX7_test_1 30 rfl) (by decide) ?_
                    refine g_sub [4, 5, 2, 1, 6, 0] (L1 := [(0, .ref (B + 0)), (1, .int (nI p)), (2, .int (nI i)), (3, .int (nI (cnB (fun v => (fun v => cbB (M 2 0) (M 5) (M 10) (M 11) (M 12) p (nI v) nn) v && decide (nI v ≤ suR (M 2 0) (M 5) p i)) 100))), (4, .int (nI (cnB (fun v => cbB (M 2 0) (M 5) (M 10) (M 11) (M 12) p (nI v) nn) 100))), (5, .int (nI (i + 1)))]) rfl ?_
                    have hg : gtr (cnB (fun v => cbB (M 2 0) (M 5) (M 10) (M 11) (M 12) p (nI v) nn) 100) (cnB (fun v => (fun v => cbB (M 2 0) (M 5) (M 10) (M 11) (M 12) p (nI v) nn) v && decide (nI v ≤ suR (M 2 0) (M 5) p i)) 100) = cnB (fun v => (fun v => cbB (M 2 0) (M 5) (M 10) (M 11) (M 12) p (nI v) nn) v && decide (nI v ≤ suR (M 2 0) (M 5) p i)) 100 := if_neg c123
                    have q1 : (nI i : Int32) = (tsF (fun v => cbB (M 2 0) (M 5) (M 10) (M 11) (M 12) p (nI v) nn) (fun k => (fun v => (fun v => cbB (M 2 0) (M 5) (M 10) (M 11) (M 12) p (nI v) nn) v && decide (nI v ≤ suR (M 2 0) (M 5) p k))) (i + 1)).1 := by rw [tsF_y _ _ (by rw [hg]; omega)]
                    have q2 : (nI (cnB (fun v => (fun v => cbB (M 2 0) (M 5) (M 10) (M 11) (M 12) p (nI v) nn) v && decide (nI v ≤ suR (M 2 0) (M 5) p i)) 100) : Int32) = nI ((tsF (fun v => cbB (M 2 0) (M 5) (M 10) (M 11) (M 12) p (nI v) nn) (fun k => (fun v => (fun v => cbB (M 2 0) (M 5) (M 10) (M 11) (M 12) p (nI v) nn) v && decide (nI v ≤ suR (M 2 0) (M 5) p k))) (i + 1)).2) := by rw [tsF_y _ _ (by rw [hg]; omega), hg]
                    refine g_st (M1 := M) (L1 := [(0, .ref (B + 0)), (1, .int (nI p)), (2, .int ((tsF (fun v => cbB (M 2 0) (M 5) (M 10) (M 11) (M 12) p (nI v) nn) (fun k => (fun v => (fun v => cbB (M 2 0) (M 5) (M 10) (M 11) (M 12) p (nI v) nn) v && decide (nI v ≤ suR (M 2 0) (M 5) p k))) (i + 1)).1)), (3, .int (nI ((tsF (fun v => cbB (M 2 0) (M 5) (M 10) (M 11) (M 12) p (nI v) nn) (fun k => (fun v => (fun v => cbB (M 2 0) (M 5) (M 10) (M 11) (M 12) p (nI v) nn) v && decide (nI v ≤ suR (M 2 0) (M 5) p k))) (i + 1)).2))), (4, .int (nI (cnB (fun v => cbB (M 2 0) (M 5) (M 10) (M 11) (M 12) p (nI v) nn) 100))), (5, .int (nI (i + 1)))]) rfl (lc rfl (lc rfl (lc (vi q1) (lc (vi q2) rfl)))) rfl ?_
                    exact ih27 (i + 1) _ ⟨by omega, cnB_le _ 100, fun _ => rfl⟩ (by omega)
            · -- not taken at 51
              refine g_iload F 4 (dk dtX7_test_0 32 rfl) rfl ?_
              refine g_aload_n F 0 (dk dtX7_test_0 33 rfl) rfl ?_
              refine g_iload_n F 1 (dk dtX7_test_0 34 rfl) rfl ?_
              refine g_iload F 7 (dk dtX7_test_0 35 rfl) rfl ?_
              refine g_callVi F (As := [.int (nI p), .int (nI j)]) (st := [.int (nI (cnB (fun v => cbB (M 2 0) (M 5) (M 10) (M 11) (M 12) p (nI v) nn) j))]) cv_X7_179 (dk dtX7_test_0 36 rfl) (by decide) (cm0 D B _ _) rfl rfl (Nat.le_of_ble_eq_true rfl) ⟨by decide, by decide⟩ (k_X7_canBe l D B _ _ K hK hK1 hK4 nn hnn hnn6 hN hW p j (by omega) (by omega)) (fun r60 T60 M60 hp60 => ?_)
              obtain ⟨e1, e2, e3⟩ := hp60
              replace e1 := e1.symm; replace e2 := e2.symm; replace e3 := e3.symm; subst e1; subst e2; subst e3
              refine g_if_eqB F 70 (dk dtX7_test_0 37 rfl) (by decide) (fun c63 => ?_) (fun c63 => ?_)
              · -- taken at 63
                refine g_iconst F (nI 0) (dk dtX7_test_0 40 rfl) (by decide) ?_
                refine g_iaddN F (dk dtX7_test_0 41 rfl) ?_
                refine g_istore F [(4, .int (nI ((cnB (fun v => cbB (M 2 0) (M 5) (M 10) (M 11) (M 12) p (nI v) nn) j) + 0))), (0, .ref (B + 0)), (1, .int (nI p)), (2, .int ((tsF (fun v => cbB (M 2 0) (M 5) (M 10) (M 11) (M 12) p (nI v) nn) (fun k => (fun v => (fun v => cbB (M 2 0) (M 5) (M 10) (M 11) (M 12) p (nI v) nn) v && decide (nI v ≤ suR (M 2 0) (M 5) p k))) i).1)), (3, .int (nI ((tsF (fun v => cbB (M 2 0) (M 5) (M 10) (M 11) (M 12) p (nI v) nn) (fun k => (fun v => (fun v => cbB (M 2 0) (M 5) (M 10) (M 11) (M 12) p (nI v) nn) v && decide (nI v ≤ suR (M 2 0) (M 5) p k))) i).2))), (5, .int (nI i)), (6, .int (nI (cnB (fun v => (fun v => cbB (M 2 0) (M 5) (M 10) (M 11) (M 12) p (nI v) nn) v && decide (nI v ≤ suR (M 2 0) (M 5) p i)) j))), (7, .int (nI j))] (dk dtX7_test_0 42 rfl) (by decide) rfl ?_
                refine g_iload F 6 (dk dtX7_test_0 43 rfl) rfl ?_
                refine g_aload_n F 1 (dk dtX7_test_0 44 rfl) rfl ?_
                refine g_iload_n F 2 (dk dtX7_test_0 45 rfl) rfl ?_
                refine g_iload F 7 (dk dtX7_test_0 46 rfl) rfl ?_
                refine g_callVi F (As := [.int (nI p), .int (nI j)]) (st := [.int (nI (cnB (fun v => (fun v => cbB (M 2 0) (M 5) (M 10) (M 11) (M 12) p (nI v) nn) v && decide (nI v ≤ suR (M 2 0) (M 5) p i)) j))]) cv_X7_179 (dk dtX7_test_0 47 rfl) (by decide) (cm0 D B _ _) rfl rfl (Nat.le_of_ble_eq_true rfl) ⟨by decide, by decide⟩ (k_X7_canBe l D B _ _ K hK hK1 hK4 nn hnn hnn6 hN hW p j (by omega) (by omega)) (fun r80 T80 M80 hp80 => ?_)
                obtain ⟨e1, e2, e3⟩ := hp80
                replace e1 := e1.symm; replace e2 := e2.symm; replace e3 := e3.symm; subst e1; subst e2; subst e3
                refine g_if_eqB F 106 (dk dtX7_test_0 48 rfl) (by decide) (fun c83 => ?_) (fun c83 => ?_)
                · -- taken at 83
                  refine g_iconst F (nI 0) (dk dtX7_test_0 59 rfl) (by decide) ?_
                  refine g_iaddN F (dk dtX7_test_1 0 rfl) ?_
                  refine g_istore F [(6, .int (nI ((cnB (fun v => (fun v => cbB (M 2 0) (M 5) (M 10) (M 11) (M 12) p (nI v) nn) v && decide (nI v ≤ suR (M 2 0) (M 5) p i)) j) + 0))), (4, .int (nI ((cnB (fun v => cbB (M 2 0) (M 5) (M 10) (M 11) (M 12) p (nI v) nn) j) + 0))), (0, .ref (B + 0)), (1, .int (nI p)), (2, .int ((tsF (fun v => cbB (M 2 0) (M 5) (M 10) (M 11) (M 12) p (nI v) nn) (fun k => (fun v => (fun v => cbB (M 2 0) (M 5) (M 10) (M 11) (M 12) p (nI v) nn) v && decide (nI v ≤ suR (M 2 0) (M 5) p k))) i).1)), (3, .int (nI ((tsF (fun v => cbB (M 2 0) (M 5) (M 10) (M 11) (M 12) p (nI v) nn) (fun k => (fun v => (fun v => cbB (M 2 0) (M 5) (M 10) (M 11) (M 12) p (nI v) nn) v && decide (nI v ≤ suR (M 2 0) (M 5) p k))) i).2))), (5, .int (nI i)), (7, .int (nI j))] (dk dtX7_test_1 1 rfl) (by decide) rfl ?_
                  refine g_iinc F 7 (nI (j + 1)) [(7, .int (nI (j + 1))), (6, .int (nI ((cnB (fun v => (fun v => cbB (M 2 0) (M 5) (M 10) (M 11) (M 12) p (nI v) nn) v && decide (nI v ≤ suR (M 2 0) (M 5) p i)) j) + 0))), (4, .int (nI ((cnB (fun v => cbB (M 2 0) (M 5) (M 10) (M 11) (M 12) p (nI v) nn) j) + 0))), (0, .ref (B + 0)), (1, .int (nI p)), (2, .int ((tsF (fun v => cbB (M 2 0) (M 5) (M 10) (M 11) (M 12) p (nI v) nn) (fun k => (fun v => (fun v => cbB (M 2 0) (M 5) (M 10) (M 11) (M 12) p (nI v) nn) v && decide (nI v ≤ suR (M 2 0) (M 5) p k))) i).1)), (3, .int (nI ((tsF (fun v => cbB (M 2 0) (M 5) (M 10) (M 11) (M 12) p (nI v) nn) (fun k => (fun v => (fun v => cbB (M 2 0) (M 5) (M 10) (M 11) (M 12) p (nI v) nn) v && decide (nI v ≤ suR (M 2 0) (M 5) p k))) i).2))), (5, .int (nI i))] (dk dtX7_test_1 2 rfl) rfl (nI_1 _) (by decide) rfl ?_
                  refine g_goto F 47 (dk dtX7_test_1 3 rfl) (by decide) ?_
                  refine g_sub [3, 4, 5, 6, 2, 7, 1, 0] (L1 := [(0, .ref (B + 0)), (1, .int (nI p)), (2, .int ((tsF (fun v => cbB (M 2 0) (M 5) (M 10) (M 11) (M 12) p (nI v) nn) (fun k => (fun v => (fun v => cbB (M 2 0) (M 5) (M 10) (M 11) (M 12) p (nI v) nn) v && decide (nI v ≤ suR (M 2 0) (M 5) p k))) i).1)), (3, .int (nI ((tsF (fun v => cbB (M 2 0) (M 5) (M 10) (M 11) (M 12) p (nI v) nn) (fun k => (fun v => (fun v => cbB (M 2 0) (M 5) (M 10) (M 11) (M 12) p (nI v) nn) v && decide (nI v ≤ suR (M 2 0) (M 5) p k))) i).2))), (4, .int (nI ((cnB (fun v => cbB (M 2 0) (M 5) (M 10) (M 11) (M 12) p (nI v) nn) j) + 0))), (5, .int (nI i)), (6, .int (nI ((cnB (fun v => (fun v => cbB (M 2 0) (M 5) (M 10) (M 11) (M 12) p (nI v) nn) v && decide (nI v ≤ suR (M 2 0) (M 5) p i)) j) + 0))), (7, .int (nI (j + 1)))]) rfl ?_
                  have eq47_4 : (nI ((cnB (fun v => cbB (M 2 0) (M 5) (M 10) (M 11) (M 12) p (nI v) nn) j) + 0) : Int32) = nI (cnB (fun v => cbB (M 2 0) (M 5) (M 10) (M 11) (M 12) p (nI v) nn) (j + 1)) := by
                    exact (congrArg nI (cnB_n (f := (fun v => cbB (M 2 0) (M 5) (M 10) (M 11) (M 12) p (nI v) nn)) c63)).symm
                  have eq47_6 : (nI ((cnB (fun v => (fun v => cbB (M 2 0) (M 5) (M 10) (M 11) (M 12) p (nI v) nn) v && decide (nI v ≤ suR (M 2 0) (M 5) p i)) j) + 0) : Int32) = nI (cnB (fun v => (fun v => cbB (M 2 0) (M 5) (M 10) (M 11) (M 12) p (nI v) nn) v && decide (nI v ≤ suR (M 2 0) (M 5) p i)) (j + 1)) := by
                    exact (congrArg nI (cnB_n (f := (fun v => (fun v => cbB (M 2 0) (M 5) (M 10) (M 11) (M 12) p (nI v) nn) v && decide (nI v ≤ suR (M 2 0) (M 5) p i))) (fun h => c83 (and_l h)))).symm
                  refine g_st (M1 := M) (L1 := [(0, .ref (B + 0)), (1, .int (nI p)), (2, .int ((tsF (fun v => cbB (M 2 0) (M 5) (M 10) (M 11) (M 12) p (nI v) nn) (fun k => (fun v => (fun v => cbB (M 2 0) (M 5) (M 10) (M 11) (M 12) p (nI v) nn) v && decide (nI v ≤ suR (M 2 0) (M 5) p k))) i).1)), (3, .int (nI ((tsF (fun v => cbB (M 2 0) (M 5) (M 10) (M 11) (M 12) p (nI v) nn) (fun k => (fun v => (fun v => cbB (M 2 0) (M 5) (M 10) (M 11) (M 12) p (nI v) nn) v && decide (nI v ≤ suR (M 2 0) (M 5) p k))) i).2))), (4, .int (nI (cnB (fun v => cbB (M 2 0) (M 5) (M 10) (M 11) (M 12) p (nI v) nn) (j + 1)))), (5, .int (nI i)), (6, .int (nI (cnB (fun v => (fun v => cbB (M 2 0) (M 5) (M 10) (M 11) (M 12) p (nI v) nn) v && decide (nI v ≤ suR (M 2 0) (M 5) p i)) (j + 1)))), (7, .int (nI (j + 1)))]) rfl (lc rfl (lc rfl (lc rfl (lc rfl (lc (vi eq47_4) (lc rfl (lc (vi eq47_6) (lc rfl rfl)))))))) rfl ?_
                  exact ih47 (j + 1) (by omega) (by omega)
                · -- not taken at 83
                  refine g_iload F 7 (dk dtX7_test_0 49 rfl) rfl ?_
                  refine g_aload_n F 1 (dk dtX7_test_0 50 rfl) rfl ?_
                  refine g_aload_n F 1 (dk dtX7_test_0 51 rfl) rfl ?_
                  refine g_get F fa_X7_22 (dk dtX7_test_0 52 rfl) (by decide) (cm0 D B _ _) rfl ?_
                  refine g_iload_n F 2 (dk dtX7_test_0 53 rfl) rfl ?_
                  refine g_iload F 5 (dk dtX7_test_0 54 rfl) rfl ?_
                  refine g_callVi F (As := [.ref (B + 5), .int (nI p), .int (nI i)]) (st := [.int (nI j), .int (nI (cnB (fun v => (fun v => cbB (M 2 0) (M 5) (M 10) (M 11) (M 12) p (nI v) nn) v && decide (nI v ≤ suR (M 2 0) (M 5) p i)) j))]) cv_X7_135 (dk dtX7_test_0 55 rfl) (by decide) (cm0 D B _ _) rfl rfl (Nat.le_of_ble_eq_true rfl) ⟨by decide, by decide⟩ (k_X7_surpriseOf l D B _ _ 5 (isRow5 D B) p i (by omega) (by omega) (dvR hK hW hK1 hK4 (by omega))) (fun r96 T96 M96 hp96 => ?_)
                  obtain ⟨e1, e2, e3⟩ := hp96
                  replace e1 := e1.symm; replace e2 := e2.symm; replace e3 := e3.symm; subst e1; subst e2; subst e3
                  refine g_icmp_gt F 106 (dk dtX7_test_0 56 rfl) (by decide) (fun c99 => ?_) (fun c99 => ?_)
                  · -- taken at 99
                    refine g_iconst F (nI 0) (dk dtX7_test_0 59 rfl) (by decide) ?_
                    refine g_iaddN F (dk dtX7_test_1 0 rfl) ?_
                    refine g_istore F [(6, .int (nI ((cnB (fun v => (fun v => cbB (M 2 0) (M 5) (M 10) (M 11) (M 12) p (nI v) nn) v && decide (nI v ≤ suR (M 2 0) (M 5) p i)) j) + 0))), (4, .int (nI ((cnB (fun v => cbB (M 2 0) (M 5) (M 10) (M 11) (M 12) p (nI v) nn) j) + 0))), (0, .ref (B + 0)), (1, .int (nI p)), (2, .int ((tsF (fun v => cbB (M 2 0) (M 5) (M 10) (M 11) (M 12) p (nI v) nn) (fun k => (fun v => (fun v => cbB (M 2 0) (M 5) (M 10) (M 11) (M 12) p (nI v) nn) v && decide (nI v ≤ suR (M 2 0) (M 5) p k))) i).1)), (3, .int (nI ((tsF (fun v => cbB (M 2 0) (M 5) (M 10) (M 11) (M 12) p (nI v) nn) (fun k => (fun v => (fun v => cbB (M 2 0) (M 5) (M 10) (M 11) (M 12) p (nI v) nn) v && decide (nI v ≤ suR (M 2 0) (M 5) p k))) i).2))), (5, .int (nI i)), (7, .int (nI j))] (dk dtX7_test_1 1 rfl) (by decide) rfl ?_
                    refine g_iinc F 7 (nI (j + 1)) [(7, .int (nI (j + 1))), (6, .int (nI ((cnB (fun v => (fun v => cbB (M 2 0) (M 5) (M 10) (M 11) (M 12) p (nI v) nn) v && decide (nI v ≤ suR (M 2 0) (M 5) p i)) j) + 0))), (4, .int (nI ((cnB (fun v => cbB (M 2 0) (M 5) (M 10) (M 11) (M 12) p (nI v) nn) j) + 0))), (0, .ref (B + 0)), (1, .int (nI p)), (2, .int ((tsF (fun v => cbB (M 2 0) (M 5) (M 10) (M 11) (M 12) p (nI v) nn) (fun k => (fun v => (fun v => cbB (M 2 0) (M 5) (M 10) (M 11) (M 12) p (nI v) nn) v && decide (nI v ≤ suR (M 2 0) (M 5) p k))) i).1)), (3, .int (nI ((tsF (fun v => cbB (M 2 0) (M 5) (M 10) (M 11) (M 12) p (nI v) nn) (fun k => (fun v => (fun v => cbB (M 2 0) (M 5) (M 10) (M 11) (M 12) p (nI v) nn) v && decide (nI v ≤ suR (M 2 0) (M 5) p k))) i).2))), (5, .int (nI i))] (dk dtX7_test_1 2 rfl) rfl (nI_1 _) (by decide) rfl ?_
                    refine g_goto F 47 (dk dtX7_test_1 3 rfl) (by decide) ?_
                    refine g_sub [3, 4, 5, 6, 2, 7, 1, 0] (L1 := [(0, .ref (B + 0)), (1, .int (nI p)), (2, .int ((tsF (fun v => cbB (M 2 0) (M 5) (M 10) (M 11) (M 12) p (nI v) nn) (fun k => (fun v => (fun v => cbB (M 2 0) (M 5) (M 10) (M 11) (M 12) p (nI v) nn) v && decide (nI v ≤ suR (M 2 0) (M 5) p k))) i).1)), (3, .int (nI ((tsF (fun v => cbB (M 2 0) (M 5) (M 10) (M 11) (M 12) p (nI v) nn) (fun k => (fun v => (fun v => cbB (M 2 0) (M 5) (M 10) (M 11) (M 12) p (nI v) nn) v && decide (nI v ≤ suR (M 2 0) (M 5) p k))) i).2))), (4, .int (nI ((cnB (fun v => cbB (M 2 0) (M 5) (M 10) (M 11) (M 12) p (nI v) nn) j) + 0))), (5, .int (nI i)), (6, .int (nI ((cnB (fun v => (fun v => cbB (M 2 0) (M 5) (M 10) (M 11) (M 12) p (nI v) nn) v && decide (nI v ≤ suR (M 2 0) (M 5) p i)) j) + 0))), (7, .int (nI (j + 1)))]) rfl ?_
                    have eq47_4 : (nI ((cnB (fun v => cbB (M 2 0) (M 5) (M 10) (M 11) (M 12) p (nI v) nn) j) + 0) : Int32) = nI (cnB (fun v => cbB (M 2 0) (M 5) (M 10) (M 11) (M 12) p (nI v) nn) (j + 1)) := by
                      exact (congrArg nI (cnB_n (f := (fun v => cbB (M 2 0) (M 5) (M 10) (M 11) (M 12) p (nI v) nn)) c63)).symm
                    have eq47_6 : (nI ((cnB (fun v => (fun v => cbB (M 2 0) (M 5) (M 10) (M 11) (M 12) p (nI v) nn) v && decide (nI v ≤ suR (M 2 0) (M 5) p i)) j) + 0) : Int32) = nI (cnB (fun v => (fun v => cbB (M 2 0) (M 5) (M 10) (M 11) (M 12) p (nI v) nn) v && decide (nI v ≤ suR (M 2 0) (M 5) p i)) (j + 1)) := by
                      exact (congrArg nI (cnB_n (f := (fun v => (fun v => cbB (M 2 0) (M 5) (M 10) (M 11) (M 12) p (nI v) nn) v && decide (nI v ≤ suR (M 2 0) (M 5) p i))) (fun h => absurd (and_r h) (Int32.not_le.mpr c99)))).symm
                    refine g_st (M1 := M) (L1 := [(0, .ref (B + 0)), (1, .int (nI p)), (2, .int ((tsF (fun v => cbB (M 2 0) (M 5) (M 10) (M 11) (M 12) p (nI v) nn) (fun k => (fun v => (fun v => cbB (M 2 0) (M 5) (M 10) (M 11) (M 12) p (nI v) nn) v && decide (nI v ≤ suR (M 2 0) (M 5) p k))) i).1)), (3, .int (nI ((tsF (fun v => cbB (M 2 0) (M 5) (M 10) (M 11) (M 12) p (nI v) nn) (fun k => (fun v => (fun v => cbB (M 2 0) (M 5) (M 10) (M 11) (M 12) p (nI v) nn) v && decide (nI v ≤ suR (M 2 0) (M 5) p k))) i).2))), (4, .int (nI (cnB (fun v => cbB (M 2 0) (M 5) (M 10) (M 11) (M 12) p (nI v) nn) (j + 1)))), (5, .int (nI i)), (6, .int (nI (cnB (fun v => (fun v => cbB (M 2 0) (M 5) (M 10) (M 11) (M 12) p (nI v) nn) v && decide (nI v ≤ suR (M 2 0) (M 5) p i)) (j + 1)))), (7, .int (nI (j + 1)))]) rfl (lc rfl (lc rfl (lc rfl (lc rfl (lc (vi eq47_4) (lc rfl (lc (vi eq47_6) (lc rfl rfl)))))))) rfl ?_
                    exact ih47 (j + 1) (by omega) (by omega)
                  · -- not taken at 99
                    refine g_iconst F (nI 1) (dk dtX7_test_0 57 rfl) (by decide) ?_
                    refine g_goto F 107 (dk dtX7_test_0 58 rfl) (by decide) ?_
                    refine g_iaddN F (dk dtX7_test_1 0 rfl) ?_
                    refine g_istore F [(6, .int (nI ((cnB (fun v => (fun v => cbB (M 2 0) (M 5) (M 10) (M 11) (M 12) p (nI v) nn) v && decide (nI v ≤ suR (M 2 0) (M 5) p i)) j) + 1))), (4, .int (nI ((cnB (fun v => cbB (M 2 0) (M 5) (M 10) (M 11) (M 12) p (nI v) nn) j) + 0))), (0, .ref (B + 0)), (1, .int (nI p)), (2, .int ((tsF (fun v => cbB (M 2 0) (M 5) (M 10) (M 11) (M 12) p (nI v) nn) (fun k => (fun v => (fun v => cbB (M 2 0) (M 5) (M 10) (M 11) (M 12) p (nI v) nn) v && decide (nI v ≤ suR (M 2 0) (M 5) p k))) i).1)), (3, .int (nI ((tsF (fun v => cbB (M 2 0) (M 5) (M 10) (M 11) (M 12) p (nI v) nn) (fun k => (fun v => (fun v => cbB (M 2 0) (M 5) (M 10) (M 11) (M 12) p (nI v) nn) v && decide (nI v ≤ suR (M 2 0) (M 5) p k))) i).2))), (5, .int (nI i)), (7, .int (nI j))] (dk dtX7_test_1 1 rfl) (by decide) rfl ?_
                    refine g_iinc F 7 (nI (j + 1)) [(7, .int (nI (j + 1))), (6, .int (nI ((cnB (fun v => (fun v => cbB (M 2 0) (M 5) (M 10) (M 11) (M 12) p (nI v) nn) v && decide (nI v ≤ suR (M 2 0) (M 5) p i)) j) + 1))), (4, .int (nI ((cnB (fun v => cbB (M 2 0) (M 5) (M 10) (M 11) (M 12) p (nI v) nn) j) + 0))), (0, .ref (B + 0)), (1, .int (nI p)), (2, .int ((tsF (fun v => cbB (M 2 0) (M 5) (M 10) (M 11) (M 12) p (nI v) nn) (fun k => (fun v => (fun v => cbB (M 2 0) (M 5) (M 10) (M 11) (M 12) p (nI v) nn) v && decide (nI v ≤ suR (M 2 0) (M 5) p k))) i).1)), (3, .int (nI ((tsF (fun v => cbB (M 2 0) (M 5) (M 10) (M 11) (M 12) p (nI v) nn) (fun k => (fun v => (fun v => cbB (M 2 0) (M 5) (M 10) (M 11) (M 12) p (nI v) nn) v && decide (nI v ≤ suR (M 2 0) (M 5) p k))) i).2))), (5, .int (nI i))] (dk dtX7_test_1 2 rfl) rfl (nI_1 _) (by decide) rfl ?_
                    refine g_goto F 47 (dk dtX7_test_1 3 rfl) (by decide) ?_
                    refine g_sub [3, 4, 5, 6, 2, 7, 1, 0] (L1 := [(0, .ref (B + 0)), (1, .int (nI p)), (2, .int ((tsF (fun v => cbB (M 2 0) (M 5) (M 10) (M 11) (M 12) p (nI v) nn) (fun k => (fun v => (fun v => cbB (M 2 0) (M 5) (M 10) (M 11) (M 12) p (nI v) nn) v && decide (nI v ≤ suR (M 2 0) (M 5) p k))) i).1)), (3, .int (nI ((tsF (fun v => cbB (M 2 0) (M 5) (M 10) (M 11) (M 12) p (nI v) nn) (fun k => (fun v => (fun v => cbB (M 2 0) (M 5) (M 10) (M 11) (M 12) p (nI v) nn) v && decide (nI v ≤ suR (M 2 0) (M 5) p k))) i).2))), (4, .int (nI ((cnB (fun v => cbB (M 2 0) (M 5) (M 10) (M 11) (M 12) p (nI v) nn) j) + 0))), (5, .int (nI i)), (6, .int (nI ((cnB (fun v => (fun v => cbB (M 2 0) (M 5) (M 10) (M 11) (M 12) p (nI v) nn) v && decide (nI v ≤ suR (M 2 0) (M 5) p i)) j) + 1))), (7, .int (nI (j + 1)))]) rfl ?_
                    have eq47_4 : (nI ((cnB (fun v => cbB (M 2 0) (M 5) (M 10) (M 11) (M 12) p (nI v) nn) j) + 0) : Int32) = nI (cnB (fun v => cbB (M 2 0) (M 5) (M 10) (M 11) (M 12) p (nI v) nn) (j + 1)) := by
                      exact (congrArg nI (cnB_n (f := (fun v => cbB (M 2 0) (M 5) (M 10) (M 11) (M 12) p (nI v) nn)) c63)).symm
                    have eq47_6 : (nI ((cnB (fun v => (fun v => cbB (M 2 0) (M 5) (M 10) (M 11) (M 12) p (nI v) nn) v && decide (nI v ≤ suR (M 2 0) (M 5) p i)) j) + 1) : Int32) = nI (cnB (fun v => (fun v => cbB (M 2 0) (M 5) (M 10) (M 11) (M 12) p (nI v) nn) v && decide (nI v ≤ suR (M 2 0) (M 5) p i)) (j + 1)) := by
                      exact (congrArg nI (cnB_y (f := (fun v => (fun v => cbB (M 2 0) (M 5) (M 10) (M 11) (M 12) p (nI v) nn) v && decide (nI v ≤ suR (M 2 0) (M 5) p i))) (and_i c83 (Int32.not_lt.mp c99)))).symm
                    refine g_st (M1 := M) (L1 := [(0, .ref (B + 0)), (1, .int (nI p)), (2, .int ((tsF (fun v => cbB (M 2 0) (M 5) (M 10) (M 11) (M 12) p (nI v) nn) (fun k => (fun v => (fun v => cbB (M 2 0) (M 5) (M 10) (M 11) (M 12) p (nI v) nn) v && decide (nI v ≤ suR (M 2 0) (M 5) p k))) i).1)), (3, .int (nI ((tsF (fun v => cbB (M 2 0) (M 5) (M 10) (M 11) (M 12) p (nI v) nn) (fun k => (fun v => (fun v => cbB (M 2 0) (M 5) (M 10) (M 11) (M 12) p (nI v) nn) v && decide (nI v ≤ suR (M 2 0) (M 5) p k))) i).2))), (4, .int (nI (cnB (fun v => cbB (M 2 0) (M 5) (M 10) (M 11) (M 12) p (nI v) nn) (j + 1)))), (5, .int (nI i)), (6, .int (nI (cnB (fun v => (fun v => cbB (M 2 0) (M 5) (M 10) (M 11) (M 12) p (nI v) nn) v && decide (nI v ≤ suR (M 2 0) (M 5) p i)) (j + 1)))), (7, .int (nI (j + 1)))]) rfl (lc rfl (lc rfl (lc rfl (lc rfl (lc (vi eq47_4) (lc rfl (lc (vi eq47_6) (lc rfl rfl)))))))) rfl ?_
                    exact ih47 (j + 1) (by omega) (by omega)
              · -- not taken at 63
                refine g_iconst F (nI 1) (dk dtX7_test_0 38 rfl) (by decide) ?_
                refine g_goto F 71 (dk dtX7_test_0 39 rfl) (by decide) ?_
                refine g_iaddN F (dk dtX7_test_0 41 rfl) ?_
                refine g_istore F [(4, .int (nI ((cnB (fun v => cbB (M 2 0) (M 5) (M 10) (M 11) (M 12) p (nI v) nn) j) + 1))), (0, .ref (B + 0)), (1, .int (nI p)), (2, .int ((tsF (fun v => cbB (M 2 0) (M 5) (M 10) (M 11) (M 12) p (nI v) nn) (fun k => (fun v => (fun v => cbB (M 2 0) (M 5) (M 10) (M 11) (M 12) p (nI v) nn) v && decide (nI v ≤ suR (M 2 0) (M 5) p k))) i).1)), (3, .int (nI ((tsF (fun v => cbB (M 2 0) (M 5) (M 10) (M 11) (M 12) p (nI v) nn) (fun k => (fun v => (fun v => cbB (M 2 0) (M 5) (M 10) (M 11) (M 12) p (nI v) nn) v && decide (nI v ≤ suR (M 2 0) (M 5) p k))) i).2))), (5, .int (nI i)), (6, .int (nI (cnB (fun v => (fun v => cbB (M 2 0) (M 5) (M 10) (M 11) (M 12) p (nI v) nn) v && decide (nI v ≤ suR (M 2 0) (M 5) p i)) j))), (7, .int (nI j))] (dk dtX7_test_0 42 rfl) (by decide) rfl ?_
                refine g_iload F 6 (dk dtX7_test_0 43 rfl) rfl ?_
                refine g_aload_n F 1 (dk dtX7_test_0 44 rfl) rfl ?_
                refine g_iload_n F 2 (dk dtX7_test_0 45 rfl) rfl ?_
                refine g_iload F 7 (dk dtX7_test_0 46 rfl) rfl ?_
                refine g_callVi F (As := [.int (nI p), .int (nI j)]) (st := [.int (nI (cnB (fun v => (fun v => cbB (M 2 0) (M 5) (M 10) (M 11) (M 12) p (nI v) nn) v && decide (nI v ≤ suR (M 2 0) (M 5) p i)) j))]) cv_X7_179 (dk dtX7_test_0 47 rfl) (by decide) (cm0 D B _ _) rfl rfl (Nat.le_of_ble_eq_true rfl) ⟨by decide, by decide⟩ (k_X7_canBe l D B _ _ K hK hK1 hK4 nn hnn hnn6 hN hW p j (by omega) (by omega)) (fun r80 T80 M80 hp80 => ?_)
                obtain ⟨e1, e2, e3⟩ := hp80
                replace e1 := e1.symm; replace e2 := e2.symm; replace e3 := e3.symm; subst e1; subst e2; subst e3
                refine g_if_eqB F 106 (dk dtX7_test_0 48 rfl) (by decide) (fun c83 => ?_) (fun c83 => ?_)
                · -- taken at 83
                  refine g_iconst F (nI 0) (dk dtX7_test_0 59 rfl) (by decide) ?_
                  refine g_iaddN F (dk dtX7_test_1 0 rfl) ?_
                  refine g_istore F [(6, .int (nI ((cnB (fun v => (fun v => cbB (M 2 0) (M 5) (M 10) (M 11) (M 12) p (nI v) nn) v && decide (nI v ≤ suR (M 2 0) (M 5) p i)) j) + 0))), (4, .int (nI ((cnB (fun v => cbB (M 2 0) (M 5) (M 10) (M 11) (M 12) p (nI v) nn) j) + 1))), (0, .ref (B + 0)), (1, .int (nI p)), (2, .int ((tsF (fun v => cbB (M 2 0) (M 5) (M 10) (M 11) (M 12) p (nI v) nn) (fun k => (fun v => (fun v => cbB (M 2 0) (M 5) (M 10) (M 11) (M 12) p (nI v) nn) v && decide (nI v ≤ suR (M 2 0) (M 5) p k))) i).1)), (3, .int (nI ((tsF (fun v => cbB (M 2 0) (M 5) (M 10) (M 11) (M 12) p (nI v) nn) (fun k => (fun v => (fun v => cbB (M 2 0) (M 5) (M 10) (M 11) (M 12) p (nI v) nn) v && decide (nI v ≤ suR (M 2 0) (M 5) p k))) i).2))), (5, .int (nI i)), (7, .int (nI j))] (dk dtX7_test_1 1 rfl) (by decide) rfl ?_
                  refine g_iinc F 7 (nI (j + 1)) [(7, .int (nI (j + 1))), (6, .int (nI ((cnB (fun v => (fun v => cbB (M 2 0) (M 5) (M 10) (M 11) (M 12) p (nI v) nn) v && decide (nI v ≤ suR (M 2 0) (M 5) p i)) j) + 0))), (4, .int (nI ((cnB (fun v => cbB (M 2 0) (M 5) (M 10) (M 11) (M 12) p (nI v) nn) j) + 1))), (0, .ref (B + 0)), (1, .int (nI p)), (2, .int ((tsF (fun v => cbB (M 2 0) (M 5) (M 10) (M 11) (M 12) p (nI v) nn) (fun k => (fun v => (fun v => cbB (M 2 0) (M 5) (M 10) (M 11) (M 12) p (nI v) nn) v && decide (nI v ≤ suR (M 2 0) (M 5) p k))) i).1)), (3, .int (nI ((tsF (fun v => cbB (M 2 0) (M 5) (M 10) (M 11) (M 12) p (nI v) nn) (fun k => (fun v => (fun v => cbB (M 2 0) (M 5) (M 10) (M 11) (M 12) p (nI v) nn) v && decide (nI v ≤ suR (M 2 0) (M 5) p k))) i).2))), (5, .int (nI i))] (dk dtX7_test_1 2 rfl) rfl (nI_1 _) (by decide) rfl ?_
                  refine g_goto F 47 (dk dtX7_test_1 3 rfl) (by decide) ?_
                  refine g_sub [3, 4, 5, 6, 2, 7, 1, 0] (L1 := [(0, .ref (B + 0)), (1, .int (nI p)), (2, .int ((tsF (fun v => cbB (M 2 0) (M 5) (M 10) (M 11) (M 12) p (nI v) nn) (fun k => (fun v => (fun v => cbB (M 2 0) (M 5) (M 10) (M 11) (M 12) p (nI v) nn) v && decide (nI v ≤ suR (M 2 0) (M 5) p k))) i).1)), (3, .int (nI ((tsF (fun v => cbB (M 2 0) (M 5) (M 10) (M 11) (M 12) p (nI v) nn) (fun k => (fun v => (fun v => cbB (M 2 0) (M 5) (M 10) (M 11) (M 12) p (nI v) nn) v && decide (nI v ≤ suR (M 2 0) (M 5) p k))) i).2))), (4, .int (nI ((cnB (fun v => cbB (M 2 0) (M 5) (M 10) (M 11) (M 12) p (nI v) nn) j) + 1))), (5, .int (nI i)), (6, .int (nI ((cnB (fun v => (fun v => cbB (M 2 0) (M 5) (M 10) (M 11) (M 12) p (nI v) nn) v && decide (nI v ≤ suR (M 2 0) (M 5) p i)) j) + 0))), (7, .int (nI (j + 1)))]) rfl ?_
                  have eq47_4 : (nI ((cnB (fun v => cbB (M 2 0) (M 5) (M 10) (M 11) (M 12) p (nI v) nn) j) + 1) : Int32) = nI (cnB (fun v => cbB (M 2 0) (M 5) (M 10) (M 11) (M 12) p (nI v) nn) (j + 1)) := by
                    exact (congrArg nI (cnB_y (f := (fun v => cbB (M 2 0) (M 5) (M 10) (M 11) (M 12) p (nI v) nn)) c63)).symm
                  have eq47_6 : (nI ((cnB (fun v => (fun v => cbB (M 2 0) (M 5) (M 10) (M 11) (M 12) p (nI v) nn) v && decide (nI v ≤ suR (M 2 0) (M 5) p i)) j) + 0) : Int32) = nI (cnB (fun v => (fun v => cbB (M 2 0) (M 5) (M 10) (M 11) (M 12) p (nI v) nn) v && decide (nI v ≤ suR (M 2 0) (M 5) p i)) (j + 1)) := by
                    exact (congrArg nI (cnB_n (f := (fun v => (fun v => cbB (M 2 0) (M 5) (M 10) (M 11) (M 12) p (nI v) nn) v && decide (nI v ≤ suR (M 2 0) (M 5) p i))) (fun h => c83 (and_l h)))).symm
                  refine g_st (M1 := M) (L1 := [(0, .ref (B + 0)), (1, .int (nI p)), (2, .int ((tsF (fun v => cbB (M 2 0) (M 5) (M 10) (M 11) (M 12) p (nI v) nn) (fun k => (fun v => (fun v => cbB (M 2 0) (M 5) (M 10) (M 11) (M 12) p (nI v) nn) v && decide (nI v ≤ suR (M 2 0) (M 5) p k))) i).1)), (3, .int (nI ((tsF (fun v => cbB (M 2 0) (M 5) (M 10) (M 11) (M 12) p (nI v) nn) (fun k => (fun v => (fun v => cbB (M 2 0) (M 5) (M 10) (M 11) (M 12) p (nI v) nn) v && decide (nI v ≤ suR (M 2 0) (M 5) p k))) i).2))), (4, .int (nI (cnB (fun v => cbB (M 2 0) (M 5) (M 10) (M 11) (M 12) p (nI v) nn) (j + 1)))), (5, .int (nI i)), (6, .int (nI (cnB (fun v => (fun v => cbB (M 2 0) (M 5) (M 10) (M 11) (M 12) p (nI v) nn) v && decide (nI v ≤ suR (M 2 0) (M 5) p i)) (j + 1)))), (7, .int (nI (j + 1)))]) rfl (lc rfl (lc rfl (lc rfl (lc rfl (lc (vi eq47_4) (lc rfl (lc (vi eq47_6) (lc rfl rfl)))))))) rfl ?_
                  exact ih47 (j + 1) (by omega) (by omega)
                · -- not taken at 83
                  refine g_iload F 7 (dk dtX7_test_0 49 rfl) rfl ?_
                  refine g_aload_n F 1 (dk dtX7_test_0 50 rfl) rfl ?_
                  refine g_aload_n F 1 (dk dtX7_test_0 51 rfl) rfl ?_
                  refine g_get F fa_X7_22 (dk dtX7_test_0 52 rfl) (by decide) (cm0 D B _ _) rfl ?_
                  refine g_iload_n F 2 (dk dtX7_test_0 53 rfl) rfl ?_
                  refine g_iload F 5 (dk dtX7_test_0 54 rfl) rfl ?_
                  refine g_callVi F (As := [.ref (B + 5), .int (nI p), .int (nI i)]) (st := [.int (nI j), .int (nI (cnB (fun v => (fun v => cbB (M 2 0) (M 5) (M 10) (M 11) (M 12) p (nI v) nn) v && decide (nI v ≤ suR (M 2 0) (M 5) p i)) j))]) cv_X7_135 (dk dtX7_test_0 55 rfl) (by decide) (cm0 D B _ _) rfl rfl (Nat.le_of_ble_eq_true rfl) ⟨by decide, by decide⟩ (k_X7_surpriseOf l D B _ _ 5 (isRow5 D B) p i (by omega) (by omega) (dvR hK hW hK1 hK4 (by omega))) (fun r96 T96 M96 hp96 => ?_)
                  obtain ⟨e1, e2, e3⟩ := hp96
                  replace e1 := e1.symm; replace e2 := e2.symm; replace e3 := e3.symm; subst e1; subst e2; subst e3
                  refine g_icmp_gt F 106 (dk dtX7_test_0 56 rfl) (by decide) (fun c99 => ?_) (fun c99 => ?_)
                  · -- taken at 99
                    refine g_iconst F (nI 0) (dk dtX7_test_0 59 rfl) (by decide) ?_
                    refine g_iaddN F (dk dtX7_test_1 0 rfl) ?_
                    refine g_istore F [(6, .int (nI ((cnB (fun v => (fun v => cbB (M 2 0) (M 5) (M 10) (M 11) (M 12) p (nI v) nn) v && decide (nI v ≤ suR (M 2 0) (M 5) p i)) j) + 0))), (4, .int (nI ((cnB (fun v => cbB (M 2 0) (M 5) (M 10) (M 11) (M 12) p (nI v) nn) j) + 1))), (0, .ref (B + 0)), (1, .int (nI p)), (2, .int ((tsF (fun v => cbB (M 2 0) (M 5) (M 10) (M 11) (M 12) p (nI v) nn) (fun k => (fun v => (fun v => cbB (M 2 0) (M 5) (M 10) (M 11) (M 12) p (nI v) nn) v && decide (nI v ≤ suR (M 2 0) (M 5) p k))) i).1)), (3, .int (nI ((tsF (fun v => cbB (M 2 0) (M 5) (M 10) (M 11) (M 12) p (nI v) nn) (fun k => (fun v => (fun v => cbB (M 2 0) (M 5) (M 10) (M 11) (M 12) p (nI v) nn) v && decide (nI v ≤ suR (M 2 0) (M 5) p k))) i).2))), (5, .int (nI i)), (7, .int (nI j))] (dk dtX7_test_1 1 rfl) (by decide) rfl ?_
                    refine g_iinc F 7 (nI (j + 1)) [(7, .int (nI (j + 1))), (6, .int (nI ((cnB (fun v => (fun v => cbB (M 2 0) (M 5) (M 10) (M 11) (M 12) p (nI v) nn) v && decide (nI v ≤ suR (M 2 0) (M 5) p i)) j) + 0))), (4, .int (nI ((cnB (fun v => cbB (M 2 0) (M 5) (M 10) (M 11) (M 12) p (nI v) nn) j) + 1))), (0, .ref (B + 0)), (1, .int (nI p)), (2, .int ((tsF (fun v => cbB (M 2 0) (M 5) (M 10) (M 11) (M 12) p (nI v) nn) (fun k => (fun v => (fun v => cbB (M 2 0) (M 5) (M 10) (M 11) (M 12) p (nI v) nn) v && decide (nI v ≤ suR (M 2 0) (M 5) p k))) i).1)), (3, .int (nI ((tsF (fun v => cbB (M 2 0) (M 5) (M 10) (M 11) (M 12) p (nI v) nn) (fun k => (fun v => (fun v => cbB (M 2 0) (M 5) (M 10) (M 11) (M 12) p (nI v) nn) v && decide (nI v ≤ suR (M 2 0) (M 5) p k))) i).2))), (5, .int (nI i))] (dk dtX7_test_1 2 rfl) rfl (nI_1 _) (by decide) rfl ?_
                    refine g_goto F 47 (dk dtX7_test_1 3 rfl) (by decide) ?_
                    refine g_sub [3, 4, 5, 6, 2, 7, 1, 0] (L1 := [(0, .ref (B + 0)), (1, .int (nI p)), (2, .int ((tsF (fun v => cbB (M 2 0) (M 5) (M 10) (M 11) (M 12) p (nI v) nn) (fun k => (fun v => (fun v => cbB (M 2 0) (M 5) (M 10) (M 11) (M 12) p (nI v) nn) v && decide (nI v ≤ suR (M 2 0) (M 5) p k))) i).1)), (3, .int (nI ((tsF (fun v => cbB (M 2 0) (M 5) (M 10) (M 11) (M 12) p (nI v) nn) (fun k => (fun v => (fun v => cbB (M 2 0) (M 5) (M 10) (M 11) (M 12) p (nI v) nn) v && decide (nI v ≤ suR (M 2 0) (M 5) p k))) i).2))), (4, .int (nI ((cnB (fun v => cbB (M 2 0) (M 5) (M 10) (M 11) (M 12) p (nI v) nn) j) + 1))), (5, .int (nI i)), (6, .int (nI ((cnB (fun v => (fun v => cbB (M 2 0) (M 5) (M 10) (M 11) (M 12) p (nI v) nn) v && decide (nI v ≤ suR (M 2 0) (M 5) p i)) j) + 0))), (7, .int (nI (j + 1)))]) rfl ?_
                    have eq47_4 : (nI ((cnB (fun v => cbB (M 2 0) (M 5) (M 10) (M 11) (M 12) p (nI v) nn) j) + 1) : Int32) = nI (cnB (fun v => cbB (M 2 0) (M 5) (M 10) (M 11) (M 12) p (nI v) nn) (j + 1)) := by
                      exact (congrArg nI (cnB_y (f := (fun v => cbB (M 2 0) (M 5) (M 10) (M 11) (M 12) p (nI v) nn)) c63)).symm
                    have eq47_6 : (nI ((cnB (fun v => (fun v => cbB (M 2 0) (M 5) (M 10) (M 11) (M 12) p (nI v) nn) v && decide (nI v ≤ suR (M 2 0) (M 5) p i)) j) + 0) : Int32) = nI (cnB (fun v => (fun v => cbB (M 2 0) (M 5) (M 10) (M 11) (M 12) p (nI v) nn) v && decide (nI v ≤ suR (M 2 0) (M 5) p i)) (j + 1)) := by
                      exact (congrArg nI (cnB_n (f := (fun v => (fun v => cbB (M 2 0) (M 5) (M 10) (M 11) (M 12) p (nI v) nn) v && decide (nI v ≤ suR (M 2 0) (M 5) p i))) (fun h => absurd (and_r h) (Int32.not_le.mpr c99)))).symm
                    refine g_st (M1 := M) (L1 := [(0, .ref (B + 0)), (1, .int (nI p)), (2, .int ((tsF (fun v => cbB (M 2 0) (M 5) (M 10) (M 11) (M 12) p (nI v) nn) (fun k => (fun v => (fun v => cbB (M 2 0) (M 5) (M 10) (M 11) (M 12) p (nI v) nn) v && decide (nI v ≤ suR (M 2 0) (M 5) p k))) i).1)), (3, .int (nI ((tsF (fun v => cbB (M 2 0) (M 5) (M 10) (M 11) (M 12) p (nI v) nn) (fun k => (fun v => (fun v => cbB (M 2 0) (M 5) (M 10) (M 11) (M 12) p (nI v) nn) v && decide (nI v ≤ suR (M 2 0) (M 5) p k))) i).2))), (4, .int (nI (cnB (fun v => cbB (M 2 0) (M 5) (M 10) (M 11) (M 12) p (nI v) nn) (j + 1)))), (5, .int (nI i)), (6, .int (nI (cnB (fun v => (fun v => cbB (M 2 0) (M 5) (M 10) (M 11) (M 12) p (nI v) nn) v && decide (nI v ≤ suR (M 2 0) (M 5) p i)) (j + 1)))), (7, .int (nI (j + 1)))]) rfl (lc rfl (lc rfl (lc rfl (lc rfl (lc (vi eq47_4) (lc rfl (lc (vi eq47_6) (lc rfl rfl)))))))) rfl ?_
                    exact ih47 (j + 1) (by omega) (by omega)
                  · -- not taken at 99
                    refine g_iconst F (nI 1) (dk dtX7_test_0 57 rfl) (by decide) ?_
                    refine g_goto F 107 (dk dtX7_test_0 58 rfl) (by decide) ?_
                    refine g_iaddN F (dk dtX7_test_1 0 rfl) ?_
                    refine g_istore F [(6, .int (nI ((cnB (fun v => (fun v => cbB (M 2 0) (M 5) (M 10) (M 11) (M 12) p (nI v) nn) v && decide (nI v ≤ suR (M 2 0) (M 5) p i)) j) + 1))), (4, .int (nI ((cnB (fun v => cbB (M 2 0) (M 5) (M 10) (M 11) (M 12) p (nI v) nn) j) + 1))), (0, .ref (B + 0)), (1, .int (nI p)), (2, .int ((tsF (fun v => cbB (M 2 0) (M 5) (M 10) (M 11) (M 12) p (nI v) nn) (fun k => (fun v => (fun v => cbB (M 2 0) (M 5) (M 10) (M 11) (M 12) p (nI v) nn) v && decide (nI v ≤ suR (M 2 0) (M 5) p k))) i).1)), (3, .int (nI ((tsF (fun v => cbB (M 2 0) (M 5) (M 10) (M 11) (M 12) p (nI v) nn) (fun k => (fun v => (fun v => cbB (M 2 0) (M 5) (M 10) (M 11) (M 12) p (nI v) nn) v && decide (nI v ≤ suR (M 2 0) (M 5) p k))) i).2))), (5, .int (nI i)), (7, .int (nI j))] (dk dtX7_test_1 1 rfl) (by decide) rfl ?_
                    refine g_iinc F 7 (nI (j + 1)) [(7, .int (nI (j + 1))), (6, .int (nI ((cnB (fun v => (fun v => cbB (M 2 0) (M 5) (M 10) (M 11) (M 12) p (nI v) nn) v && decide (nI v ≤ suR (M 2 0) (M 5) p i)) j) + 1))), (4, .int (nI ((cnB (fun v => cbB (M 2 0) (M 5) (M 10) (M 11) (M 12) p (nI v) nn) j) + 1))), (0, .ref (B + 0)), (1, .int (nI p)), (2, .int ((tsF (fun v => cbB (M 2 0) (M 5) (M 10) (M 11) (M 12) p (nI v) nn) (fun k => (fun v => (fun v => cbB (M 2 0) (M 5) (M 10) (M 11) (M 12) p (nI v) nn) v && decide (nI v ≤ suR (M 2 0) (M 5) p k))) i).1)), (3, .int (nI ((tsF (fun v => cbB (M 2 0) (M 5) (M 10) (M 11) (M 12) p (nI v) nn) (fun k => (fun v => (fun v => cbB (M 2 0) (M 5) (M 10) (M 11) (M 12) p (nI v) nn) v && decide (nI v ≤ suR (M 2 0) (M 5) p k))) i).2))), (5, .int (nI i))] (dk dtX7_test_1 2 rfl) rfl (nI_1 _) (by decide) rfl ?_
                    refine g_goto F 47 (dk dtX7_test_1 3 rfl) (by decide) ?_
                    refine g_sub [3, 4, 5, 6, 2, 7, 1, 0] (L1 := [(0, .ref (B + 0)), (1, .int (nI p)), (2, .int ((tsF (fun v => cbB (M 2 0) (M 5) (M 10) (M 11) (M 12) p (nI v) nn) (fun k => (fun v => (fun v => cbB (M 2 0) (M 5) (M 10) (M 11) (M 12) p (nI v) nn) v && decide (nI v ≤ suR (M 2 0) (M 5) p k))) i).1)), (3, .int (nI ((tsF (fun v => cbB (M 2 0) (M 5) (M 10) (M 11) (M 12) p (nI v) nn) (fun k => (fun v => (fun v => cbB (M 2 0) (M 5) (M 10) (M 11) (M 12) p (nI v) nn) v && decide (nI v ≤ suR (M 2 0) (M 5) p k))) i).2))), (4, .int (nI ((cnB (fun v => cbB (M 2 0) (M 5) (M 10) (M 11) (M 12) p (nI v) nn) j) + 1))), (5, .int (nI i)), (6, .int (nI ((cnB (fun v => (fun v => cbB (M 2 0) (M 5) (M 10) (M 11) (M 12) p (nI v) nn) v && decide (nI v ≤ suR (M 2 0) (M 5) p i)) j) + 1))), (7, .int (nI (j + 1)))]) rfl ?_
                    have eq47_4 : (nI ((cnB (fun v => cbB (M 2 0) (M 5) (M 10) (M 11) (M 12) p (nI v) nn) j) + 1) : Int32) = nI (cnB (fun v => cbB (M 2 0) (M 5) (M 10) (M 11) (M 12) p (nI v) nn) (j + 1)) := by
                      exact (congrArg nI (cnB_y (f := (fun v => cbB (M 2 0) (M 5) (M 10) (M 11) (M 12) p (nI v) nn)) c63)).symm
                    have eq47_6 : (nI ((cnB (fun v => (fun v => cbB (M 2 0) (M 5) (M 10) (M 11) (M 12) p (nI v) nn) v && decide (nI v ≤ suR (M 2 0) (M 5) p i)) j) + 1) : Int32) = nI (cnB (fun v => (fun v => cbB (M 2 0) (M 5) (M 10) (M 11) (M 12) p (nI v) nn) v && decide (nI v ≤ suR (M 2 0) (M 5) p i)) (j + 1)) := by
                      exact (congrArg nI (cnB_y (f := (fun v => (fun v => cbB (M 2 0) (M 5) (M 10) (M 11) (M 12) p (nI v) nn) v && decide (nI v ≤ suR (M 2 0) (M 5) p i))) (and_i c83 (Int32.not_lt.mp c99)))).symm
                    refine g_st (M1 := M) (L1 := [(0, .ref (B + 0)), (1, .int (nI p)), (2, .int ((tsF (fun v => cbB (M 2 0) (M 5) (M 10) (M 11) (M 12) p (nI v) nn) (fun k => (fun v => (fun v => cbB (M 2 0) (M 5) (M 10) (M 11) (M 12) p (nI v) nn) v && decide (nI v ≤ suR (M 2 0) (M 5) p k))) i).1)), (3, .int (nI ((tsF (fun v => cbB (M 2 0) (M 5) (M 10) (M 11) (M 12) p (nI v) nn) (fun k => (fun v => (fun v => cbB (M 2 0) (M 5) (M 10) (M 11) (M 12) p (nI v) nn) v && decide (nI v ≤ suR (M 2 0) (M 5) p k))) i).2))), (4, .int (nI (cnB (fun v => cbB (M 2 0) (M 5) (M 10) (M 11) (M 12) p (nI v) nn) (j + 1)))), (5, .int (nI i)), (6, .int (nI (cnB (fun v => (fun v => cbB (M 2 0) (M 5) (M 10) (M 11) (M 12) p (nI v) nn) v && decide (nI v ≤ suR (M 2 0) (M 5) p i)) (j + 1)))), (7, .int (nI (j + 1)))]) rfl (lc rfl (lc rfl (lc rfl (lc rfl (lc (vi eq47_4) (lc rfl (lc (vi eq47_6) (lc rfl rfl)))))))) rfl ?_
                    exact ih47 (j + 1) (by omega) (by omega)
        refine g_sub [3, 4, 5, 6, 1, 7, 2, 0] (L1 := [(0, .ref (B + 0)), (1, .int (nI p)), (2, .int ((tsF (fun v => cbB (M 2 0) (M 5) (M 10) (M 11) (M 12) p (nI v) nn) (fun k => (fun v => (fun v => cbB (M 2 0) (M 5) (M 10) (M 11) (M 12) p (nI v) nn) v && decide (nI v ≤ suR (M 2 0) (M 5) p k))) i).1)), (3, .int (nI ((tsF (fun v => cbB (M 2 0) (M 5) (M 10) (M 11) (M 12) p (nI v) nn) (fun k => (fun v => (fun v => cbB (M 2 0) (M 5) (M 10) (M 11) (M 12) p (nI v) nn) v && decide (nI v ≤ suR (M 2 0) (M 5) p k))) i).2))), (4, .int (nI 0)), (5, .int (nI i)), (6, .int (nI 0)), (7, .int (nI 0))]) rfl ?_
        exact lp47 101 0 (by omega) (by omega)
  refine g_sub [4, 5, 3, 2, 1, 0] (L1 := [(0, .ref (B + 0)), (1, .int (nI p)), (2, .int (-9)), (3, .int (nI 101)), (4, .int (nI 0)), (5, .int (nI 0))]) rfl ?_
  exact lp27 (K + 1) 0 0 ⟨by omega, by omega, fun h => absurd h (Nat.lt_irrefl 0)⟩ (by omega)
set_option maxRecDepth 100000 in
set_option maxHeartbeats 4000000 in
theorem k_X7_test_bad (l : Launch) (D : DX) (B : Nat) (T : Int64) (M : Mem) (h0 : M 0 0 = nI 0) (P : Nat) (hP : M 2 2 = nI P) (hP5 : P ≤ 5) (p : Int32) (hb : ¬ inR p P) : Ci l D B 14 (celM D B) yX7_test cX7_test 8 (some .int) 3 [.ref (B + 0), .int p] T M (fun rz T1 M1 => rz = (-1) ∧ T1 = T ∧ M1 = M) := by
  refine g_entryi (L := [(0, .ref (B + 0)), (1, .int p)]) (by decide) (Nat.le_of_ble_eq_true rfl) rfl ?_
  intro zp ze zs zm zb zt zc Q F hQ
  refine g_aload_n F 0 (dk dtX7_test_0 0 rfl) rfl ?_
  refine g_iconst F (nI 0) (dk dtX7_test_0 1 rfl) (by decide) ?_
  refine g_put F fa_X7_56 (dk dtX7_test_0 2 rfl) (by decide) (cm0 D B _ _) (Nat.le_of_ble_eq_true rfl) rfl rfl (cm0 D B _ _) ?_
  refine g_mem (up2_same h0) ?_
  refine g_aload_n F 0 (dk dtX7_test_0 3 rfl) rfl ?_
  refine g_iload_n F 1 (dk dtX7_test_0 4 rfl) rfl ?_
  refine g_callVi F (As := [.int p]) (st := []) cv_X7_129 (dk dtX7_test_0 5 rfl) (by decide) (cm0 D B _ _) rfl rfl (Nat.le_of_ble_eq_true rfl) ⟨by decide, by decide⟩ (k_X7_isOne l D B _ _ _ P hP (by omega)) (fun r7 T7 M7 hp7 => ?_)
  obtain ⟨e1, e2, e3⟩ := hp7
  replace e1 := e1.symm; replace e2 := e2.symm; replace e3 := e3.symm; subst e1; subst e2; subst e3
  refine g_if_neB F 15 (dk dtX7_test_0 6 rfl) (by decide) (fun c10 => ?_) (fun c10 => ?_)
  · -- taken at 10
    exact absurd c10 hb
  · -- not taken at 10
    refine g_iconst F (-1) (dk dtX7_test_0 7 rfl) (by decide) ?_
    refine g_iret (F := F) hQ (dk dtX7_test_0 8 rfl) ?_
    exact ⟨rfl, rfl, rfl⟩
end
