section
-- ===== PART A: goes FIRST, ahead of the names: the tables' words, and 'selects' of the private methods out of them =====
/-- a private method of a class that the tables say can be made, by its rows of tables_1 -/
def lw_okq (q : MethodName × Nat) : Prop := (q.1.cls ≠ "java/lang/invoke/MethodHandle" ∧ q.1.cls ≠ "java/lang/invoke/VarHandle") ∧ Cond.instantiable q.1.cls q.2 ∈ tables_1 ∧ Cond.privateMethod q.1 ∈ tables_1 ∧ Cond.instanceMethod q.1 ∈ tables_1
theorem lw_p0 : lw_okq (⟨"DogsOnLeads$Reader", "step", "()V"⟩, 7) := ⟨⟨by decide +kernel, by decide +kernel⟩, List.mem_of_getElem? (i := 127) (by decide +kernel), List.mem_of_getElem? (i := 262) (by decide +kernel), List.mem_of_getElem? (i := 263) (by decide +kernel)⟩
theorem lw_p1 : lw_okq (⟨"DogsOnLeads$Reader", "passWord", "()I"⟩, 7) := ⟨⟨by decide +kernel, by decide +kernel⟩, List.mem_of_getElem? (i := 127) (by decide +kernel), List.mem_of_getElem? (i := 269) (by decide +kernel), List.mem_of_getElem? (i := 270) (by decide +kernel)⟩
theorem lw_p2 : lw_okq (⟨"DogsOnLeads$Reader", "isSpelled", "(Ljava/lang/String;)Z"⟩, 7) := ⟨⟨by decide +kernel, by decide +kernel⟩, List.mem_of_getElem? (i := 127) (by decide +kernel), List.mem_of_getElem? (i := 289) (by decide +kernel), List.mem_of_getElem? (i := 290) (by decide +kernel)⟩
theorem lw_p3 : lw_okq (⟨"DogsOnLeads$Reader", "passNumber", "()I"⟩, 7) := ⟨⟨by decide +kernel, by decide +kernel⟩, List.mem_of_getElem? (i := 127) (by decide +kernel), List.mem_of_getElem? (i := 298) (by decide +kernel), List.mem_of_getElem? (i := 299) (by decide +kernel)⟩
theorem lw_p4 : lw_okq (⟨"DogsOnLeads$Reader", "pass", "(I)Z"⟩, 7) := ⟨⟨by decide +kernel, by decide +kernel⟩, List.mem_of_getElem? (i := 127) (by decide +kernel), List.mem_of_getElem? (i := 362) (by decide +kernel), List.mem_of_getElem? (i := 363) (by decide +kernel)⟩
theorem lw_p5 : lw_okq (⟨"DogsOnLeads$Reader", "readExpression", "(I)Z"⟩, 7) := ⟨⟨by decide +kernel, by decide +kernel⟩, List.mem_of_getElem? (i := 127) (by decide +kernel), List.mem_of_getElem? (i := 366) (by decide +kernel), List.mem_of_getElem? (i := 367) (by decide +kernel)⟩
theorem lw_p6 : lw_okq (⟨"DogsOnLeads$Reader", "readConjunction", "(I)Z"⟩, 7) := ⟨⟨by decide +kernel, by decide +kernel⟩, List.mem_of_getElem? (i := 127) (by decide +kernel), List.mem_of_getElem? (i := 370) (by decide +kernel), List.mem_of_getElem? (i := 371) (by decide +kernel)⟩
theorem lw_p7 : lw_okq (⟨"DogsOnLeads$Reader", "readNegation", "(I)Z"⟩, 7) := ⟨⟨by decide +kernel, by decide +kernel⟩, List.mem_of_getElem? (i := 127) (by decide +kernel), List.mem_of_getElem? (i := 374) (by decide +kernel), List.mem_of_getElem? (i := 375) (by decide +kernel)⟩
theorem lw_p8 : lw_okq (⟨"DogsOnLeads$Reader", "readComparison", "(I)Z"⟩, 7) := ⟨⟨by decide +kernel, by decide +kernel⟩, List.mem_of_getElem? (i := 127) (by decide +kernel), List.mem_of_getElem? (i := 378) (by decide +kernel), List.mem_of_getElem? (i := 379) (by decide +kernel)⟩
theorem lw_p9 : lw_okq (⟨"DogsOnLeads$Reader", "readSum", "(I)Z"⟩, 7) := ⟨⟨by decide +kernel, by decide +kernel⟩, List.mem_of_getElem? (i := 127) (by decide +kernel), List.mem_of_getElem? (i := 382) (by decide +kernel), List.mem_of_getElem? (i := 383) (by decide +kernel)⟩
theorem lw_p10 : lw_okq (⟨"DogsOnLeads$Reader", "readTerm", "(I)Z"⟩, 7) := ⟨⟨by decide +kernel, by decide +kernel⟩, List.mem_of_getElem? (i := 127) (by decide +kernel), List.mem_of_getElem? (i := 386) (by decide +kernel), List.mem_of_getElem? (i := 387) (by decide +kernel)⟩
theorem lw_p11 : lw_okq (⟨"DogsOnLeads$Reader", "readOne", "(I)Z"⟩, 7) := ⟨⟨by decide +kernel, by decide +kernel⟩, List.mem_of_getElem? (i := 127) (by decide +kernel), List.mem_of_getElem? (i := 390) (by decide +kernel), List.mem_of_getElem? (i := 391) (by decide +kernel)⟩
theorem lw_p12 : lw_okq (⟨"DogsOnLeads", "isDog", "(I)Z"⟩, 14) := ⟨⟨by decide +kernel, by decide +kernel⟩, List.mem_of_getElem? (i := 19) (by decide +kernel), List.mem_of_getElem? (i := 472) (by decide +kernel), List.mem_of_getElem? (i := 473) (by decide +kernel)⟩
theorem lw_p13 : lw_okq (⟨"DogsOnLeads$Pack", "pullsAs", "(III)I"⟩, 8) := ⟨⟨by decide +kernel, by decide +kernel⟩, List.mem_of_getElem? (i := 27) (by decide +kernel), List.mem_of_getElem? (i := 491) (by decide +kernel), List.mem_of_getElem? (i := 492) (by decide +kernel)⟩
theorem lw_p14 : lw_okq (⟨"DogsOnLeads", "ruledInHand", "(III)I"⟩, 14) := ⟨⟨by decide +kernel, by decide +kernel⟩, List.mem_of_getElem? (i := 19) (by decide +kernel), List.mem_of_getElem? (i := 501) (by decide +kernel), List.mem_of_getElem? (i := 502) (by decide +kernel)⟩
theorem lw_p15 : lw_okq (⟨"DogsOnLeads", "ruled", "(IIIII)I"⟩, 14) := ⟨⟨by decide +kernel, by decide +kernel⟩, List.mem_of_getElem? (i := 19) (by decide +kernel), List.mem_of_getElem? (i := 509) (by decide +kernel), List.mem_of_getElem? (i := 510) (by decide +kernel)⟩
def lw_privs_1 : List (MethodName × Nat) := [(⟨"DogsOnLeads$Reader", "step", "()V"⟩, 7), (⟨"DogsOnLeads$Reader", "passWord", "()I"⟩, 7), (⟨"DogsOnLeads$Reader", "isSpelled", "(Ljava/lang/String;)Z"⟩, 7), (⟨"DogsOnLeads$Reader", "passNumber", "()I"⟩, 7), (⟨"DogsOnLeads$Reader", "pass", "(I)Z"⟩, 7), (⟨"DogsOnLeads$Reader", "readExpression", "(I)Z"⟩, 7), (⟨"DogsOnLeads$Reader", "readConjunction", "(I)Z"⟩, 7), (⟨"DogsOnLeads$Reader", "readNegation", "(I)Z"⟩, 7), (⟨"DogsOnLeads$Reader", "readComparison", "(I)Z"⟩, 7), (⟨"DogsOnLeads$Reader", "readSum", "(I)Z"⟩, 7), (⟨"DogsOnLeads$Reader", "readTerm", "(I)Z"⟩, 7), (⟨"DogsOnLeads$Reader", "readOne", "(I)Z"⟩, 7), (⟨"DogsOnLeads", "isDog", "(I)Z"⟩, 14), (⟨"DogsOnLeads$Pack", "pullsAs", "(III)I"⟩, 8), (⟨"DogsOnLeads", "ruledInHand", "(III)I"⟩, 14), (⟨"DogsOnLeads", "ruled", "(IIIII)I"⟩, 14)]
theorem lw_r1 : ∀ q ∈ lw_privs_1, lw_okq q := List.forall_mem_cons.mpr ⟨lw_p0, List.forall_mem_cons.mpr ⟨lw_p1, List.forall_mem_cons.mpr ⟨lw_p2, List.forall_mem_cons.mpr ⟨lw_p3, List.forall_mem_cons.mpr ⟨lw_p4, List.forall_mem_cons.mpr ⟨lw_p5, List.forall_mem_cons.mpr ⟨lw_p6, List.forall_mem_cons.mpr ⟨lw_p7, List.forall_mem_cons.mpr ⟨lw_p8, List.forall_mem_cons.mpr ⟨lw_p9, List.forall_mem_cons.mpr ⟨lw_p10, List.forall_mem_cons.mpr ⟨lw_p11, List.forall_mem_cons.mpr ⟨lw_p12, List.forall_mem_cons.mpr ⟨lw_p13, List.forall_mem_cons.mpr ⟨lw_p14, List.forall_mem_cons.mpr ⟨lw_p15, fun _ h => absurd h List.not_mem_nil⟩⟩⟩⟩⟩⟩⟩⟩⟩⟩⟩⟩⟩⟩⟩⟩
theorem lw_p16 : lw_okq (⟨"DogsOnLeads$Text", "work", "(I[I)V"⟩, 5) := ⟨⟨by decide +kernel, by decide +kernel⟩, List.mem_of_getElem? (i := 133) (by decide +kernel), List.mem_of_getElem? (i := 518) (by decide +kernel), List.mem_of_getElem? (i := 519) (by decide +kernel)⟩
theorem lw_p17 : lw_okq (⟨"DogsOnLeads$Text", "push", "(I)V"⟩, 5) := ⟨⟨by decide +kernel, by decide +kernel⟩, List.mem_of_getElem? (i := 133) (by decide +kernel), List.mem_of_getElem? (i := 522) (by decide +kernel), List.mem_of_getElem? (i := 523) (by decide +kernel)⟩
theorem lw_p18 : lw_okq (⟨"DogsOnLeads$Text", "pop", "()I"⟩, 5) := ⟨⟨by decide +kernel, by decide +kernel⟩, List.mem_of_getElem? (i := 133) (by decide +kernel), List.mem_of_getElem? (i := 526) (by decide +kernel), List.mem_of_getElem? (i := 527) (by decide +kernel)⟩
theorem lw_p19 : lw_okq (⟨"DogsOnLeads", "makeTangle", "()V"⟩, 14) := ⟨⟨by decide +kernel, by decide +kernel⟩, List.mem_of_getElem? (i := 19) (by decide +kernel), List.mem_of_getElem? (i := 577) (by decide +kernel), List.mem_of_getElem? (i := 578) (by decide +kernel)⟩
theorem lw_p20 : lw_okq (⟨"DogsOnLeads$Row", "lastNear", "(I)I"⟩, 6) := ⟨⟨by decide +kernel, by decide +kernel⟩, List.mem_of_getElem? (i := 33) (by decide +kernel), List.mem_of_getElem? (i := 585) (by decide +kernel), List.mem_of_getElem? (i := 586) (by decide +kernel)⟩
theorem lw_p21 : lw_okq (⟨"DogsOnLeads$Row", "remove", "(I)V"⟩, 6) := ⟨⟨by decide +kernel, by decide +kernel⟩, List.mem_of_getElem? (i := 33) (by decide +kernel), List.mem_of_getElem? (i := 590) (by decide +kernel), List.mem_of_getElem? (i := 591) (by decide +kernel)⟩
theorem lw_p22 : lw_okq (⟨"DogsOnLeads$Row", "takeOver", "(ILDogsOnLeads$Row;I)V"⟩, 6) := ⟨⟨by decide +kernel, by decide +kernel⟩, List.mem_of_getElem? (i := 33) (by decide +kernel), List.mem_of_getElem? (i := 594) (by decide +kernel), List.mem_of_getElem? (i := 595) (by decide +kernel)⟩
theorem lw_p23 : lw_okq (⟨"DogsOnLeads", "allDogs", "()I"⟩, 14) := ⟨⟨by decide +kernel, by decide +kernel⟩, List.mem_of_getElem? (i := 19) (by decide +kernel), List.mem_of_getElem? (i := 625) (by decide +kernel), List.mem_of_getElem? (i := 626) (by decide +kernel)⟩
theorem lw_p24 : lw_okq (⟨"DogsOnLeads", "leftWithout", "(I)I"⟩, 14) := ⟨⟨by decide +kernel, by decide +kernel⟩, List.mem_of_getElem? (i := 19) (by decide +kernel), List.mem_of_getElem? (i := 629) (by decide +kernel), List.mem_of_getElem? (i := 630) (by decide +kernel)⟩
theorem lw_p25 : lw_okq (⟨"DogsOnLeads", "oddsInHand", "()I"⟩, 14) := ⟨⟨by decide +kernel, by decide +kernel⟩, List.mem_of_getElem? (i := 19) (by decide +kernel), List.mem_of_getElem? (i := 651) (by decide +kernel), List.mem_of_getElem? (i := 652) (by decide +kernel)⟩
theorem lw_p26 : lw_okq (⟨"DogsOnLeads", "findBestOrder", "()I"⟩, 14) := ⟨⟨by decide +kernel, by decide +kernel⟩, List.mem_of_getElem? (i := 19) (by decide +kernel), List.mem_of_getElem? (i := 655) (by decide +kernel), List.mem_of_getElem? (i := 656) (by decide +kernel)⟩
theorem lw_p27 : lw_okq (⟨"DogsOnLeads$Orders", "extend", "(III)V"⟩, 6) := ⟨⟨by decide +kernel, by decide +kernel⟩, List.mem_of_getElem? (i := 100) (by decide +kernel), List.mem_of_getElem? (i := 677) (by decide +kernel), List.mem_of_getElem? (i := 678) (by decide +kernel)⟩
theorem lw_p28 : lw_okq (⟨"DogsOnLeads$Orders", "priceAt", "(II)I"⟩, 6) := ⟨⟨by decide +kernel, by decide +kernel⟩, List.mem_of_getElem? (i := 100) (by decide +kernel), List.mem_of_getElem? (i := 682) (by decide +kernel), List.mem_of_getElem? (i := 683) (by decide +kernel)⟩
theorem lw_p29 : lw_okq (⟨"DogsOnLeads", "refusalOfOrder", "(I)I"⟩, 14) := ⟨⟨by decide +kernel, by decide +kernel⟩, List.mem_of_getElem? (i := 19) (by decide +kernel), List.mem_of_getElem? (i := 694) (by decide +kernel), List.mem_of_getElem? (i := 695) (by decide +kernel)⟩
theorem lw_p30 : lw_okq (⟨"DogsOnLeads", "dogsOnRight", "(I)I"⟩, 14) := ⟨⟨by decide +kernel, by decide +kernel⟩, List.mem_of_getElem? (i := 19) (by decide +kernel), List.mem_of_getElem? (i := 705) (by decide +kernel), List.mem_of_getElem? (i := 706) (by decide +kernel)⟩
theorem lw_p31 : lw_okq (⟨"DogsOnLeads", "woundAt", "(I)I"⟩, 14) := ⟨⟨by decide +kernel, by decide +kernel⟩, List.mem_of_getElem? (i := 19) (by decide +kernel), List.mem_of_getElem? (i := 713) (by decide +kernel), List.mem_of_getElem? (i := 714) (by decide +kernel)⟩
def lw_privs_2 : List (MethodName × Nat) := [(⟨"DogsOnLeads$Text", "work", "(I[I)V"⟩, 5), (⟨"DogsOnLeads$Text", "push", "(I)V"⟩, 5), (⟨"DogsOnLeads$Text", "pop", "()I"⟩, 5), (⟨"DogsOnLeads", "makeTangle", "()V"⟩, 14), (⟨"DogsOnLeads$Row", "lastNear", "(I)I"⟩, 6), (⟨"DogsOnLeads$Row", "remove", "(I)V"⟩, 6), (⟨"DogsOnLeads$Row", "takeOver", "(ILDogsOnLeads$Row;I)V"⟩, 6), (⟨"DogsOnLeads", "allDogs", "()I"⟩, 14), (⟨"DogsOnLeads", "leftWithout", "(I)I"⟩, 14), (⟨"DogsOnLeads", "oddsInHand", "()I"⟩, 14), (⟨"DogsOnLeads", "findBestOrder", "()I"⟩, 14), (⟨"DogsOnLeads$Orders", "extend", "(III)V"⟩, 6), (⟨"DogsOnLeads$Orders", "priceAt", "(II)I"⟩, 6), (⟨"DogsOnLeads", "refusalOfOrder", "(I)I"⟩, 14), (⟨"DogsOnLeads", "dogsOnRight", "(I)I"⟩, 14), (⟨"DogsOnLeads", "woundAt", "(I)I"⟩, 14)]
theorem lw_r2 : ∀ q ∈ lw_privs_2, lw_okq q := List.forall_mem_cons.mpr ⟨lw_p16, List.forall_mem_cons.mpr ⟨lw_p17, List.forall_mem_cons.mpr ⟨lw_p18, List.forall_mem_cons.mpr ⟨lw_p19, List.forall_mem_cons.mpr ⟨lw_p20, List.forall_mem_cons.mpr ⟨lw_p21, List.forall_mem_cons.mpr ⟨lw_p22, List.forall_mem_cons.mpr ⟨lw_p23, List.forall_mem_cons.mpr ⟨lw_p24, List.forall_mem_cons.mpr ⟨lw_p25, List.forall_mem_cons.mpr ⟨lw_p26, List.forall_mem_cons.mpr ⟨lw_p27, List.forall_mem_cons.mpr ⟨lw_p28, List.forall_mem_cons.mpr ⟨lw_p29, List.forall_mem_cons.mpr ⟨lw_p30, List.forall_mem_cons.mpr ⟨lw_p31, fun _ h => absurd h List.not_mem_nil⟩⟩⟩⟩⟩⟩⟩⟩⟩⟩⟩⟩⟩⟩⟩⟩
theorem lw_p32 : lw_okq (⟨"DogsOnLeads", "pullsTogether", "(I)I"⟩, 14) := ⟨⟨by decide +kernel, by decide +kernel⟩, List.mem_of_getElem? (i := 19) (by decide +kernel), List.mem_of_getElem? (i := 717) (by decide +kernel), List.mem_of_getElem? (i := 718) (by decide +kernel)⟩
theorem lw_p33 : lw_okq (⟨"DogsOnLeads", "rowsLeadingTo", "(LDogsOnLeads$Sheet;IIZ)I"⟩, 14) := ⟨⟨by decide +kernel, by decide +kernel⟩, List.mem_of_getElem? (i := 19) (by decide +kernel), List.mem_of_getElem? (i := 729) (by decide +kernel), List.mem_of_getElem? (i := 730) (by decide +kernel)⟩
theorem lw_p34 : lw_okq (⟨"DogsOnLeads", "isTrialOrder", "(LDogsOnLeads$Sheet;)Z"⟩, 14) := ⟨⟨by decide +kernel, by decide +kernel⟩, List.mem_of_getElem? (i := 19) (by decide +kernel), List.mem_of_getElem? (i := 733) (by decide +kernel), List.mem_of_getElem? (i := 734) (by decide +kernel)⟩
theorem lw_p35 : lw_okq (⟨"DogsOnLeads", "wouldMeetItsPlace", "(II)Z"⟩, 14) := ⟨⟨by decide +kernel, by decide +kernel⟩, List.mem_of_getElem? (i := 19) (by decide +kernel), List.mem_of_getElem? (i := 737) (by decide +kernel), List.mem_of_getElem? (i := 738) (by decide +kernel)⟩
theorem lw_p36 : lw_okq (⟨"DogsOnLeads", "changeTrial", "(I)V"⟩, 14) := ⟨⟨by decide +kernel, by decide +kernel⟩, List.mem_of_getElem? (i := 19) (by decide +kernel), List.mem_of_getElem? (i := 741) (by decide +kernel), List.mem_of_getElem? (i := 742) (by decide +kernel)⟩
theorem lw_p37 : lw_okq (⟨"DogsOnLeads", "findFetchOrder", "()I"⟩, 14) := ⟨⟨by decide +kernel, by decide +kernel⟩, List.mem_of_getElem? (i := 19) (by decide +kernel), List.mem_of_getElem? (i := 749) (by decide +kernel), List.mem_of_getElem? (i := 750) (by decide +kernel)⟩
theorem lw_p38 : lw_okq (⟨"DogsOnLeads", "findWorths", "()V"⟩, 14) := ⟨⟨by decide +kernel, by decide +kernel⟩, List.mem_of_getElem? (i := 19) (by decide +kernel), List.mem_of_getElem? (i := 770) (by decide +kernel), List.mem_of_getElem? (i := 771) (by decide +kernel)⟩
theorem lw_p39 : lw_okq (⟨"DogsOnLeads", "worthOf", "(I)I"⟩, 14) := ⟨⟨by decide +kernel, by decide +kernel⟩, List.mem_of_getElem? (i := 19) (by decide +kernel), List.mem_of_getElem? (i := 774) (by decide +kernel), List.mem_of_getElem? (i := 775) (by decide +kernel)⟩
theorem lw_p40 : lw_okq (⟨"DogsOnLeads", "leftOfDrawn", "(II)I"⟩, 14) := ⟨⟨by decide +kernel, by decide +kernel⟩, List.mem_of_getElem? (i := 19) (by decide +kernel), List.mem_of_getElem? (i := 782) (by decide +kernel), List.mem_of_getElem? (i := 783) (by decide +kernel)⟩
theorem lw_p41 : lw_okq (⟨"DogsOnLeadsModel", "spell", "(IIIIIIIII)V"⟩, 56) := ⟨⟨by decide +kernel, by decide +kernel⟩, List.mem_of_getElem? (i := 861) (by decide +kernel), List.mem_of_getElem? (i := 867) (by decide +kernel), List.mem_of_getElem? (i := 868) (by decide +kernel)⟩
theorem lw_p42 : lw_okq (⟨"DogsOnLeadsModel", "isDog", "(I)Z"⟩, 56) := ⟨⟨by decide +kernel, by decide +kernel⟩, List.mem_of_getElem? (i := 861) (by decide +kernel), List.mem_of_getElem? (i := 1054) (by decide +kernel), List.mem_of_getElem? (i := 1055) (by decide +kernel)⟩
theorem lw_p43 : lw_okq (⟨"DogsOnLeadsModel", "placeOf", "(I)I"⟩, 56) := ⟨⟨by decide +kernel, by decide +kernel⟩, List.mem_of_getElem? (i := 861) (by decide +kernel), List.mem_of_getElem? (i := 1064) (by decide +kernel), List.mem_of_getElem? (i := 1065) (by decide +kernel)⟩
theorem lw_p44 : lw_okq (⟨"DogsOnLeadsModel", "pulls", "(II)I"⟩, 56) := ⟨⟨by decide +kernel, by decide +kernel⟩, List.mem_of_getElem? (i := 861) (by decide +kernel), List.mem_of_getElem? (i := 1068) (by decide +kernel), List.mem_of_getElem? (i := 1069) (by decide +kernel)⟩
theorem lw_p45 : lw_okq (⟨"DogsOnLeadsModel", "read", "(II)I"⟩, 56) := ⟨⟨by decide +kernel, by decide +kernel⟩, List.mem_of_getElem? (i := 861) (by decide +kernel), List.mem_of_getElem? (i := 1081) (by decide +kernel), List.mem_of_getElem? (i := 1082) (by decide +kernel)⟩
theorem lw_p46 : lw_okq (⟨"DogsOnLeadsModel", "next", "()V"⟩, 56) := ⟨⟨by decide +kernel, by decide +kernel⟩, List.mem_of_getElem? (i := 861) (by decide +kernel), List.mem_of_getElem? (i := 1085) (by decide +kernel), List.mem_of_getElem? (i := 1086) (by decide +kernel)⟩
theorem lw_p47 : lw_okq (⟨"DogsOnLeadsModel", "byteAt", "(I)I"⟩, 56) := ⟨⟨by decide +kernel, by decide +kernel⟩, List.mem_of_getElem? (i := 861) (by decide +kernel), List.mem_of_getElem? (i := 1089) (by decide +kernel), List.mem_of_getElem? (i := 1090) (by decide +kernel)⟩
def lw_privs_3 : List (MethodName × Nat) := [(⟨"DogsOnLeads", "pullsTogether", "(I)I"⟩, 14), (⟨"DogsOnLeads", "rowsLeadingTo", "(LDogsOnLeads$Sheet;IIZ)I"⟩, 14), (⟨"DogsOnLeads", "isTrialOrder", "(LDogsOnLeads$Sheet;)Z"⟩, 14), (⟨"DogsOnLeads", "wouldMeetItsPlace", "(II)Z"⟩, 14), (⟨"DogsOnLeads", "changeTrial", "(I)V"⟩, 14), (⟨"DogsOnLeads", "findFetchOrder", "()I"⟩, 14), (⟨"DogsOnLeads", "findWorths", "()V"⟩, 14), (⟨"DogsOnLeads", "worthOf", "(I)I"⟩, 14), (⟨"DogsOnLeads", "leftOfDrawn", "(II)I"⟩, 14), (⟨"DogsOnLeadsModel", "spell", "(IIIIIIIII)V"⟩, 56), (⟨"DogsOnLeadsModel", "isDog", "(I)Z"⟩, 56), (⟨"DogsOnLeadsModel", "placeOf", "(I)I"⟩, 56), (⟨"DogsOnLeadsModel", "pulls", "(II)I"⟩, 56), (⟨"DogsOnLeadsModel", "read", "(II)I"⟩, 56), (⟨"DogsOnLeadsModel", "next", "()V"⟩, 56), (⟨"DogsOnLeadsModel", "byteAt", "(I)I"⟩, 56)]
theorem lw_r3 : ∀ q ∈ lw_privs_3, lw_okq q := List.forall_mem_cons.mpr ⟨lw_p32, List.forall_mem_cons.mpr ⟨lw_p33, List.forall_mem_cons.mpr ⟨lw_p34, List.forall_mem_cons.mpr ⟨lw_p35, List.forall_mem_cons.mpr ⟨lw_p36, List.forall_mem_cons.mpr ⟨lw_p37, List.forall_mem_cons.mpr ⟨lw_p38, List.forall_mem_cons.mpr ⟨lw_p39, List.forall_mem_cons.mpr ⟨lw_p40, List.forall_mem_cons.mpr ⟨lw_p41, List.forall_mem_cons.mpr ⟨lw_p42, List.forall_mem_cons.mpr ⟨lw_p43, List.forall_mem_cons.mpr ⟨lw_p44, List.forall_mem_cons.mpr ⟨lw_p45, List.forall_mem_cons.mpr ⟨lw_p46, List.forall_mem_cons.mpr ⟨lw_p47, fun _ h => absurd h List.not_mem_nil⟩⟩⟩⟩⟩⟩⟩⟩⟩⟩⟩⟩⟩⟩⟩⟩
theorem lw_p48 : lw_okq (⟨"DogsOnLeadsModel", "isWord", "(IIIIIIII)Z"⟩, 56) := ⟨⟨by decide +kernel, by decide +kernel⟩, List.mem_of_getElem? (i := 861) (by decide +kernel), List.mem_of_getElem? (i := 1097) (by decide +kernel), List.mem_of_getElem? (i := 1098) (by decide +kernel)⟩
theorem lw_p49 : lw_okq (⟨"DogsOnLeadsModel", "isLetter", "(II)Z"⟩, 56) := ⟨⟨by decide +kernel, by decide +kernel⟩, List.mem_of_getElem? (i := 861) (by decide +kernel), List.mem_of_getElem? (i := 1101) (by decide +kernel), List.mem_of_getElem? (i := 1102) (by decide +kernel)⟩
theorem lw_p50 : lw_okq (⟨"DogsOnLeadsModel", "part", "(Z)I"⟩, 56) := ⟨⟨by decide +kernel, by decide +kernel⟩, List.mem_of_getElem? (i := 861) (by decide +kernel), List.mem_of_getElem? (i := 1105) (by decide +kernel), List.mem_of_getElem? (i := 1106) (by decide +kernel)⟩
theorem lw_p51 : lw_okq (⟨"DogsOnLeadsModel", "fail", "()V"⟩, 56) := ⟨⟨by decide +kernel, by decide +kernel⟩, List.mem_of_getElem? (i := 861) (by decide +kernel), List.mem_of_getElem? (i := 1109) (by decide +kernel), List.mem_of_getElem? (i := 1110) (by decide +kernel)⟩
theorem lw_p52 : lw_okq (⟨"DogsOnLeadsModel", "either", "()I"⟩, 56) := ⟨⟨by decide +kernel, by decide +kernel⟩, List.mem_of_getElem? (i := 861) (by decide +kernel), List.mem_of_getElem? (i := 1113) (by decide +kernel), List.mem_of_getElem? (i := 1114) (by decide +kernel)⟩
theorem lw_p53 : lw_okq (⟨"DogsOnLeadsModel", "both", "()I"⟩, 56) := ⟨⟨by decide +kernel, by decide +kernel⟩, List.mem_of_getElem? (i := 861) (by decide +kernel), List.mem_of_getElem? (i := 1117) (by decide +kernel), List.mem_of_getElem? (i := 1118) (by decide +kernel)⟩
theorem lw_p54 : lw_okq (⟨"DogsOnLeadsModel", "not", "()I"⟩, 56) := ⟨⟨by decide +kernel, by decide +kernel⟩, List.mem_of_getElem? (i := 861) (by decide +kernel), List.mem_of_getElem? (i := 1121) (by decide +kernel), List.mem_of_getElem? (i := 1122) (by decide +kernel)⟩
theorem lw_p55 : lw_okq (⟨"DogsOnLeadsModel", "opens", "()Z"⟩, 56) := ⟨⟨by decide +kernel, by decide +kernel⟩, List.mem_of_getElem? (i := 861) (by decide +kernel), List.mem_of_getElem? (i := 1125) (by decide +kernel), List.mem_of_getElem? (i := 1126) (by decide +kernel)⟩
theorem lw_p56 : lw_okq (⟨"DogsOnLeadsModel", "added", "()I"⟩, 56) := ⟨⟨by decide +kernel, by decide +kernel⟩, List.mem_of_getElem? (i := 861) (by decide +kernel), List.mem_of_getElem? (i := 1129) (by decide +kernel), List.mem_of_getElem? (i := 1130) (by decide +kernel)⟩
theorem lw_p57 : lw_okq (⟨"DogsOnLeadsModel", "term", "()I"⟩, 56) := ⟨⟨by decide +kernel, by decide +kernel⟩, List.mem_of_getElem? (i := 861) (by decide +kernel), List.mem_of_getElem? (i := 1133) (by decide +kernel), List.mem_of_getElem? (i := 1134) (by decide +kernel)⟩
theorem lw_p58 : lw_okq (⟨"DogsOnLeadsModel", "atom", "()I"⟩, 56) := ⟨⟨by decide +kernel, by decide +kernel⟩, List.mem_of_getElem? (i := 861) (by decide +kernel), List.mem_of_getElem? (i := 1137) (by decide +kernel), List.mem_of_getElem? (i := 1138) (by decide +kernel)⟩
theorem lw_p59 : lw_okq (⟨"DogsOnLeadsModel", "isSign", "(I)Z"⟩, 56) := ⟨⟨by decide +kernel, by decide +kernel⟩, List.mem_of_getElem? (i := 861) (by decide +kernel), List.mem_of_getElem? (i := 1141) (by decide +kernel), List.mem_of_getElem? (i := 1142) (by decide +kernel)⟩
theorem lw_p60 : lw_okq (⟨"DogsOnLeadsModel", "name", "()I"⟩, 56) := ⟨⟨by decide +kernel, by decide +kernel⟩, List.mem_of_getElem? (i := 861) (by decide +kernel), List.mem_of_getElem? (i := 1145) (by decide +kernel), List.mem_of_getElem? (i := 1146) (by decide +kernel)⟩
theorem lw_p61 : lw_okq (⟨"DogsOnLeadsModel", "told2", "(III)I"⟩, 56) := ⟨⟨by decide +kernel, by decide +kernel⟩, List.mem_of_getElem? (i := 861) (by decide +kernel), List.mem_of_getElem? (i := 1159) (by decide +kernel), List.mem_of_getElem? (i := 1160) (by decide +kernel)⟩
theorem lw_p62 : lw_okq (⟨"DogsOnLeadsModel", "says", "(IIII)I"⟩, 56) := ⟨⟨by decide +kernel, by decide +kernel⟩, List.mem_of_getElem? (i := 861) (by decide +kernel), List.mem_of_getElem? (i := 1166) (by decide +kernel), List.mem_of_getElem? (i := 1167) (by decide +kernel)⟩
theorem lw_p63 : lw_okq (⟨"DogsOnLeadsModel", "swap", "(I)V"⟩, 56) := ⟨⟨by decide +kernel, by decide +kernel⟩, List.mem_of_getElem? (i := 861) (by decide +kernel), List.mem_of_getElem? (i := 1178) (by decide +kernel), List.mem_of_getElem? (i := 1179) (by decide +kernel)⟩
def lw_privs_4 : List (MethodName × Nat) := [(⟨"DogsOnLeadsModel", "isWord", "(IIIIIIII)Z"⟩, 56), (⟨"DogsOnLeadsModel", "isLetter", "(II)Z"⟩, 56), (⟨"DogsOnLeadsModel", "part", "(Z)I"⟩, 56), (⟨"DogsOnLeadsModel", "fail", "()V"⟩, 56), (⟨"DogsOnLeadsModel", "either", "()I"⟩, 56), (⟨"DogsOnLeadsModel", "both", "()I"⟩, 56), (⟨"DogsOnLeadsModel", "not", "()I"⟩, 56), (⟨"DogsOnLeadsModel", "opens", "()Z"⟩, 56), (⟨"DogsOnLeadsModel", "added", "()I"⟩, 56), (⟨"DogsOnLeadsModel", "term", "()I"⟩, 56), (⟨"DogsOnLeadsModel", "atom", "()I"⟩, 56), (⟨"DogsOnLeadsModel", "isSign", "(I)Z"⟩, 56), (⟨"DogsOnLeadsModel", "name", "()I"⟩, 56), (⟨"DogsOnLeadsModel", "told2", "(III)I"⟩, 56), (⟨"DogsOnLeadsModel", "says", "(IIII)I"⟩, 56), (⟨"DogsOnLeadsModel", "swap", "(I)V"⟩, 56)]
theorem lw_r4 : ∀ q ∈ lw_privs_4, lw_okq q := List.forall_mem_cons.mpr ⟨lw_p48, List.forall_mem_cons.mpr ⟨lw_p49, List.forall_mem_cons.mpr ⟨lw_p50, List.forall_mem_cons.mpr ⟨lw_p51, List.forall_mem_cons.mpr ⟨lw_p52, List.forall_mem_cons.mpr ⟨lw_p53, List.forall_mem_cons.mpr ⟨lw_p54, List.forall_mem_cons.mpr ⟨lw_p55, List.forall_mem_cons.mpr ⟨lw_p56, List.forall_mem_cons.mpr ⟨lw_p57, List.forall_mem_cons.mpr ⟨lw_p58, List.forall_mem_cons.mpr ⟨lw_p59, List.forall_mem_cons.mpr ⟨lw_p60, List.forall_mem_cons.mpr ⟨lw_p61, List.forall_mem_cons.mpr ⟨lw_p62, List.forall_mem_cons.mpr ⟨lw_p63, fun _ h => absurd h List.not_mem_nil⟩⟩⟩⟩⟩⟩⟩⟩⟩⟩⟩⟩⟩⟩⟩⟩
theorem lw_p64 : lw_okq (⟨"DogsOnLeadsModel", "tangle", "(I)V"⟩, 56) := ⟨⟨by decide +kernel, by decide +kernel⟩, List.mem_of_getElem? (i := 861) (by decide +kernel), List.mem_of_getElem? (i := 1190) (by decide +kernel), List.mem_of_getElem? (i := 1191) (by decide +kernel)⟩
theorem lw_p65 : lw_okq (⟨"DogsOnLeadsModel", "comes", "(III)V"⟩, 56) := ⟨⟨by decide +kernel, by decide +kernel⟩, List.mem_of_getElem? (i := 861) (by decide +kernel), List.mem_of_getElem? (i := 1194) (by decide +kernel), List.mem_of_getElem? (i := 1195) (by decide +kernel)⟩
theorem lw_p66 : lw_okq (⟨"DogsOnLeadsModel", "atOddsNow", "()I"⟩, 56) := ⟨⟨by decide +kernel, by decide +kernel⟩, List.mem_of_getElem? (i := 861) (by decide +kernel), List.mem_of_getElem? (i := 1229) (by decide +kernel), List.mem_of_getElem? (i := 1230) (by decide +kernel)⟩
theorem lw_p67 : lw_okq (⟨"DogsOnLeadsModel", "bestOrder", "()V"⟩, 56) := ⟨⟨by decide +kernel, by decide +kernel⟩, List.mem_of_getElem? (i := 861) (by decide +kernel), List.mem_of_getElem? (i := 1233) (by decide +kernel), List.mem_of_getElem? (i := 1234) (by decide +kernel)⟩
theorem lw_p68 : lw_okq (⟨"DogsOnLeadsModel", "orders", "(II)V"⟩, 56) := ⟨⟨by decide +kernel, by decide +kernel⟩, List.mem_of_getElem? (i := 861) (by decide +kernel), List.mem_of_getElem? (i := 1237) (by decide +kernel), List.mem_of_getElem? (i := 1238) (by decide +kernel)⟩
theorem lw_p69 : lw_okq (⟨"DogsOnLeadsModel", "orderBad", "(I)I"⟩, 56) := ⟨⟨by decide +kernel, by decide +kernel⟩, List.mem_of_getElem? (i := 861) (by decide +kernel), List.mem_of_getElem? (i := 1249) (by decide +kernel), List.mem_of_getElem? (i := 1250) (by decide +kernel)⟩
theorem lw_p70 : lw_okq (⟨"DogsOnLeadsModel", "rightOf", "(I)I"⟩, 56) := ⟨⟨by decide +kernel, by decide +kernel⟩, List.mem_of_getElem? (i := 861) (by decide +kernel), List.mem_of_getElem? (i := 1261) (by decide +kernel), List.mem_of_getElem? (i := 1262) (by decide +kernel)⟩
theorem lw_p71 : lw_okq (⟨"DogsOnLeadsModel", "right", "(III)Z"⟩, 56) := ⟨⟨by decide +kernel, by decide +kernel⟩, List.mem_of_getElem? (i := 861) (by decide +kernel), List.mem_of_getElem? (i := 1265) (by decide +kernel), List.mem_of_getElem? (i := 1266) (by decide +kernel)⟩
theorem lw_p72 : lw_okq (⟨"DogsOnLeadsModel", "wound", "(I)I"⟩, 56) := ⟨⟨by decide +kernel, by decide +kernel⟩, List.mem_of_getElem? (i := 861) (by decide +kernel), List.mem_of_getElem? (i := 1269) (by decide +kernel), List.mem_of_getElem? (i := 1270) (by decide +kernel)⟩
theorem lw_p73 : lw_okq (⟨"DogsOnLeadsModel", "rowsOf", "(III)V"⟩, 56) := ⟨⟨by decide +kernel, by decide +kernel⟩, List.mem_of_getElem? (i := 861) (by decide +kernel), List.mem_of_getElem? (i := 1282) (by decide +kernel), List.mem_of_getElem? (i := 1283) (by decide +kernel)⟩
theorem lw_p74 : lw_okq (⟨"DogsOnLeadsModel", "fetching", "()V"⟩, 56) := ⟨⟨by decide +kernel, by decide +kernel⟩, List.mem_of_getElem? (i := 861) (by decide +kernel), List.mem_of_getElem? (i := 1290) (by decide +kernel), List.mem_of_getElem? (i := 1291) (by decide +kernel)⟩
theorem lw_p75 : lw_okq (⟨"DogsOnLeadsModel", "fetches", "(IIII)V"⟩, 56) := ⟨⟨by decide +kernel, by decide +kernel⟩, List.mem_of_getElem? (i := 861) (by decide +kernel), List.mem_of_getElem? (i := 1294) (by decide +kernel), List.mem_of_getElem? (i := 1295) (by decide +kernel)⟩
def lw_privs_5 : List (MethodName × Nat) := [(⟨"DogsOnLeadsModel", "tangle", "(I)V"⟩, 56), (⟨"DogsOnLeadsModel", "comes", "(III)V"⟩, 56), (⟨"DogsOnLeadsModel", "atOddsNow", "()I"⟩, 56), (⟨"DogsOnLeadsModel", "bestOrder", "()V"⟩, 56), (⟨"DogsOnLeadsModel", "orders", "(II)V"⟩, 56), (⟨"DogsOnLeadsModel", "orderBad", "(I)I"⟩, 56), (⟨"DogsOnLeadsModel", "rightOf", "(I)I"⟩, 56), (⟨"DogsOnLeadsModel", "right", "(III)Z"⟩, 56), (⟨"DogsOnLeadsModel", "wound", "(I)I"⟩, 56), (⟨"DogsOnLeadsModel", "rowsOf", "(III)V"⟩, 56), (⟨"DogsOnLeadsModel", "fetching", "()V"⟩, 56), (⟨"DogsOnLeadsModel", "fetches", "(IIII)V"⟩, 56)]
theorem lw_r5 : ∀ q ∈ lw_privs_5, lw_okq q := List.forall_mem_cons.mpr ⟨lw_p64, List.forall_mem_cons.mpr ⟨lw_p65, List.forall_mem_cons.mpr ⟨lw_p66, List.forall_mem_cons.mpr ⟨lw_p67, List.forall_mem_cons.mpr ⟨lw_p68, List.forall_mem_cons.mpr ⟨lw_p69, List.forall_mem_cons.mpr ⟨lw_p70, List.forall_mem_cons.mpr ⟨lw_p71, List.forall_mem_cons.mpr ⟨lw_p72, List.forall_mem_cons.mpr ⟨lw_p73, List.forall_mem_cons.mpr ⟨lw_p74, List.forall_mem_cons.mpr ⟨lw_p75, fun _ h => absurd h List.not_mem_nil⟩⟩⟩⟩⟩⟩⟩⟩⟩⟩⟩⟩
def lw_privs : List (MethodName × Nat) := lw_privs_1 ++ (lw_privs_2 ++ (lw_privs_3 ++ (lw_privs_4 ++ (lw_privs_5))))
def lw_tbl : List Cond := k2_sels lw_privs ++ tables_1
theorem lw_privs_ok : ∀ q ∈ lw_privs, lw_okq q := by
  show ∀ q ∈ lw_privs_1 ++ (lw_privs_2 ++ (lw_privs_3 ++ (lw_privs_4 ++ (lw_privs_5)))), lw_okq q
  exact List.forall_mem_append.mpr ⟨lw_r1, List.forall_mem_append.mpr ⟨lw_r2, List.forall_mem_append.mpr ⟨lw_r3, List.forall_mem_append.mpr ⟨lw_r4, lw_r5⟩⟩⟩⟩
end
section
/-! ===== BEGIN words of one list among another's, by their places ===== -/
theorem goodIn_r {big : List Cond} (ws : List Cond) (ps : List Nat) (hp : ws = ps.filterMap (fun i => big[i]?)) (h : ws.all goodWord = true) : GoodIn big ws := by
  intro w hw
  have h1 := List.all_eq_true.mp h w hw
  rw [hp] at hw
  obtain ⟨i, -, hi⟩ := List.mem_filterMap.mp hw
  have hm : w ∈ big := by first | exact List.mem_of_getElem? hi | exact List.getElem?_mem hi
  exact ⟨hm, good_of_word h1⟩
theorem goodIn_app {big a b : List Cond} (ha : GoodIn big a) (hb : GoodIn big b) : GoodIn big (a ++ b) := fun w h => (List.mem_append.mp h).elim (ha w) (hb w)
theorem goodIn_ca {big a b : List Cond} {c : Cond} (ha : GoodIn big (c :: a)) (hb : GoodIn big b) : GoodIn big (c :: (a ++ b)) := fun w h => (List.mem_cons.mp h).elim (fun e => ha w (List.mem_cons.mpr (Or.inl e))) (fun h => (List.mem_append.mp h).elim (fun h => ha w (List.mem_cons.mpr (Or.inr h))) (hb w))
theorem goodIn_sub {big ws : List Cond} (hm : ∀ w ∈ ws, w ∈ big) (h : ws.all goodWord = true) : GoodIn big ws := fun w hw => ⟨hm w hw, good_of_word (List.all_eq_true.mp h w hw)⟩
/-! ===== END ===== -/

/-! ===== BEGIN printed: names, fields, word lists, decode rows ===== -/
def RX0 : String := "DogsOnLeads$Orders"
def TX0 : u_T := fun k => match k with
  | 0 => ("DogsOnLeads$Orders", "ends", "[I", true)
  | 1 => ("DogsOnLeads$Orders", "found", "[I", true)
  | 2 => ("DogsOnLeads$Orders", "prices", "[I", true)
  | 3 => ("DogsOnLeads$Orders", "trial", "[I", true)
  | 4 => ("DogsOnLeads$Orders", "size", "I", false)
  | _ => ("DogsOnLeads$Orders", "least", "I", false)
def tyX0 : Nat → FieldType := fun k => match k with
  | 0 => .array .int
  | 1 => .array .int
  | 2 => .array .int
  | 3 => .array .int
  | 4 => .int
  | _ => .int
abbrev wsX00 : List Cond := u_ws RX0 TX0 6
theorem nmX0 : ∀ a, a < 6 → ∀ b, b < 6 → a ≠ b → (TX0 a).2.1 ≠ (TX0 b).2.1 := by decide +kernel
theorem tyX0_ok : ∀ k, k < 6 → parseFieldDescriptor (TX0 k).2.2.1 = some (tyX0 k) := by decide +kernel
abbrev cX0_init : ByteArray := prog_2_method_1_code
def yX0_init : MethodName := ⟨RX0, "<init>", "()V"⟩
abbrev cX0_begin : ByteArray := prog_2_method_2_code
def yX0_begin : MethodName := ⟨RX0, "begin", "(I)V"⟩
abbrev cX0_price : ByteArray := prog_2_method_3_code
def yX0_price : MethodName := ⟨RX0, "price", "(IIII)V"⟩
abbrev cX0_priceEverywhere : ByteArray := prog_2_method_4_code
def yX0_priceEverywhere : MethodName := ⟨RX0, "priceEverywhere", "(III)V"⟩
abbrev cX0_slot : ByteArray := prog_2_method_5_code
def yX0_slot : MethodName := ⟨RX0, "slot", "(III)I"⟩
abbrev cX0_search : ByteArray := prog_2_method_6_code
def yX0_search : MethodName := ⟨RX0, "search", "()I"⟩
abbrev cX0_extend : ByteArray := prog_2_method_7_code
def yX0_extend : MethodName := ⟨RX0, "extend", "(III)V"⟩
abbrev cX0_priceAt : ByteArray := prog_2_method_8_code
def yX0_priceAt : MethodName := ⟨RX0, "priceAt", "(II)I"⟩
def RX1 : String := "DogsOnLeads$Pack"
def TX1 : u_T := fun k => match k with
  | 0 => ("DogsOnLeads$Pack", "kinds", "[I", true)
  | 1 => ("DogsOnLeads$Pack", "paces", "[I", true)
  | 2 => ("DogsOnLeads$Pack", "numbers", "[I", true)
  | 3 => ("DogsOnLeads$Pack", "houses", "[I", true)
  | 4 => ("DogsOnLeads$Pack", "order", "[I", true)
  | 5 => ("DogsOnLeads$Pack", "plait", "LDogsOnLeads$Row;", true)
  | 6 => ("DogsOnLeads$Pack", "size", "I", false)
  | _ => ("DogsOnLeads$Pack", "rule", "I", false)
def tyX1 : Nat → FieldType := fun k => match k with
  | 0 => .array .int
  | 1 => .array .int
  | 2 => .array .int
  | 3 => .array .int
  | 4 => .array .int
  | 5 => .object "DogsOnLeads$Row"
  | 6 => .int
  | _ => .int
abbrev wsX10 : List Cond := u_ws RX1 TX1 8
theorem nmX1 : ∀ a, a < 8 → ∀ b, b < 8 → a ≠ b → (TX1 a).2.1 ≠ (TX1 b).2.1 := by decide +kernel
theorem tyX1_ok : ∀ k, k < 8 → parseFieldDescriptor (TX1 k).2.2.1 = some (tyX1 k) := by decide +kernel
abbrev cX1_init : ByteArray := prog_3_method_1_code
def yX1_init : MethodName := ⟨RX1, "<init>", "()V"⟩
abbrev cX1_join : ByteArray := prog_3_method_2_code
def yX1_join : MethodName := ⟨RX1, "join", "(IIII)I"⟩
abbrev cX1_become : ByteArray := prog_3_method_3_code
def yX1_become : MethodName := ⟨RX1, "become", "(LDogsOnLeads$Pack;)V"⟩
abbrev cX1_placeOf : ByteArray := prog_3_method_4_code
def yX1_placeOf : MethodName := ⟨RX1, "placeOf", "(I)I"⟩
abbrev cX1_dogsBefore : ByteArray := prog_3_method_5_code
def yX1_dogsBefore : MethodName := ⟨RX1, "dogsBefore", "(I)I"⟩
abbrev cX1_changePlaces : ByteArray := prog_3_method_6_code
def yX1_changePlaces : MethodName := ⟨RX1, "changePlaces", "(I)V"⟩
abbrev cX1_pulls : ByteArray := prog_3_method_7_code
def yX1_pulls : MethodName := ⟨RX1, "pulls", "(II)I"⟩
abbrev cX1_pullsAs : ByteArray := prog_3_method_8_code
def yX1_pullsAs : MethodName := ⟨RX1, "pullsAs", "(III)I"⟩
abbrev cX1_passesRight : ByteArray := prog_3_method_9_code
def yX1_passesRight : MethodName := ⟨RX1, "passesRight", "(III)Z"⟩
def RX2 : String := "DogsOnLeads$Reader"
def TX2 : u_T := fun k => match k with
  | 0 => ("DogsOnLeads$Reader", "tape", "[I", true)
  | 1 => ("DogsOnLeads$Reader", "draft", "LDogsOnLeads$Text;", true)
  | 2 => ("DogsOnLeads$Reader", "size", "I", false)
  | 3 => ("DogsOnLeads$Reader", "next", "I", false)
  | 4 => ("DogsOnLeads$Reader", "token", "I", false)
  | 5 => ("DogsOnLeads$Reader", "tokenAt", "I", false)
  | _ => ("DogsOnLeads$Reader", "number", "I", false)
def tyX2 : Nat → FieldType := fun k => match k with
  | 0 => .array .int
  | 1 => .object "DogsOnLeads$Text"
  | 2 => .int
  | 3 => .int
  | 4 => .int
  | 5 => .int
  | _ => .int
abbrev wsX20 : List Cond := u_ws RX2 TX2 7
theorem nmX2 : ∀ a, a < 7 → ∀ b, b < 7 → a ≠ b → (TX2 a).2.1 ≠ (TX2 b).2.1 := by decide +kernel
theorem tyX2_ok : ∀ k, k < 7 → parseFieldDescriptor (TX2 k).2.2.1 = some (tyX2 k) := by decide +kernel
abbrev cX2_init : ByteArray := prog_4_method_1_code
def yX2_init : MethodName := ⟨RX2, "<init>", "()V"⟩
abbrev cX2_append : ByteArray := prog_4_method_2_code
def yX2_append : MethodName := ⟨RX2, "append", "(I)V"⟩
abbrev cX2_readInto : ByteArray := prog_4_method_3_code
def yX2_readInto : MethodName := ⟨RX2, "readInto", "(LDogsOnLeads$Text;)I"⟩
abbrev cX2_pass : ByteArray := prog_4_method_4_code
def yX2_pass : MethodName := ⟨RX2, "pass", "(I)Z"⟩
abbrev cX2_readExpression : ByteArray := prog_4_method_5_code
def yX2_readExpression : MethodName := ⟨RX2, "readExpression", "(I)Z"⟩
abbrev cX2_readConjunction : ByteArray := prog_4_method_6_code
def yX2_readConjunction : MethodName := ⟨RX2, "readConjunction", "(I)Z"⟩
abbrev cX2_readNegation : ByteArray := prog_4_method_7_code
def yX2_readNegation : MethodName := ⟨RX2, "readNegation", "(I)Z"⟩
abbrev cX2_readComparison : ByteArray := prog_4_method_8_code
def yX2_readComparison : MethodName := ⟨RX2, "readComparison", "(I)Z"⟩
abbrev cX2_readSum : ByteArray := prog_4_method_9_code
def yX2_readSum : MethodName := ⟨RX2, "readSum", "(I)Z"⟩
abbrev cX2_readTerm : ByteArray := prog_4_method_10_code
def yX2_readTerm : MethodName := ⟨RX2, "readTerm", "(I)Z"⟩
abbrev cX2_readOne : ByteArray := prog_4_method_11_code
def yX2_readOne : MethodName := ⟨RX2, "readOne", "(I)Z"⟩
abbrev cX2_step : ByteArray := prog_4_method_12_code
def yX2_step : MethodName := ⟨RX2, "step", "()V"⟩
abbrev cX2_passWord : ByteArray := prog_4_method_13_code
def yX2_passWord : MethodName := ⟨RX2, "passWord", "()I"⟩
abbrev cX2_isSpelled : ByteArray := prog_4_method_14_code
def yX2_isSpelled : MethodName := ⟨RX2, "isSpelled", "(Ljava/lang/String;)Z"⟩
abbrev cX2_passNumber : ByteArray := prog_4_method_15_code
def yX2_passNumber : MethodName := ⟨RX2, "passNumber", "()I"⟩
abbrev cX2_isLetter : ByteArray := prog_4_method_16_code
def yX2_isLetter : MethodName := ⟨RX2, "isLetter", "(I)Z"⟩
abbrev cX2_isDigit : ByteArray := prog_4_method_17_code
def yX2_isDigit : MethodName := ⟨RX2, "isDigit", "(I)Z"⟩
def RX3 : String := "DogsOnLeads$Row"
def TX3 : u_T := fun k => match k with
  | 0 => ("DogsOnLeads$Row", "places", "[I", true)
  | 1 => ("DogsOnLeads$Row", "overs", "[I", true)
  | 2 => ("DogsOnLeads$Row", "ones", "[I", true)
  | 3 => ("DogsOnLeads$Row", "others", "[I", true)
  | 4 => ("DogsOnLeads$Row", "before", "[I", true)
  | _ => ("DogsOnLeads$Row", "size", "I", false)
def tyX3 : Nat → FieldType := fun k => match k with
  | 0 => .array .int
  | 1 => .array .int
  | 2 => .array .int
  | 3 => .array .int
  | 4 => .array .int
  | _ => .int
abbrev wsX30 : List Cond := u_ws RX3 TX3 6
theorem nmX3 : ∀ a, a < 6 → ∀ b, b < 6 → a ≠ b → (TX3 a).2.1 ≠ (TX3 b).2.1 := by decide +kernel
theorem tyX3_ok : ∀ k, k < 6 → parseFieldDescriptor (TX3 k).2.2.1 = some (tyX3 k) := by decide +kernel
abbrev cX3_init : ByteArray := prog_5_method_1_code
def yX3_init : MethodName := ⟨RX3, "<init>", "()V"⟩
abbrev cX3_put : ByteArray := prog_5_method_2_code
def yX3_put : MethodName := ⟨RX3, "put", "(IIIII)V"⟩
abbrev cX3_lay : ByteArray := prog_5_method_3_code
def yX3_lay : MethodName := ⟨RX3, "lay", "(IIIII)V"⟩
abbrev cX3_lastNear : ByteArray := prog_5_method_4_code
def yX3_lastNear : MethodName := ⟨RX3, "lastNear", "(I)I"⟩
abbrev cX3_remove : ByteArray := prog_5_method_5_code
def yX3_remove : MethodName := ⟨RX3, "remove", "(I)V"⟩
abbrev cX3_become : ByteArray := prog_5_method_6_code
def yX3_become : MethodName := ⟨RX3, "become", "(LDogsOnLeads$Row;)V"⟩
abbrev cX3_takeOver : ByteArray := prog_5_method_7_code
def yX3_takeOver : MethodName := ⟨RX3, "takeOver", "(ILDogsOnLeads$Row;I)V"⟩
abbrev cX3_dogsOf : ByteArray := prog_5_method_8_code
def yX3_dogsOf : MethodName := ⟨RX3, "dogsOf", "(I)I"⟩
def RX4 : String := "DogsOnLeads$Sheet"
def TX4 : u_T := fun k => match k with
  | 0 => ("DogsOnLeads$Sheet", "items", "[I", true)
  | 1 => ("DogsOnLeads$Sheet", "sort", "I", false)
  | _ => ("DogsOnLeads$Sheet", "size", "I", false)
def tyX4 : Nat → FieldType := fun k => match k with
  | 0 => .array .int
  | 1 => .int
  | _ => .int
abbrev wsX40 : List Cond := u_ws RX4 TX4 3
theorem nmX4 : ∀ a, a < 3 → ∀ b, b < 3 → a ≠ b → (TX4 a).2.1 ≠ (TX4 b).2.1 := by decide +kernel
theorem tyX4_ok : ∀ k, k < 3 → parseFieldDescriptor (TX4 k).2.2.1 = some (tyX4 k) := by decide +kernel
abbrev cX4_init : ByteArray := prog_6_method_1_code
def yX4_init : MethodName := ⟨RX4, "<init>", "()V"⟩
abbrev cX4_become : ByteArray := prog_6_method_2_code
def yX4_become : MethodName := ⟨RX4, "become", "(II)V"⟩
abbrev cX4_holds : ByteArray := prog_6_method_3_code
def yX4_holds : MethodName := ⟨RX4, "holds", "(I)Z"⟩
abbrev cX4_holdsStretch : ByteArray := prog_6_method_4_code
def yX4_holdsStretch : MethodName := ⟨RX4, "holdsStretch", "(II)Z"⟩
abbrev cX4_write : ByteArray := prog_6_method_5_code
def yX4_write : MethodName := ⟨RX4, "write", "(II)V"⟩
def RX5 : String := "DogsOnLeads$Text"
def TX5 : u_T := fun k => match k with
  | 0 => ("DogsOnLeads$Text", "code", "[I", true)
  | 1 => ("DogsOnLeads$Text", "ends", "[I", true)
  | 2 => ("DogsOnLeads$Text", "size", "I", false)
  | 3 => ("DogsOnLeads$Text", "stack", "[I", true)
  | _ => ("DogsOnLeads$Text", "height", "I", false)
def tyX5 : Nat → FieldType := fun k => match k with
  | 0 => .array .int
  | 1 => .array .int
  | 2 => .int
  | 3 => .array .int
  | _ => .int
abbrev wsX50 : List Cond := u_ws RX5 TX5 5
theorem nmX5 : ∀ a, a < 5 → ∀ b, b < 5 → a ≠ b → (TX5 a).2.1 ≠ (TX5 b).2.1 := by decide +kernel
theorem tyX5_ok : ∀ k, k < 5 → parseFieldDescriptor (TX5 k).2.2.1 = some (tyX5 k) := by decide +kernel
abbrev cX5_init : ByteArray := prog_7_method_1_code
def yX5_init : MethodName := ⟨RX5, "<init>", "()V"⟩
abbrev cX5_clear : ByteArray := prog_7_method_2_code
def yX5_clear : MethodName := ⟨RX5, "clear", "()V"⟩
abbrev cX5_addToken : ByteArray := prog_7_method_3_code
def yX5_addToken : MethodName := ⟨RX5, "addToken", "(I)V"⟩
abbrev cX5_addNumber : ByteArray := prog_7_method_4_code
def yX5_addNumber : MethodName := ⟨RX5, "addNumber", "(I)V"⟩
abbrev cX5_endPart : ByteArray := prog_7_method_5_code
def yX5_endPart : MethodName := ⟨RX5, "endPart", "(I)V"⟩
abbrev cX5_become : ByteArray := prog_7_method_6_code
def yX5_become : MethodName := ⟨RX5, "become", "(LDogsOnLeads$Text;)V"⟩
abbrev cX5_valueOf : ByteArray := prog_7_method_7_code
def yX5_valueOf : MethodName := ⟨RX5, "valueOf", "(I[I)I"⟩
abbrev cX5_work : ByteArray := prog_7_method_8_code
def yX5_work : MethodName := ⟨RX5, "work", "(I[I)V"⟩
abbrev cX5_join : ByteArray := prog_7_method_9_code
def yX5_join : MethodName := ⟨RX5, "join", "(III)I"⟩
abbrev cX5_push : ByteArray := prog_7_method_10_code
def yX5_push : MethodName := ⟨RX5, "push", "(I)V"⟩
abbrev cX5_pop : ByteArray := prog_7_method_11_code
def yX5_pop : MethodName := ⟨RX5, "pop", "()I"⟩
def RX6 : String := "DogsOnLeads$Token"
def TX6 : u_T := fun k => match k with
  | _ => ("", "", "", false)
def tyX6 : Nat → FieldType := fun k => match k with
  | _ => .int
abbrev wsX60 : List Cond := u_ws RX6 TX6 0
theorem nmX6 : ∀ a, a < 0 → ∀ b, b < 0 → a ≠ b → (TX6 a).2.1 ≠ (TX6 b).2.1 := by decide +kernel
theorem tyX6_ok : ∀ k, k < 0 → parseFieldDescriptor (TX6 k).2.2.1 = some (tyX6 k) := by decide +kernel
abbrev cX6_spelling : ByteArray := prog_8_method_2_code
def yX6_spelling : MethodName := ⟨RX6, "spelling", "(I)Ljava/lang/String;"⟩
def RX7 : String := "DogsOnLeads"
def TX7 : u_T := fun k => match k with
  | 0 => ("DogsOnLeads", "pack", "LDogsOnLeads$Pack;", true)
  | 1 => ("DogsOnLeads", "kept", "LDogsOnLeads$Pack;", true)
  | 2 => ("DogsOnLeads", "hasImage", "Z", false)
  | 3 => ("DogsOnLeads", "tangle", "LDogsOnLeads$Row;", true)
  | 4 => ("DogsOnLeads", "thought", "LDogsOnLeads$Row;", true)
  | 5 => ("DogsOnLeads", "orders", "LDogsOnLeads$Orders;", true)
  | 6 => ("DogsOnLeads", "reader", "LDogsOnLeads$Reader;", true)
  | 7 => ("DogsOnLeads", "texts", "[LDogsOnLeads$Text;", true)
  | 8 => ("DogsOnLeads", "textCount", "I", false)
  | 9 => ("DogsOnLeads", "names", "[I", true)
  | 10 => ("DogsOnLeads", "sheets", "[LDogsOnLeads$Sheet;", true)
  | 11 => ("DogsOnLeads", "trialOrder", "[I", true)
  | 12 => ("DogsOnLeads", "trialPlaces", "[I", true)
  | _ => ("DogsOnLeads", "worths", "[I", true)
def tyX7 : Nat → FieldType := fun k => match k with
  | 0 => .object "DogsOnLeads$Pack"
  | 1 => .object "DogsOnLeads$Pack"
  | 2 => .boolean
  | 3 => .object "DogsOnLeads$Row"
  | 4 => .object "DogsOnLeads$Row"
  | 5 => .object "DogsOnLeads$Orders"
  | 6 => .object "DogsOnLeads$Reader"
  | 7 => .array (.object "DogsOnLeads$Text")
  | 8 => .int
  | 9 => .array .int
  | 10 => .array (.object "DogsOnLeads$Sheet")
  | 11 => .array .int
  | 12 => .array .int
  | _ => .array .int
abbrev wsX70 : List Cond := u_ws RX7 TX7 14
theorem nmX7 : ∀ a, a < 14 → ∀ b, b < 14 → a ≠ b → (TX7 a).2.1 ≠ (TX7 b).2.1 := by decide +kernel
theorem tyX7_ok : ∀ k, k < 14 → parseFieldDescriptor (TX7 k).2.2.1 = some (tyX7 k) := by decide +kernel
abbrev cX7_init : ByteArray := prog_1_method_1_code
def yX7_init : MethodName := ⟨RX7, "<init>", "()V"⟩
abbrev cX7_dog : ByteArray := prog_1_method_2_code
def yX7_dog : MethodName := ⟨RX7, "dog", "(III)I"⟩
abbrev cX7_set : ByteArray := prog_1_method_3_code
def yX7_set : MethodName := ⟨RX7, "set", "(III)I"⟩
abbrev cX7_told : ByteArray := prog_1_method_4_code
def yX7_told : MethodName := ⟨RX7, "told", "(II)I"⟩
abbrev cX7_asks : ByteArray := prog_1_method_5_code
def yX7_asks : MethodName := ⟨RX7, "asks", "(III)I"⟩
abbrev cX7_feed : ByteArray := prog_1_method_6_code
def yX7_feed : MethodName := ⟨RX7, "feed", "(I)I"⟩
abbrev cX7_text : ByteArray := prog_1_method_7_code
def yX7_text : MethodName := ⟨RX7, "text", "()I"⟩
abbrev cX7_force : ByteArray := prog_1_method_8_code
def yX7_force : MethodName := ⟨RX7, "force", "(I)I"⟩
abbrev cX7_cross : ByteArray := prog_1_method_9_code
def yX7_cross : MethodName := ⟨RX7, "cross", "(II)I"⟩
abbrev cX7_undo : ByteArray := prog_1_method_10_code
def yX7_undo : MethodName := ⟨RX7, "undo", "()I"⟩
abbrev cX7_comb : ByteArray := prog_1_method_11_code
def yX7_comb : MethodName := ⟨RX7, "comb", "()I"⟩
abbrev cX7_at : ByteArray := prog_1_method_12_code
def yX7_at : MethodName := ⟨RX7, "at", "(I)I"⟩
abbrev cX7_left : ByteArray := prog_1_method_13_code
def yX7_left : MethodName := ⟨RX7, "left", "(I)I"⟩
abbrev cX7_who : ByteArray := prog_1_method_14_code
def yX7_who : MethodName := ⟨RX7, "who", "(II)I"⟩
abbrev cX7_without : ByteArray := prog_1_method_15_code
def yX7_without : MethodName := ⟨RX7, "without", "(I)I"⟩
abbrev cX7_unclip : ByteArray := prog_1_method_16_code
def yX7_unclip : MethodName := ⟨RX7, "unclip", "(I)I"⟩
abbrev cX7_cost : ByteArray := prog_1_method_17_code
def yX7_cost : MethodName := ⟨RX7, "cost", "()I"⟩
abbrev cX7_atOdds : ByteArray := prog_1_method_18_code
def yX7_atOdds : MethodName := ⟨RX7, "atOdds", "(I)I"⟩
abbrev cX7_best : ByteArray := prog_1_method_19_code
def yX7_best : MethodName := ⟨RX7, "best", "(I)I"⟩
abbrev cX7_swaps : ByteArray := prog_1_method_20_code
def yX7_swaps : MethodName := ⟨RX7, "swaps", "(I)I"⟩
abbrev cX7_post : ByteArray := prog_1_method_21_code
def yX7_post : MethodName := ⟨RX7, "post", "(II)I"⟩
abbrev cX7_bestPost : ByteArray := prog_1_method_22_code
def yX7_bestPost : MethodName := ⟨RX7, "bestPost", "(I)I"⟩
abbrev cX7_seen : ByteArray := prog_1_method_23_code
def yX7_seen : MethodName := ⟨RX7, "seen", "(III)I"⟩
abbrev cX7_fetch : ByteArray := prog_1_method_24_code
def yX7_fetch : MethodName := ⟨RX7, "fetch", "()I"⟩
abbrev cX7_fetched : ByteArray := prog_1_method_25_code
def yX7_fetched : MethodName := ⟨RX7, "fetched", "(I)I"⟩
abbrev cX7_walk : ByteArray := prog_1_method_26_code
def yX7_walk : MethodName := ⟨RX7, "walk", "()I"⟩
abbrev cX7_take : ByteArray := prog_1_method_27_code
def yX7_take : MethodName := ⟨RX7, "take", "(I)I"⟩
abbrev cX7_drawn : ByteArray := prog_1_method_28_code
def yX7_drawn : MethodName := ⟨RX7, "drawn", "(II)I"⟩
abbrev cX7_chance : ByteArray := prog_1_method_29_code
def yX7_chance : MethodName := ⟨RX7, "chance", "(IIIII)J"⟩
abbrev cX7_image : ByteArray := prog_1_method_30_code
def yX7_image : MethodName := ⟨RX7, "image", "()I"⟩
abbrev cX7_back : ByteArray := prog_1_method_31_code
def yX7_back : MethodName := ⟨RX7, "back", "()I"⟩
abbrev cX7_count : ByteArray := prog_1_method_32_code
def yX7_count : MethodName := ⟨RX7, "count", "(I)I"⟩
abbrev cX7_sheet : ByteArray := prog_1_method_33_code
def yX7_sheet : MethodName := ⟨RX7, "sheet", "(III)I"⟩
abbrev cX7_cell : ByteArray := prog_1_method_34_code
def yX7_cell : MethodName := ⟨RX7, "cell", "(III)I"⟩
abbrev cX7_copy : ByteArray := prog_1_method_35_code
def yX7_copy : MethodName := ⟨RX7, "copy", "(IIIII)I"⟩
abbrev cX7_crossings : ByteArray := prog_1_method_36_code
def yX7_crossings : MethodName := ⟨RX7, "crossings", "(IIII)I"⟩
abbrev cX7_taken : ByteArray := prog_1_method_37_code
def yX7_taken : MethodName := ⟨RX7, "taken", "(II)I"⟩
abbrev cX7_isWithin : ByteArray := prog_1_method_38_code
def yX7_isWithin : MethodName := ⟨RX7, "isWithin", "(III)Z"⟩
abbrev cX7_isDog : ByteArray := prog_1_method_39_code
def yX7_isDog : MethodName := ⟨RX7, "isDog", "(I)Z"⟩
abbrev cX7_isSheet : ByteArray := prog_1_method_40_code
def yX7_isSheet : MethodName := ⟨RX7, "isSheet", "(I)Z"⟩
abbrev cX7_bit : ByteArray := prog_1_method_41_code
def yX7_bit : MethodName := ⟨RX7, "bit", "(I)I"⟩
abbrev cX7_allDogs : ByteArray := prog_1_method_42_code
def yX7_allDogs : MethodName := ⟨RX7, "allDogs", "()I"⟩
abbrev cX7_isUnder : ByteArray := prog_1_method_43_code
def yX7_isUnder : MethodName := ⟨RX7, "isUnder", "(II)Z"⟩
abbrev cX7_replace : ByteArray := prog_1_method_44_code
def yX7_replace : MethodName := ⟨RX7, "replace", "([III)I"⟩
abbrev cX7_greatestDivisor : ByteArray := prog_1_method_45_code
def yX7_greatestDivisor : MethodName := ⟨RX7, "greatestDivisor", "(II)I"⟩
abbrev cX7_ruled : ByteArray := prog_1_method_46_code
def yX7_ruled : MethodName := ⟨RX7, "ruled", "(IIIII)I"⟩
abbrev cX7_ruledInHand : ByteArray := prog_1_method_47_code
def yX7_ruledInHand : MethodName := ⟨RX7, "ruledInHand", "(III)I"⟩
abbrev cX7_oddsInHand : ByteArray := prog_1_method_48_code
def yX7_oddsInHand : MethodName := ⟨RX7, "oddsInHand", "()I"⟩
abbrev cX7_findWorths : ByteArray := prog_1_method_49_code
def yX7_findWorths : MethodName := ⟨RX7, "findWorths", "()V"⟩
abbrev cX7_worthOf : ByteArray := prog_1_method_50_code
def yX7_worthOf : MethodName := ⟨RX7, "worthOf", "(I)I"⟩
abbrev cX7_makeTangle : ByteArray := prog_1_method_51_code
def yX7_makeTangle : MethodName := ⟨RX7, "makeTangle", "()V"⟩
abbrev cX7_leftWithout : ByteArray := prog_1_method_52_code
def yX7_leftWithout : MethodName := ⟨RX7, "leftWithout", "(I)I"⟩
abbrev cX7_leftOfDrawn : ByteArray := prog_1_method_53_code
def yX7_leftOfDrawn : MethodName := ⟨RX7, "leftOfDrawn", "(II)I"⟩
abbrev cX7_refusalOfOrder : ByteArray := prog_1_method_54_code
def yX7_refusalOfOrder : MethodName := ⟨RX7, "refusalOfOrder", "(I)I"⟩
abbrev cX7_findBestOrder : ByteArray := prog_1_method_55_code
def yX7_findBestOrder : MethodName := ⟨RX7, "findBestOrder", "()I"⟩
abbrev cX7_findFetchOrder : ByteArray := prog_1_method_56_code
def yX7_findFetchOrder : MethodName := ⟨RX7, "findFetchOrder", "()I"⟩
abbrev cX7_rowsLeadingTo : ByteArray := prog_1_method_57_code
def yX7_rowsLeadingTo : MethodName := ⟨RX7, "rowsLeadingTo", "(LDogsOnLeads$Sheet;IIZ)I"⟩
abbrev cX7_wouldMeetItsPlace : ByteArray := prog_1_method_58_code
def yX7_wouldMeetItsPlace : MethodName := ⟨RX7, "wouldMeetItsPlace", "(II)Z"⟩
abbrev cX7_isTrialOrder : ByteArray := prog_1_method_59_code
def yX7_isTrialOrder : MethodName := ⟨RX7, "isTrialOrder", "(LDogsOnLeads$Sheet;)Z"⟩
abbrev cX7_changeTrial : ByteArray := prog_1_method_60_code
def yX7_changeTrial : MethodName := ⟨RX7, "changeTrial", "(I)V"⟩
abbrev cX7_dogsOnRight : ByteArray := prog_1_method_61_code
def yX7_dogsOnRight : MethodName := ⟨RX7, "dogsOnRight", "(I)I"⟩
abbrev cX7_woundAt : ByteArray := prog_1_method_62_code
def yX7_woundAt : MethodName := ⟨RX7, "woundAt", "(I)I"⟩
abbrev cX7_pullsTogether : ByteArray := prog_1_method_63_code
def yX7_pullsTogether : MethodName := ⟨RX7, "pullsTogether", "(I)I"⟩
def RX8 : String := "DogsOnLeadsModel"
def TX8 : u_T := fun k => match k with
  | 0 => ("DogsOnLeadsModel", "thrown", "I", false)
  | 1 => ("DogsOnLeadsModel", "texts", "[I", true)
  | 2 => ("DogsOnLeadsModel", "textSize", "[I", true)
  | 3 => ("DogsOnLeadsModel", "textCount", "I", false)
  | 4 => ("DogsOnLeadsModel", "rule", "I", false)
  | 5 => ("DogsOnLeadsModel", "tape", "[I", true)
  | 6 => ("DogsOnLeadsModel", "taped", "I", false)
  | 7 => ("DogsOnLeadsModel", "kinds", "[I", true)
  | 8 => ("DogsOnLeadsModel", "paces", "[I", true)
  | 9 => ("DogsOnLeadsModel", "numbers", "[I", true)
  | 10 => ("DogsOnLeadsModel", "houses", "[I", true)
  | 11 => ("DogsOnLeadsModel", "hand", "[I", true)
  | 12 => ("DogsOnLeadsModel", "n", "I", false)
  | 13 => ("DogsOnLeadsModel", "places", "[I", true)
  | 14 => ("DogsOnLeadsModel", "overs", "[I", true)
  | 15 => ("DogsOnLeadsModel", "plait", "I", false)
  | 16 => ("DogsOnLeadsModel", "ofOne", "I", false)
  | 17 => ("DogsOnLeadsModel", "ofOther", "I", false)
  | 18 => ("DogsOnLeadsModel", "ofPace", "I", false)
  | 19 => ("DogsOnLeadsModel", "ofNear", "I", false)
  | 20 => ("DogsOnLeadsModel", "ofMany", "I", false)
  | 21 => ("DogsOnLeadsModel", "ofHand", "I", false)
  | 22 => ("DogsOnLeadsModel", "from", "I", false)
  | 23 => ("DogsOnLeadsModel", "size", "I", false)
  | 24 => ("DogsOnLeadsModel", "here", "I", false)
  | 25 => ("DogsOnLeadsModel", "token", "I", false)
  | 26 => ("DogsOnLeadsModel", "tokenAt", "I", false)
  | 27 => ("DogsOnLeadsModel", "tokenWorth", "J", false)
  | 28 => ("DogsOnLeadsModel", "open", "I", false)
  | 29 => ("DogsOnLeadsModel", "bad", "Z", false)
  | 30 => ("DogsOnLeadsModel", "fault", "I", false)
  | 31 => ("DogsOnLeadsModel", "leftPlace", "[I", true)
  | 32 => ("DogsOnLeadsModel", "leftOver", "[I", true)
  | 33 => ("DogsOnLeadsModel", "leftOf", "[I", true)
  | 34 => ("DogsOnLeadsModel", "lefts", "I", false)
  | 35 => ("DogsOnLeadsModel", "handWas", "[I", true)
  | 36 => ("DogsOnLeadsModel", "bestHand", "[I", true)
  | 37 => ("DogsOnLeadsModel", "bestOdds", "I", false)
  | 38 => ("DogsOnLeadsModel", "rowPlace", "[I", true)
  | 39 => ("DogsOnLeadsModel", "rowOver", "[I", true)
  | 40 => ("DogsOnLeadsModel", "rows", "I", false)
  | 41 => ("DogsOnLeadsModel", "wholeRows", "I", false)
  | 42 => ("DogsOnLeadsModel", "walk", "[I", true)
  | 43 => ("DogsOnLeadsModel", "bestWalk", "[I", true)
  | 44 => ("DogsOnLeadsModel", "bestWay", "I", false)
  | 45 => ("DogsOnLeadsModel", "leastOdd", "I", false)
  | 46 => ("DogsOnLeadsModel", "oddsOf", "[I", true)
  | 47 => ("DogsOnLeadsModel", "dogsKept", "[I", true)
  | 48 => ("DogsOnLeadsModel", "plaitKept", "[I", true)
  | 49 => ("DogsOnLeadsModel", "nKept", "I", false)
  | 50 => ("DogsOnLeadsModel", "plaitMany", "I", false)
  | 51 => ("DogsOnLeadsModel", "ruleKept", "I", false)
  | 52 => ("DogsOnLeadsModel", "isThere", "[Z", true)
  | 53 => ("DogsOnLeadsModel", "sorts", "[I", true)
  | 54 => ("DogsOnLeadsModel", "sheetSize", "[I", true)
  | _ => ("DogsOnLeadsModel", "items", "[I", true)
def tyX8 : Nat → FieldType := fun k => match k with
  | 0 => .int
  | 1 => .array .int
  | 2 => .array .int
  | 3 => .int
  | 4 => .int
  | 5 => .array .int
  | 6 => .int
  | 7 => .array .int
  | 8 => .array .int
  | 9 => .array .int
  | 10 => .array .int
  | 11 => .array .int
  | 12 => .int
  | 13 => .array .int
  | 14 => .array .int
  | 15 => .int
  | 16 => .int
  | 17 => .int
  | 18 => .int
  | 19 => .int
  | 20 => .int
  | 21 => .int
  | 22 => .int
  | 23 => .int
  | 24 => .int
  | 25 => .int
  | 26 => .int
  | 27 => .long
  | 28 => .int
  | 29 => .boolean
  | 30 => .int
  | 31 => .array .int
  | 32 => .array .int
  | 33 => .array .int
  | 34 => .int
  | 35 => .array .int
  | 36 => .array .int
  | 37 => .int
  | 38 => .array .int
  | 39 => .array .int
  | 40 => .int
  | 41 => .int
  | 42 => .array .int
  | 43 => .array .int
  | 44 => .int
  | 45 => .int
  | 46 => .array .int
  | 47 => .array .int
  | 48 => .array .int
  | 49 => .int
  | 50 => .int
  | 51 => .int
  | 52 => .array .boolean
  | 53 => .array .int
  | 54 => .array .int
  | _ => .array .int
abbrev wsX80 : List Cond := u_ws RX8 TX8 56
theorem nmX8 : ∀ a, a < 56 → ∀ b, b < 56 → a ≠ b → (TX8 a).2.1 ≠ (TX8 b).2.1 := by decide +kernel
theorem tyX8_ok : ∀ k, k < 56 → parseFieldDescriptor (TX8 k).2.2.1 = some (tyX8 k) := by decide +kernel
abbrev cX8_in : ByteArray := prog_10_method_2_code
def yX8_in : MethodName := ⟨RX8, "in", "(JJJ)Z"⟩
abbrev cX8_within : ByteArray := prog_10_method_3_code
def yX8_within : MethodName := ⟨RX8, "within", "(III)I"⟩
abbrev cX8_off : ByteArray := prog_10_method_4_code
def yX8_off : MethodName := ⟨RX8, "off", "(II)I"⟩
abbrev cX8_bitsOf : ByteArray := prog_10_method_5_code
def yX8_bitsOf : MethodName := ⟨RX8, "bitsOf", "(I)I"⟩
abbrev cX8_init : ByteArray := prog_10_method_6_code
def yX8_init : MethodName := ⟨RX8, "<init>", "()V"⟩
abbrev cX8_spell : ByteArray := prog_10_method_7_code
def yX8_spell : MethodName := ⟨RX8, "spell", "(IIIIIIIII)V"⟩
abbrev cX8_isDog : ByteArray := prog_10_method_8_code
def yX8_isDog : MethodName := ⟨RX8, "isDog", "(I)Z"⟩
abbrev cX8_dog : ByteArray := prog_10_method_9_code
def yX8_dog : MethodName := ⟨RX8, "dog", "(III)I"⟩
abbrev cX8_set : ByteArray := prog_10_method_10_code
def yX8_set : MethodName := ⟨RX8, "set", "(III)I"⟩
abbrev cX8_placeOf : ByteArray := prog_10_method_11_code
def yX8_placeOf : MethodName := ⟨RX8, "placeOf", "(I)I"⟩
abbrev cX8_pulls : ByteArray := prog_10_method_12_code
def yX8_pulls : MethodName := ⟨RX8, "pulls", "(II)I"⟩
abbrev cX8_right : ByteArray := prog_10_method_13_code
def yX8_right : MethodName := ⟨RX8, "right", "(III)Z"⟩
abbrev cX8_told : ByteArray := prog_10_method_14_code
def yX8_told : MethodName := ⟨RX8, "told", "(II)I"⟩
abbrev cX8_feed : ByteArray := prog_10_method_15_code
def yX8_feed : MethodName := ⟨RX8, "feed", "(I)I"⟩
abbrev cX8_byteAt : ByteArray := prog_10_method_16_code
def yX8_byteAt : MethodName := ⟨RX8, "byteAt", "(I)I"⟩
abbrev cX8_next : ByteArray := prog_10_method_17_code
def yX8_next : MethodName := ⟨RX8, "next", "()V"⟩
abbrev cX8_fail : ByteArray := prog_10_method_18_code
def yX8_fail : MethodName := ⟨RX8, "fail", "()V"⟩
abbrev cX8_isLetter : ByteArray := prog_10_method_19_code
def yX8_isLetter : MethodName := ⟨RX8, "isLetter", "(II)Z"⟩
abbrev cX8_isWord : ByteArray := prog_10_method_20_code
def yX8_isWord : MethodName := ⟨RX8, "isWord", "(IIIIIIII)Z"⟩
abbrev cX8_isSign : ByteArray := prog_10_method_21_code
def yX8_isSign : MethodName := ⟨RX8, "isSign", "(I)Z"⟩
abbrev cX8_opens : ByteArray := prog_10_method_22_code
def yX8_opens : MethodName := ⟨RX8, "opens", "()Z"⟩
abbrev cX8_name : ByteArray := prog_10_method_23_code
def yX8_name : MethodName := ⟨RX8, "name", "()I"⟩
abbrev cX8_atom : ByteArray := prog_10_method_24_code
def yX8_atom : MethodName := ⟨RX8, "atom", "()I"⟩
abbrev cX8_term : ByteArray := prog_10_method_25_code
def yX8_term : MethodName := ⟨RX8, "term", "()I"⟩
abbrev cX8_added : ByteArray := prog_10_method_26_code
def yX8_added : MethodName := ⟨RX8, "added", "()I"⟩
abbrev cX8_not : ByteArray := prog_10_method_27_code
def yX8_not : MethodName := ⟨RX8, "not", "()I"⟩
abbrev cX8_both : ByteArray := prog_10_method_28_code
def yX8_both : MethodName := ⟨RX8, "both", "()I"⟩
abbrev cX8_either : ByteArray := prog_10_method_29_code
def yX8_either : MethodName := ⟨RX8, "either", "()I"⟩
abbrev cX8_part : ByteArray := prog_10_method_30_code
def yX8_part : MethodName := ⟨RX8, "part", "(Z)I"⟩
abbrev cX8_read : ByteArray := prog_10_method_31_code
def yX8_read : MethodName := ⟨RX8, "read", "(II)I"⟩
abbrev cX8_text : ByteArray := prog_10_method_32_code
def yX8_text : MethodName := ⟨RX8, "text", "()I"⟩
abbrev cX8_force : ByteArray := prog_10_method_33_code
def yX8_force : MethodName := ⟨RX8, "force", "(I)I"⟩
abbrev cX8_says : ByteArray := prog_10_method_34_code
def yX8_says : MethodName := ⟨RX8, "says", "(IIII)I"⟩
abbrev cX8_told2 : ByteArray := prog_10_method_35_code
def yX8_told2 : MethodName := ⟨RX8, "told2", "(III)I"⟩
abbrev cX8_asks : ByteArray := prog_10_method_36_code
def yX8_asks : MethodName := ⟨RX8, "asks", "(III)I"⟩
abbrev cX8_swap : ByteArray := prog_10_method_37_code
def yX8_swap : MethodName := ⟨RX8, "swap", "(I)V"⟩
abbrev cX8_cross : ByteArray := prog_10_method_38_code
def yX8_cross : MethodName := ⟨RX8, "cross", "(II)I"⟩
abbrev cX8_undo : ByteArray := prog_10_method_39_code
def yX8_undo : MethodName := ⟨RX8, "undo", "()I"⟩
abbrev cX8_comes : ByteArray := prog_10_method_40_code
def yX8_comes : MethodName := ⟨RX8, "comes", "(III)V"⟩
abbrev cX8_tangle : ByteArray := prog_10_method_41_code
def yX8_tangle : MethodName := ⟨RX8, "tangle", "(I)V"⟩
abbrev cX8_comb : ByteArray := prog_10_method_42_code
def yX8_comb : MethodName := ⟨RX8, "comb", "()I"⟩
abbrev cX8_at : ByteArray := prog_10_method_43_code
def yX8_at : MethodName := ⟨RX8, "at", "(I)I"⟩
abbrev cX8_left : ByteArray := prog_10_method_44_code
def yX8_left : MethodName := ⟨RX8, "left", "(I)I"⟩
abbrev cX8_who : ByteArray := prog_10_method_45_code
def yX8_who : MethodName := ⟨RX8, "who", "(II)I"⟩
abbrev cX8_without : ByteArray := prog_10_method_46_code
def yX8_without : MethodName := ⟨RX8, "without", "(I)I"⟩
abbrev cX8_unclip : ByteArray := prog_10_method_47_code
def yX8_unclip : MethodName := ⟨RX8, "unclip", "(I)I"⟩
abbrev cX8_cost : ByteArray := prog_10_method_48_code
def yX8_cost : MethodName := ⟨RX8, "cost", "()I"⟩
abbrev cX8_atOddsNow : ByteArray := prog_10_method_49_code
def yX8_atOddsNow : MethodName := ⟨RX8, "atOddsNow", "()I"⟩
abbrev cX8_orders : ByteArray := prog_10_method_50_code
def yX8_orders : MethodName := ⟨RX8, "orders", "(II)V"⟩
abbrev cX8_bestOrder : ByteArray := prog_10_method_51_code
def yX8_bestOrder : MethodName := ⟨RX8, "bestOrder", "()V"⟩
abbrev cX8_atOdds : ByteArray := prog_10_method_52_code
def yX8_atOdds : MethodName := ⟨RX8, "atOdds", "(I)I"⟩
abbrev cX8_best : ByteArray := prog_10_method_53_code
def yX8_best : MethodName := ⟨RX8, "best", "(I)I"⟩
abbrev cX8_orderBad : ByteArray := prog_10_method_54_code
def yX8_orderBad : MethodName := ⟨RX8, "orderBad", "(I)I"⟩
abbrev cX8_swaps : ByteArray := prog_10_method_55_code
def yX8_swaps : MethodName := ⟨RX8, "swaps", "(I)I"⟩
abbrev cX8_rightOf : ByteArray := prog_10_method_56_code
def yX8_rightOf : MethodName := ⟨RX8, "rightOf", "(I)I"⟩
abbrev cX8_wound : ByteArray := prog_10_method_57_code
def yX8_wound : MethodName := ⟨RX8, "wound", "(I)I"⟩
abbrev cX8_post : ByteArray := prog_10_method_58_code
def yX8_post : MethodName := ⟨RX8, "post", "(II)I"⟩
abbrev cX8_bestPost : ByteArray := prog_10_method_59_code
def yX8_bestPost : MethodName := ⟨RX8, "bestPost", "(I)I"⟩
abbrev cX8_rowsOf : ByteArray := prog_10_method_60_code
def yX8_rowsOf : MethodName := ⟨RX8, "rowsOf", "(III)V"⟩
abbrev cX8_seen : ByteArray := prog_10_method_61_code
def yX8_seen : MethodName := ⟨RX8, "seen", "(III)I"⟩
abbrev cX8_fetches : ByteArray := prog_10_method_62_code
def yX8_fetches : MethodName := ⟨RX8, "fetches", "(IIII)V"⟩
abbrev cX8_fetching : ByteArray := prog_10_method_63_code
def yX8_fetching : MethodName := ⟨RX8, "fetching", "()V"⟩
abbrev cX8_fetch : ByteArray := prog_10_method_64_code
def yX8_fetch : MethodName := ⟨RX8, "fetch", "()I"⟩
abbrev cX8_fetched : ByteArray := prog_10_method_65_code
def yX8_fetched : MethodName := ⟨RX8, "fetched", "(I)I"⟩
abbrev cX8_walk : ByteArray := prog_10_method_66_code
def yX8_walk : MethodName := ⟨RX8, "walk", "()I"⟩
abbrev cX8_take : ByteArray := prog_10_method_67_code
def yX8_take : MethodName := ⟨RX8, "take", "(I)I"⟩
abbrev cX8_drawn : ByteArray := prog_10_method_68_code
def yX8_drawn : MethodName := ⟨RX8, "drawn", "(II)I"⟩
abbrev cX8_chance : ByteArray := prog_10_method_69_code
def yX8_chance : MethodName := ⟨RX8, "chance", "(IIIII)J"⟩
abbrev cX8_image : ByteArray := prog_10_method_70_code
def yX8_image : MethodName := ⟨RX8, "image", "()I"⟩
abbrev cX8_back : ByteArray := prog_10_method_71_code
def yX8_back : MethodName := ⟨RX8, "back", "()I"⟩
abbrev cX8_count : ByteArray := prog_10_method_72_code
def yX8_count : MethodName := ⟨RX8, "count", "(I)I"⟩
abbrev cX8_isSheet : ByteArray := prog_10_method_73_code
def yX8_isSheet : MethodName := ⟨RX8, "isSheet", "(I)Z"⟩
abbrev cX8_sheet : ByteArray := prog_10_method_74_code
def yX8_sheet : MethodName := ⟨RX8, "sheet", "(III)I"⟩
abbrev cX8_cell : ByteArray := prog_10_method_75_code
def yX8_cell : MethodName := ⟨RX8, "cell", "(III)I"⟩
abbrev cX8_copy : ByteArray := prog_10_method_76_code
def yX8_copy : MethodName := ⟨RX8, "copy", "(IIIII)I"⟩
abbrev cX8_crossings : ByteArray := prog_10_method_77_code
def yX8_crossings : MethodName := ⟨RX8, "crossings", "(IIII)I"⟩
abbrev cX8_over : ByteArray := prog_10_method_78_code
def yX8_over : MethodName := ⟨RX8, "over", "(I)I"⟩
abbrev cX8_taken : ByteArray := prog_10_method_79_code
def yX8_taken : MethodName := ⟨RX8, "taken", "(II)I"⟩
def RJ11 : String := "java/lang/Character"
def TJ11 : u_T := fun k => match k with
  | _ => ("", "", "", false)
def tyJ11 : Nat → FieldType := fun k => match k with
  | _ => .int
abbrev wsJ110 : List Cond := u_ws RJ11 TJ11 0
theorem nmJ11 : ∀ a, a < 0 → ∀ b, b < 0 → a ≠ b → (TJ11 a).2.1 ≠ (TJ11 b).2.1 := by decide +kernel
theorem tyJ11_ok : ∀ k, k < 0 → parseFieldDescriptor (TJ11 k).2.2.1 = some (tyJ11 k) := by decide +kernel
abbrev cJ11_isValidCodePoint_9a6ad : ByteArray := prog_11_method_11_code
def yJ11_isValidCodePoint_9a6ad : MethodName := ⟨RJ11, "isValidCodePoint", "(I)Z"⟩
abbrev cJ11_highSurrogate_5068e : ByteArray := prog_11_method_28_code
def yJ11_highSurrogate_5068e : MethodName := ⟨RJ11, "highSurrogate", "(I)C"⟩
abbrev cJ11_lowSurrogate_5068e : ByteArray := prog_11_method_29_code
def yJ11_lowSurrogate_5068e : MethodName := ⟨RJ11, "lowSurrogate", "(I)C"⟩
def RJ6 : String := "java/lang/Integer"
def TJ6 : u_T := fun k => match k with
  | _ => ("", "", "", false)
def tyJ6 : Nat → FieldType := fun k => match k with
  | _ => .int
abbrev wsJ60 : List Cond := u_ws RJ6 TJ6 0
theorem nmJ6 : ∀ a, a < 0 → ∀ b, b < 0 → a ≠ b → (TJ6 a).2.1 ≠ (TJ6 b).2.1 := by decide +kernel
theorem tyJ6_ok : ∀ k, k < 0 → parseFieldDescriptor (TJ6 k).2.2.1 = some (tyJ6 k) := by decide +kernel
abbrev cJ6_bitCount_0f7a4 : ByteArray := prog_12_method_49_code
def yJ6_bitCount_0f7a4 : MethodName := ⟨RJ6, "bitCount", "(I)I"⟩
def RJ9 : String := "java/lang/Math"
def TJ9 : u_T := fun k => match k with
  | _ => ("", "", "", false)
def tyJ9 : Nat → FieldType := fun k => match k with
  | _ => .int
abbrev wsJ90 : List Cond := u_ws RJ9 TJ9 0
theorem nmJ9 : ∀ a, a < 0 → ∀ b, b < 0 → a ≠ b → (TJ9 a).2.1 ≠ (TJ9 b).2.1 := by decide +kernel
theorem tyJ9_ok : ∀ k, k < 0 → parseFieldDescriptor (TJ9 k).2.2.1 = some (tyJ9 k) := by decide +kernel
abbrev cJ9_abs_0f7a4 : ByteArray := prog_13_method_59_code
def yJ9_abs_0f7a4 : MethodName := ⟨RJ9, "abs", "(I)I"⟩
abbrev cJ9_max_7cf53 : ByteArray := prog_13_method_65_code
def yJ9_max_7cf53 : MethodName := ⟨RJ9, "max", "(II)I"⟩
abbrev cJ9_min_7cf53 : ByteArray := prog_13_method_69_code
def yJ9_min_7cf53 : MethodName := ⟨RJ9, "min", "(II)I"⟩
def RJ0 : String := "java/lang/String"
def TJ0 : u_T := fun k => match k with
  | _ => ("", "", "", false)
def tyJ0 : Nat → FieldType := fun k => match k with
  | _ => .int
abbrev wsJ00 : List Cond := u_ws RJ0 TJ0 0
theorem nmJ0 : ∀ a, a < 0 → ∀ b, b < 0 → a ≠ b → (TJ0 a).2.1 ≠ (TJ0 b).2.1 := by decide +kernel
theorem tyJ0_ok : ∀ k, k < 0 → parseFieldDescriptor (TJ0 k).2.2.1 = some (tyJ0 k) := by decide +kernel
abbrev cJ0_length_8abf5 : ByteArray := prog_14_method_54_code
def yJ0_length_8abf5 : MethodName := ⟨RJ0, "length", "()I"⟩
abbrev cJ0_charAt_5068e : ByteArray := prog_14_method_56_code
def yJ0_charAt_5068e : MethodName := ⟨RJ0, "charAt", "(I)C"⟩
abbrev cJ0_indexOf_0f7a4 : ByteArray := prog_14_method_79_code
def yJ0_indexOf_0f7a4 : MethodName := ⟨RJ0, "indexOf", "(I)I"⟩
abbrev cJ0_indexOf_7cf53 : ByteArray := prog_14_method_80_code
def yJ0_indexOf_7cf53 : MethodName := ⟨RJ0, "indexOf", "(II)I"⟩
abbrev cJ0_coder_7d493 : ByteArray := prog_14_method_152_code
def yJ0_coder_7d493 : MethodName := ⟨RJ0, "coder", "()B"⟩
abbrev cJ0_isLatin1_aae02 : ByteArray := prog_14_method_154_code
def yJ0_isLatin1_aae02 : MethodName := ⟨RJ0, "isLatin1", "()Z"⟩
abbrev cJ0_checkIndex_df160 : ByteArray := prog_14_method_155_code
def yJ0_checkIndex_df160 : MethodName := ⟨RJ0, "checkIndex", "(II)V"⟩
abbrev cJ0_checkBoundsBeginEnd_23922 : ByteArray := prog_14_method_158_code
def yJ0_checkBoundsBeginEnd_23922 : MethodName := ⟨RJ0, "checkBoundsBeginEnd", "(III)V"⟩
def RJ1 : String := "java/lang/StringLatin1"
def TJ1 : u_T := fun k => match k with
  | _ => ("", "", "", false)
def tyJ1 : Nat → FieldType := fun k => match k with
  | _ => .int
abbrev wsJ10 : List Cond := u_ws RJ1 TJ1 0
theorem nmJ1 : ∀ a, a < 0 → ∀ b, b < 0 → a ≠ b → (TJ1 a).2.1 ≠ (TJ1 b).2.1 := by decide +kernel
theorem tyJ1_ok : ∀ k, k < 0 → parseFieldDescriptor (TJ1 k).2.2.1 = some (tyJ1 k) := by decide +kernel
abbrev cJ1_charAt_3b067 : ByteArray := prog_15_method_2_code
def yJ1_charAt_3b067 : MethodName := ⟨RJ1, "charAt", "([BI)C"⟩
abbrev cJ1_canEncode_9a6ad : ByteArray := prog_15_method_4_code
def yJ1_canEncode_9a6ad : MethodName := ⟨RJ1, "canEncode", "(I)Z"⟩
abbrev cJ1_indexOf_4cfef : ByteArray := prog_15_method_22_code
def yJ1_indexOf_4cfef : MethodName := ⟨RJ1, "indexOf", "([BIII)I"⟩
abbrev cJ1_indexOfChar_4cfef : ByteArray := prog_15_method_23_code
def yJ1_indexOfChar_4cfef : MethodName := ⟨RJ1, "indexOfChar", "([BIII)I"⟩
def RJ2 : String := "java/lang/StringUTF16"
def TJ2 : u_T := fun k => match k with
  | _ => ("", "", "", false)
def tyJ2 : Nat → FieldType := fun k => match k with
  | _ => .int
abbrev wsJ20 : List Cond := u_ws RJ2 TJ2 0
theorem nmJ2 : ∀ a, a < 0 → ∀ b, b < 0 → a ≠ b → (TJ2 a).2.1 ≠ (TJ2 b).2.1 := by decide +kernel
theorem tyJ2_ok : ∀ k, k < 0 → parseFieldDescriptor (TJ2 k).2.2.1 = some (tyJ2 k) := by decide +kernel
abbrev cJ2_getChar_3b067 : ByteArray := prog_16_method_5_code
def yJ2_getChar_3b067 : MethodName := ⟨RJ2, "getChar", "([BI)C"⟩
abbrev cJ2_length_9d52b : ByteArray := prog_16_method_6_code
def yJ2_length_9d52b : MethodName := ⟨RJ2, "length", "([B)I"⟩
abbrev cJ2_indexOf_4cfef : ByteArray := prog_16_method_40_code
def yJ2_indexOf_4cfef : MethodName := ⟨RJ2, "indexOf", "([BIII)I"⟩
abbrev cJ2_indexOfChar_4cfef : ByteArray := prog_16_method_47_code
def yJ2_indexOfChar_4cfef : MethodName := ⟨RJ2, "indexOfChar", "([BIII)I"⟩
abbrev cJ2_indexOfCharUnsafe_4cfef : ByteArray := prog_16_method_48_code
def yJ2_indexOfCharUnsafe_4cfef : MethodName := ⟨RJ2, "indexOfCharUnsafe", "([BIII)I"⟩
abbrev cJ2_indexOfSupplementary_4cfef : ByteArray := prog_16_method_49_code
def yJ2_indexOfSupplementary_4cfef : MethodName := ⟨RJ2, "indexOfSupplementary", "([BIII)I"⟩
abbrev cJ2_charAt_3b067 : ByteArray := prog_16_method_83_code
def yJ2_charAt_3b067 : MethodName := ⟨RJ2, "charAt", "([BI)C"⟩
abbrev cJ2_checkIndex_2214a : ByteArray := prog_16_method_91_code
def yJ2_checkIndex_2214a : MethodName := ⟨RJ2, "checkIndex", "(I[B)V"⟩
abbrev cJ2_checkBoundsBeginEnd_d044e : ByteArray := prog_16_method_93_code
def yJ2_checkBoundsBeginEnd_d044e : MethodName := ⟨RJ2, "checkBoundsBeginEnd", "(II[B)V"⟩
def RJ10 : String := "java/lang/System"
def TJ10 : u_T := fun k => match k with
  | _ => ("", "", "", false)
def tyJ10 : Nat → FieldType := fun k => match k with
  | _ => .int
abbrev wsJ100 : List Cond := u_ws RJ10 TJ10 0
theorem nmJ10 : ∀ a, a < 0 → ∀ b, b < 0 → a ≠ b → (TJ10 a).2.1 ≠ (TJ10 b).2.1 := by decide +kernel
theorem tyJ10_ok : ∀ k, k < 0 → parseFieldDescriptor (TJ10 k).2.2.1 = some (tyJ10 k) := by decide +kernel
def RJ3 : String := "jdk/internal/util/Preconditions"
def TJ3 : u_T := fun k => match k with
  | _ => ("", "", "", false)
def tyJ3 : Nat → FieldType := fun k => match k with
  | _ => .int
abbrev wsJ30 : List Cond := u_ws RJ3 TJ3 0
theorem nmJ3 : ∀ a, a < 0 → ∀ b, b < 0 → a ≠ b → (TJ3 a).2.1 ≠ (TJ3 b).2.1 := by decide +kernel
theorem tyJ3_ok : ∀ k, k < 0 → parseFieldDescriptor (TJ3 k).2.2.1 = some (tyJ3 k) := by decide +kernel
abbrev cJ3_checkIndex_8e157 : ByteArray := prog_18_method_11_code
def yJ3_checkIndex_8e157 : MethodName := ⟨RJ3, "checkIndex", "(IILjava/util/function/BiFunction;)I"⟩
abbrev cJ3_checkFromToIndex_8c36e : ByteArray := prog_18_method_12_code
def yJ3_checkFromToIndex_8c36e : MethodName := ⟨RJ3, "checkFromToIndex", "(IIILjava/util/function/BiFunction;)I"⟩
def RL : String := "DogsOnLeadsLaw"
abbrev cL_law : ByteArray := code
def yL_law : MethodName := ⟨RL, "law", "([I)Z"⟩
end
section
theorem dJ11_isValidCodePoint_9a6ad_0 : decode cJ11_isValidCodePoint_9a6ad 0 = .ok (.iload_n 0, 1) := by decide +kernel
theorem dJ11_isValidCodePoint_9a6ad_1 : decode cJ11_isValidCodePoint_9a6ad 1 = .ok (.bipush 16, 2) := by decide +kernel
theorem dJ11_isValidCodePoint_9a6ad_3 : decode cJ11_isValidCodePoint_9a6ad 3 = .ok (.iushr, 1) := by decide +kernel
theorem dJ11_isValidCodePoint_9a6ad_4 : decode cJ11_isValidCodePoint_9a6ad 4 = .ok (.istore_n 1, 1) := by decide +kernel
theorem dJ11_isValidCodePoint_9a6ad_5 : decode cJ11_isValidCodePoint_9a6ad 5 = .ok (.iload_n 1, 1) := by decide +kernel
theorem dJ11_isValidCodePoint_9a6ad_6 : decode cJ11_isValidCodePoint_9a6ad 6 = .ok (.bipush 17, 2) := by decide +kernel
theorem dJ11_isValidCodePoint_9a6ad_8 : decode cJ11_isValidCodePoint_9a6ad 8 = .ok (.if_icmp .ge 7, 3) := by decide +kernel
theorem dJ11_isValidCodePoint_9a6ad_11 : decode cJ11_isValidCodePoint_9a6ad 11 = .ok (.iconst 1, 1) := by decide +kernel
theorem dJ11_isValidCodePoint_9a6ad_12 : decode cJ11_isValidCodePoint_9a6ad 12 = .ok (.goto 4, 3) := by decide +kernel
theorem dJ11_isValidCodePoint_9a6ad_15 : decode cJ11_isValidCodePoint_9a6ad 15 = .ok (.iconst 0, 1) := by decide +kernel
theorem dJ11_isValidCodePoint_9a6ad_16 : decode cJ11_isValidCodePoint_9a6ad 16 = .ok (.ireturn, 1) := by decide +kernel
theorem dJ11_highSurrogate_5068e_0 : decode cJ11_highSurrogate_5068e 0 = .ok (.iload_n 0, 1) := by decide +kernel
theorem dJ11_highSurrogate_5068e_1 : decode cJ11_highSurrogate_5068e 1 = .ok (.bipush 10, 2) := by decide +kernel
theorem dJ11_highSurrogate_5068e_3 : decode cJ11_highSurrogate_5068e 3 = .ok (.iushr, 1) := by decide +kernel
theorem dJ11_highSurrogate_5068e_4 : decode cJ11_highSurrogate_5068e 4 = .ok (.ldc 110, 2) := by decide +kernel
theorem dJ11_highSurrogate_5068e_6 : decode cJ11_highSurrogate_5068e 6 = .ok (.iadd, 1) := by decide +kernel
theorem dJ11_highSurrogate_5068e_7 : decode cJ11_highSurrogate_5068e 7 = .ok (.i2c, 1) := by decide +kernel
theorem dJ11_highSurrogate_5068e_8 : decode cJ11_highSurrogate_5068e 8 = .ok (.ireturn, 1) := by decide +kernel
theorem dJ11_lowSurrogate_5068e_0 : decode cJ11_lowSurrogate_5068e 0 = .ok (.iload_n 0, 1) := by decide +kernel
theorem dJ11_lowSurrogate_5068e_1 : decode cJ11_lowSurrogate_5068e 1 = .ok (.sipush 1023, 3) := by decide +kernel
theorem dJ11_lowSurrogate_5068e_4 : decode cJ11_lowSurrogate_5068e 4 = .ok (.iand, 1) := by decide +kernel
theorem dJ11_lowSurrogate_5068e_5 : decode cJ11_lowSurrogate_5068e 5 = .ok (.ldc 76, 2) := by decide +kernel
theorem dJ11_lowSurrogate_5068e_7 : decode cJ11_lowSurrogate_5068e 7 = .ok (.iadd, 1) := by decide +kernel
theorem dJ11_lowSurrogate_5068e_8 : decode cJ11_lowSurrogate_5068e 8 = .ok (.i2c, 1) := by decide +kernel
theorem dJ11_lowSurrogate_5068e_9 : decode cJ11_lowSurrogate_5068e 9 = .ok (.ireturn, 1) := by decide +kernel
theorem dJ6_bitCount_0f7a4_0 : decode cJ6_bitCount_0f7a4 0 = .ok (.iload_n 0, 1) := by decide +kernel
theorem dJ6_bitCount_0f7a4_1 : decode cJ6_bitCount_0f7a4 1 = .ok (.iload_n 0, 1) := by decide +kernel
theorem dJ6_bitCount_0f7a4_2 : decode cJ6_bitCount_0f7a4 2 = .ok (.iconst 1, 1) := by decide +kernel
theorem dJ6_bitCount_0f7a4_3 : decode cJ6_bitCount_0f7a4 3 = .ok (.iushr, 1) := by decide +kernel
theorem dJ6_bitCount_0f7a4_4 : decode cJ6_bitCount_0f7a4 4 = .ok (.ldc_w 265, 3) := by decide +kernel
theorem dJ6_bitCount_0f7a4_7 : decode cJ6_bitCount_0f7a4 7 = .ok (.iand, 1) := by decide +kernel
theorem dJ6_bitCount_0f7a4_8 : decode cJ6_bitCount_0f7a4 8 = .ok (.isub, 1) := by decide +kernel
theorem dJ6_bitCount_0f7a4_9 : decode cJ6_bitCount_0f7a4 9 = .ok (.istore_n 0, 1) := by decide +kernel
theorem dJ6_bitCount_0f7a4_10 : decode cJ6_bitCount_0f7a4 10 = .ok (.iload_n 0, 1) := by decide +kernel
theorem dJ6_bitCount_0f7a4_11 : decode cJ6_bitCount_0f7a4 11 = .ok (.ldc_w 266, 3) := by decide +kernel
theorem dJ6_bitCount_0f7a4_14 : decode cJ6_bitCount_0f7a4 14 = .ok (.iand, 1) := by decide +kernel
theorem dJ6_bitCount_0f7a4_15 : decode cJ6_bitCount_0f7a4 15 = .ok (.iload_n 0, 1) := by decide +kernel
theorem dJ6_bitCount_0f7a4_16 : decode cJ6_bitCount_0f7a4 16 = .ok (.iconst 2, 1) := by decide +kernel
theorem dJ6_bitCount_0f7a4_17 : decode cJ6_bitCount_0f7a4 17 = .ok (.iushr, 1) := by decide +kernel
theorem dJ6_bitCount_0f7a4_18 : decode cJ6_bitCount_0f7a4 18 = .ok (.ldc_w 266, 3) := by decide +kernel
theorem dJ6_bitCount_0f7a4_21 : decode cJ6_bitCount_0f7a4 21 = .ok (.iand, 1) := by decide +kernel
theorem dJ6_bitCount_0f7a4_22 : decode cJ6_bitCount_0f7a4 22 = .ok (.iadd, 1) := by decide +kernel
theorem dJ6_bitCount_0f7a4_23 : decode cJ6_bitCount_0f7a4 23 = .ok (.istore_n 0, 1) := by decide +kernel
theorem dJ6_bitCount_0f7a4_24 : decode cJ6_bitCount_0f7a4 24 = .ok (.iload_n 0, 1) := by decide +kernel
theorem dJ6_bitCount_0f7a4_25 : decode cJ6_bitCount_0f7a4 25 = .ok (.iload_n 0, 1) := by decide +kernel
theorem dJ6_bitCount_0f7a4_26 : decode cJ6_bitCount_0f7a4 26 = .ok (.iconst 4, 1) := by decide +kernel
theorem dJ6_bitCount_0f7a4_27 : decode cJ6_bitCount_0f7a4 27 = .ok (.iushr, 1) := by decide +kernel
theorem dJ6_bitCount_0f7a4_28 : decode cJ6_bitCount_0f7a4 28 = .ok (.iadd, 1) := by decide +kernel
theorem dJ6_bitCount_0f7a4_29 : decode cJ6_bitCount_0f7a4 29 = .ok (.ldc_w 267, 3) := by decide +kernel
theorem dJ6_bitCount_0f7a4_32 : decode cJ6_bitCount_0f7a4 32 = .ok (.iand, 1) := by decide +kernel
theorem dJ6_bitCount_0f7a4_33 : decode cJ6_bitCount_0f7a4 33 = .ok (.istore_n 0, 1) := by decide +kernel
theorem dJ6_bitCount_0f7a4_34 : decode cJ6_bitCount_0f7a4 34 = .ok (.iload_n 0, 1) := by decide +kernel
theorem dJ6_bitCount_0f7a4_35 : decode cJ6_bitCount_0f7a4 35 = .ok (.iload_n 0, 1) := by decide +kernel
theorem dJ6_bitCount_0f7a4_36 : decode cJ6_bitCount_0f7a4 36 = .ok (.bipush 8, 2) := by decide +kernel
theorem dJ6_bitCount_0f7a4_38 : decode cJ6_bitCount_0f7a4 38 = .ok (.iushr, 1) := by decide +kernel
theorem dJ6_bitCount_0f7a4_39 : decode cJ6_bitCount_0f7a4 39 = .ok (.iadd, 1) := by decide +kernel
theorem dJ6_bitCount_0f7a4_40 : decode cJ6_bitCount_0f7a4 40 = .ok (.istore_n 0, 1) := by decide +kernel
theorem dJ6_bitCount_0f7a4_41 : decode cJ6_bitCount_0f7a4 41 = .ok (.iload_n 0, 1) := by decide +kernel
theorem dJ6_bitCount_0f7a4_42 : decode cJ6_bitCount_0f7a4 42 = .ok (.iload_n 0, 1) := by decide +kernel
theorem dJ6_bitCount_0f7a4_43 : decode cJ6_bitCount_0f7a4 43 = .ok (.bipush 16, 2) := by decide +kernel
theorem dJ6_bitCount_0f7a4_45 : decode cJ6_bitCount_0f7a4 45 = .ok (.iushr, 1) := by decide +kernel
theorem dJ6_bitCount_0f7a4_46 : decode cJ6_bitCount_0f7a4 46 = .ok (.iadd, 1) := by decide +kernel
theorem dJ6_bitCount_0f7a4_47 : decode cJ6_bitCount_0f7a4 47 = .ok (.istore_n 0, 1) := by decide +kernel
theorem dJ6_bitCount_0f7a4_48 : decode cJ6_bitCount_0f7a4 48 = .ok (.iload_n 0, 1) := by decide +kernel
theorem dJ6_bitCount_0f7a4_49 : decode cJ6_bitCount_0f7a4 49 = .ok (.bipush 63, 2) := by decide +kernel
theorem dJ6_bitCount_0f7a4_51 : decode cJ6_bitCount_0f7a4 51 = .ok (.iand, 1) := by decide +kernel
theorem dJ6_bitCount_0f7a4_52 : decode cJ6_bitCount_0f7a4 52 = .ok (.ireturn, 1) := by decide +kernel
theorem dJ9_abs_0f7a4_0 : decode cJ9_abs_0f7a4 0 = .ok (.iload_n 0, 1) := by decide +kernel
theorem dJ9_abs_0f7a4_1 : decode cJ9_abs_0f7a4 1 = .ok (.ifCond .ge 8, 3) := by decide +kernel
theorem dJ9_abs_0f7a4_4 : decode cJ9_abs_0f7a4 4 = .ok (.iload_n 0, 1) := by decide +kernel
theorem dJ9_abs_0f7a4_5 : decode cJ9_abs_0f7a4 5 = .ok (.ineg, 1) := by decide +kernel
theorem dJ9_abs_0f7a4_6 : decode cJ9_abs_0f7a4 6 = .ok (.goto 4, 3) := by decide +kernel
theorem dJ9_abs_0f7a4_9 : decode cJ9_abs_0f7a4 9 = .ok (.iload_n 0, 1) := by decide +kernel
theorem dJ9_abs_0f7a4_10 : decode cJ9_abs_0f7a4 10 = .ok (.ireturn, 1) := by decide +kernel
theorem dJ9_max_7cf53_0 : decode cJ9_max_7cf53 0 = .ok (.iload_n 0, 1) := by decide +kernel
theorem dJ9_max_7cf53_1 : decode cJ9_max_7cf53 1 = .ok (.iload_n 1, 1) := by decide +kernel
theorem dJ9_max_7cf53_2 : decode cJ9_max_7cf53 2 = .ok (.if_icmp .lt 7, 3) := by decide +kernel
theorem dJ9_max_7cf53_5 : decode cJ9_max_7cf53 5 = .ok (.iload_n 0, 1) := by decide +kernel
theorem dJ9_max_7cf53_6 : decode cJ9_max_7cf53 6 = .ok (.goto 4, 3) := by decide +kernel
theorem dJ9_max_7cf53_9 : decode cJ9_max_7cf53 9 = .ok (.iload_n 1, 1) := by decide +kernel
theorem dJ9_max_7cf53_10 : decode cJ9_max_7cf53 10 = .ok (.ireturn, 1) := by decide +kernel
theorem dJ9_min_7cf53_0 : decode cJ9_min_7cf53 0 = .ok (.iload_n 0, 1) := by decide +kernel
theorem dJ9_min_7cf53_1 : decode cJ9_min_7cf53 1 = .ok (.iload_n 1, 1) := by decide +kernel
theorem dJ9_min_7cf53_2 : decode cJ9_min_7cf53 2 = .ok (.if_icmp .gt 7, 3) := by decide +kernel
theorem dJ9_min_7cf53_5 : decode cJ9_min_7cf53 5 = .ok (.iload_n 0, 1) := by decide +kernel
theorem dJ9_min_7cf53_6 : decode cJ9_min_7cf53 6 = .ok (.goto 4, 3) := by decide +kernel
theorem dJ9_min_7cf53_9 : decode cJ9_min_7cf53 9 = .ok (.iload_n 1, 1) := by decide +kernel
theorem dJ9_min_7cf53_10 : decode cJ9_min_7cf53 10 = .ok (.ireturn, 1) := by decide +kernel
theorem dJ0_length_8abf5_0 : decode cJ0_length_8abf5 0 = .ok (.aload_n 0, 1) := by decide +kernel
theorem dJ0_length_8abf5_1 : decode cJ0_length_8abf5 1 = .ok (.getfield 9, 3) := by decide +kernel
theorem dJ0_length_8abf5_4 : decode cJ0_length_8abf5 4 = .ok (.arraylength, 1) := by decide +kernel
theorem dJ0_length_8abf5_5 : decode cJ0_length_8abf5 5 = .ok (.aload_n 0, 1) := by decide +kernel
theorem dJ0_length_8abf5_6 : decode cJ0_length_8abf5 6 = .ok (.invokevirtual 335, 3) := by decide +kernel
theorem dJ0_length_8abf5_9 : decode cJ0_length_8abf5 9 = .ok (.ishr, 1) := by decide +kernel
theorem dJ0_length_8abf5_10 : decode cJ0_length_8abf5 10 = .ok (.ireturn, 1) := by decide +kernel
theorem dJ0_charAt_5068e_0 : decode cJ0_charAt_5068e 0 = .ok (.aload_n 0, 1) := by decide +kernel
theorem dJ0_charAt_5068e_1 : decode cJ0_charAt_5068e 1 = .ok (.invokevirtual 492, 3) := by decide +kernel
theorem dJ0_charAt_5068e_4 : decode cJ0_charAt_5068e 4 = .ok (.ifCond .eq 12, 3) := by decide +kernel
theorem dJ0_charAt_5068e_7 : decode cJ0_charAt_5068e 7 = .ok (.aload_n 0, 1) := by decide +kernel
theorem dJ0_charAt_5068e_8 : decode cJ0_charAt_5068e 8 = .ok (.getfield 9, 3) := by decide +kernel
theorem dJ0_charAt_5068e_11 : decode cJ0_charAt_5068e 11 = .ok (.iload_n 1, 1) := by decide +kernel
theorem dJ0_charAt_5068e_12 : decode cJ0_charAt_5068e 12 = .ok (.invokestatic 495, 3) := by decide +kernel
theorem dJ0_charAt_5068e_15 : decode cJ0_charAt_5068e 15 = .ok (.ireturn, 1) := by decide +kernel
theorem dJ0_charAt_5068e_16 : decode cJ0_charAt_5068e 16 = .ok (.aload_n 0, 1) := by decide +kernel
theorem dJ0_charAt_5068e_17 : decode cJ0_charAt_5068e 17 = .ok (.getfield 9, 3) := by decide +kernel
theorem dJ0_charAt_5068e_20 : decode cJ0_charAt_5068e 20 = .ok (.iload_n 1, 1) := by decide +kernel
theorem dJ0_charAt_5068e_21 : decode cJ0_charAt_5068e 21 = .ok (.invokestatic 498, 3) := by decide +kernel
theorem dJ0_charAt_5068e_24 : decode cJ0_charAt_5068e 24 = .ok (.ireturn, 1) := by decide +kernel
theorem dJ0_indexOf_0f7a4_0 : decode cJ0_indexOf_0f7a4 0 = .ok (.aload_n 0, 1) := by decide +kernel
theorem dJ0_indexOf_0f7a4_1 : decode cJ0_indexOf_0f7a4 1 = .ok (.iload_n 1, 1) := by decide +kernel
theorem dJ0_indexOf_0f7a4_2 : decode cJ0_indexOf_0f7a4 2 = .ok (.iconst 0, 1) := by decide +kernel
theorem dJ0_indexOf_0f7a4_3 : decode cJ0_indexOf_0f7a4 3 = .ok (.invokevirtual 633, 3) := by decide +kernel
theorem dJ0_indexOf_0f7a4_6 : decode cJ0_indexOf_0f7a4 6 = .ok (.ireturn, 1) := by decide +kernel
theorem dJ0_indexOf_7cf53_0 : decode cJ0_indexOf_7cf53 0 = .ok (.aload_n 0, 1) := by decide +kernel
theorem dJ0_indexOf_7cf53_1 : decode cJ0_indexOf_7cf53 1 = .ok (.invokevirtual 492, 3) := by decide +kernel
theorem dJ0_indexOf_7cf53_4 : decode cJ0_indexOf_7cf53 4 = .ok (.ifCond .eq 19, 3) := by decide +kernel
theorem dJ0_indexOf_7cf53_7 : decode cJ0_indexOf_7cf53 7 = .ok (.aload_n 0, 1) := by decide +kernel
theorem dJ0_indexOf_7cf53_8 : decode cJ0_indexOf_7cf53 8 = .ok (.getfield 9, 3) := by decide +kernel
theorem dJ0_indexOf_7cf53_11 : decode cJ0_indexOf_7cf53 11 = .ok (.iload_n 1, 1) := by decide +kernel
theorem dJ0_indexOf_7cf53_12 : decode cJ0_indexOf_7cf53 12 = .ok (.iload_n 2, 1) := by decide +kernel
theorem dJ0_indexOf_7cf53_13 : decode cJ0_indexOf_7cf53 13 = .ok (.aload_n 0, 1) := by decide +kernel
theorem dJ0_indexOf_7cf53_14 : decode cJ0_indexOf_7cf53 14 = .ok (.invokevirtual 505, 3) := by decide +kernel
theorem dJ0_indexOf_7cf53_17 : decode cJ0_indexOf_7cf53 17 = .ok (.invokestatic 637, 3) := by decide +kernel
theorem dJ0_indexOf_7cf53_20 : decode cJ0_indexOf_7cf53 20 = .ok (.goto 16, 3) := by decide +kernel
theorem dJ0_indexOf_7cf53_23 : decode cJ0_indexOf_7cf53 23 = .ok (.aload_n 0, 1) := by decide +kernel
theorem dJ0_indexOf_7cf53_24 : decode cJ0_indexOf_7cf53 24 = .ok (.getfield 9, 3) := by decide +kernel
theorem dJ0_indexOf_7cf53_27 : decode cJ0_indexOf_7cf53 27 = .ok (.iload_n 1, 1) := by decide +kernel
theorem dJ0_indexOf_7cf53_28 : decode cJ0_indexOf_7cf53 28 = .ok (.iload_n 2, 1) := by decide +kernel
theorem dJ0_indexOf_7cf53_29 : decode cJ0_indexOf_7cf53 29 = .ok (.aload_n 0, 1) := by decide +kernel
theorem dJ0_indexOf_7cf53_30 : decode cJ0_indexOf_7cf53 30 = .ok (.invokevirtual 505, 3) := by decide +kernel
theorem dJ0_indexOf_7cf53_33 : decode cJ0_indexOf_7cf53 33 = .ok (.invokestatic 640, 3) := by decide +kernel
theorem dJ0_indexOf_7cf53_36 : decode cJ0_indexOf_7cf53 36 = .ok (.ireturn, 1) := by decide +kernel
theorem dJ0_coder_7d493_0 : decode cJ0_coder_7d493 0 = .ok (.getstatic 38, 3) := by decide +kernel
theorem dJ0_coder_7d493_3 : decode cJ0_coder_7d493 3 = .ok (.ifCond .eq 10, 3) := by decide +kernel
theorem dJ0_coder_7d493_6 : decode cJ0_coder_7d493 6 = .ok (.aload_n 0, 1) := by decide +kernel
theorem dJ0_coder_7d493_7 : decode cJ0_coder_7d493 7 = .ok (.getfield 15, 3) := by decide +kernel
theorem dJ0_coder_7d493_10 : decode cJ0_coder_7d493 10 = .ok (.goto 4, 3) := by decide +kernel
theorem dJ0_coder_7d493_13 : decode cJ0_coder_7d493 13 = .ok (.iconst 1, 1) := by decide +kernel
theorem dJ0_coder_7d493_14 : decode cJ0_coder_7d493 14 = .ok (.ireturn, 1) := by decide +kernel
theorem dJ0_isLatin1_aae02_0 : decode cJ0_isLatin1_aae02 0 = .ok (.getstatic 38, 3) := by decide +kernel
theorem dJ0_isLatin1_aae02_3 : decode cJ0_isLatin1_aae02 3 = .ok (.ifCond .eq 14, 3) := by decide +kernel
theorem dJ0_isLatin1_aae02_6 : decode cJ0_isLatin1_aae02 6 = .ok (.aload_n 0, 1) := by decide +kernel
theorem dJ0_isLatin1_aae02_7 : decode cJ0_isLatin1_aae02 7 = .ok (.getfield 15, 3) := by decide +kernel
theorem dJ0_isLatin1_aae02_10 : decode cJ0_isLatin1_aae02 10 = .ok (.ifCond .ne 7, 3) := by decide +kernel
theorem dJ0_isLatin1_aae02_13 : decode cJ0_isLatin1_aae02 13 = .ok (.iconst 1, 1) := by decide +kernel
theorem dJ0_isLatin1_aae02_14 : decode cJ0_isLatin1_aae02 14 = .ok (.goto 4, 3) := by decide +kernel
theorem dJ0_isLatin1_aae02_17 : decode cJ0_isLatin1_aae02 17 = .ok (.iconst 0, 1) := by decide +kernel
theorem dJ0_isLatin1_aae02_18 : decode cJ0_isLatin1_aae02 18 = .ok (.ireturn, 1) := by decide +kernel
theorem dJ0_checkIndex_df160_0 : decode cJ0_checkIndex_df160 0 = .ok (.iload_n 0, 1) := by decide +kernel
theorem dJ0_checkIndex_df160_1 : decode cJ0_checkIndex_df160 1 = .ok (.iload_n 1, 1) := by decide +kernel
theorem dJ0_checkIndex_df160_2 : decode cJ0_checkIndex_df160 2 = .ok (.getstatic 1053, 3) := by decide +kernel
theorem dJ0_checkIndex_df160_5 : decode cJ0_checkIndex_df160 5 = .ok (.invokestatic 1059, 3) := by decide +kernel
theorem dJ0_checkIndex_df160_8 : decode cJ0_checkIndex_df160 8 = .ok (.pop, 1) := by decide +kernel
theorem dJ0_checkIndex_df160_9 : decode cJ0_checkIndex_df160 9 = .ok (.return_, 1) := by decide +kernel
theorem dJ0_checkBoundsBeginEnd_23922_0 : decode cJ0_checkBoundsBeginEnd_23922 0 = .ok (.iload_n 0, 1) := by decide +kernel
theorem dJ0_checkBoundsBeginEnd_23922_1 : decode cJ0_checkBoundsBeginEnd_23922 1 = .ok (.iload_n 1, 1) := by decide +kernel
theorem dJ0_checkBoundsBeginEnd_23922_2 : decode cJ0_checkBoundsBeginEnd_23922 2 = .ok (.iload_n 2, 1) := by decide +kernel
theorem dJ0_checkBoundsBeginEnd_23922_3 : decode cJ0_checkBoundsBeginEnd_23922 3 = .ok (.getstatic 1053, 3) := by decide +kernel
theorem dJ0_checkBoundsBeginEnd_23922_6 : decode cJ0_checkBoundsBeginEnd_23922 6 = .ok (.invokestatic 1062, 3) := by decide +kernel
theorem dJ0_checkBoundsBeginEnd_23922_9 : decode cJ0_checkBoundsBeginEnd_23922 9 = .ok (.pop, 1) := by decide +kernel
theorem dJ0_checkBoundsBeginEnd_23922_10 : decode cJ0_checkBoundsBeginEnd_23922 10 = .ok (.return_, 1) := by decide +kernel
theorem dJ1_charAt_3b067_0 : decode cJ1_charAt_3b067 0 = .ok (.iload_n 1, 1) := by decide +kernel
theorem dJ1_charAt_3b067_1 : decode cJ1_charAt_3b067 1 = .ok (.aload_n 0, 1) := by decide +kernel
theorem dJ1_charAt_3b067_2 : decode cJ1_charAt_3b067 2 = .ok (.arraylength, 1) := by decide +kernel
theorem dJ1_charAt_3b067_3 : decode cJ1_charAt_3b067 3 = .ok (.invokestatic 9, 3) := by decide +kernel
theorem dJ1_charAt_3b067_6 : decode cJ1_charAt_3b067 6 = .ok (.aload_n 0, 1) := by decide +kernel
theorem dJ1_charAt_3b067_7 : decode cJ1_charAt_3b067 7 = .ok (.iload_n 1, 1) := by decide +kernel
theorem dJ1_charAt_3b067_8 : decode cJ1_charAt_3b067 8 = .ok (.baload, 1) := by decide +kernel
theorem dJ1_charAt_3b067_9 : decode cJ1_charAt_3b067 9 = .ok (.sipush 255, 3) := by decide +kernel
theorem dJ1_charAt_3b067_12 : decode cJ1_charAt_3b067 12 = .ok (.iand, 1) := by decide +kernel
theorem dJ1_charAt_3b067_13 : decode cJ1_charAt_3b067 13 = .ok (.i2c, 1) := by decide +kernel
theorem dJ1_charAt_3b067_14 : decode cJ1_charAt_3b067 14 = .ok (.ireturn, 1) := by decide +kernel
theorem dJ1_canEncode_9a6ad_0 : decode cJ1_canEncode_9a6ad 0 = .ok (.iload_n 0, 1) := by decide +kernel
theorem dJ1_canEncode_9a6ad_1 : decode cJ1_canEncode_9a6ad 1 = .ok (.ifCond .lt 14, 3) := by decide +kernel
theorem dJ1_canEncode_9a6ad_4 : decode cJ1_canEncode_9a6ad 4 = .ok (.iload_n 0, 1) := by decide +kernel
theorem dJ1_canEncode_9a6ad_5 : decode cJ1_canEncode_9a6ad 5 = .ok (.sipush 255, 3) := by decide +kernel
theorem dJ1_canEncode_9a6ad_8 : decode cJ1_canEncode_9a6ad 8 = .ok (.if_icmp .gt 7, 3) := by decide +kernel
theorem dJ1_canEncode_9a6ad_11 : decode cJ1_canEncode_9a6ad 11 = .ok (.iconst 1, 1) := by decide +kernel
theorem dJ1_canEncode_9a6ad_12 : decode cJ1_canEncode_9a6ad 12 = .ok (.goto 4, 3) := by decide +kernel
theorem dJ1_canEncode_9a6ad_15 : decode cJ1_canEncode_9a6ad 15 = .ok (.iconst 0, 1) := by decide +kernel
theorem dJ1_canEncode_9a6ad_16 : decode cJ1_canEncode_9a6ad 16 = .ok (.ireturn, 1) := by decide +kernel
theorem dJ1_indexOf_4cfef_0 : decode cJ1_indexOf_4cfef 0 = .ok (.iload_n 1, 1) := by decide +kernel
theorem dJ1_indexOf_4cfef_1 : decode cJ1_indexOf_4cfef 1 = .ok (.invokestatic 88, 3) := by decide +kernel
theorem dJ1_indexOf_4cfef_4 : decode cJ1_indexOf_4cfef 4 = .ok (.ifCond .ne 5, 3) := by decide +kernel
theorem dJ1_indexOf_4cfef_7 : decode cJ1_indexOf_4cfef 7 = .ok (.iconst (-1), 1) := by decide +kernel
theorem dJ1_indexOf_4cfef_8 : decode cJ1_indexOf_4cfef 8 = .ok (.ireturn, 1) := by decide +kernel
theorem dJ1_indexOf_4cfef_9 : decode cJ1_indexOf_4cfef 9 = .ok (.iload_n 2, 1) := by decide +kernel
theorem dJ1_indexOf_4cfef_10 : decode cJ1_indexOf_4cfef 10 = .ok (.iconst 0, 1) := by decide +kernel
theorem dJ1_indexOf_4cfef_11 : decode cJ1_indexOf_4cfef 11 = .ok (.invokestatic 92, 3) := by decide +kernel
theorem dJ1_indexOf_4cfef_14 : decode cJ1_indexOf_4cfef 14 = .ok (.istore_n 2, 1) := by decide +kernel
theorem dJ1_indexOf_4cfef_15 : decode cJ1_indexOf_4cfef 15 = .ok (.iload_n 3, 1) := by decide +kernel
theorem dJ1_indexOf_4cfef_16 : decode cJ1_indexOf_4cfef 16 = .ok (.aload_n 0, 1) := by decide +kernel
theorem dJ1_indexOf_4cfef_17 : decode cJ1_indexOf_4cfef 17 = .ok (.arraylength, 1) := by decide +kernel
theorem dJ1_indexOf_4cfef_18 : decode cJ1_indexOf_4cfef 18 = .ok (.invokestatic 38, 3) := by decide +kernel
theorem dJ1_indexOf_4cfef_21 : decode cJ1_indexOf_4cfef 21 = .ok (.istore_n 3, 1) := by decide +kernel
theorem dJ1_indexOf_4cfef_22 : decode cJ1_indexOf_4cfef 22 = .ok (.iload_n 2, 1) := by decide +kernel
theorem dJ1_indexOf_4cfef_23 : decode cJ1_indexOf_4cfef 23 = .ok (.iload_n 3, 1) := by decide +kernel
theorem dJ1_indexOf_4cfef_24 : decode cJ1_indexOf_4cfef 24 = .ok (.if_icmp .lt 5, 3) := by decide +kernel
theorem dJ1_indexOf_4cfef_27 : decode cJ1_indexOf_4cfef 27 = .ok (.iconst (-1), 1) := by decide +kernel
theorem dJ1_indexOf_4cfef_28 : decode cJ1_indexOf_4cfef 28 = .ok (.ireturn, 1) := by decide +kernel
theorem dJ1_indexOf_4cfef_29 : decode cJ1_indexOf_4cfef 29 = .ok (.aload_n 0, 1) := by decide +kernel
theorem dJ1_indexOf_4cfef_30 : decode cJ1_indexOf_4cfef 30 = .ok (.iload_n 1, 1) := by decide +kernel
theorem dJ1_indexOf_4cfef_31 : decode cJ1_indexOf_4cfef 31 = .ok (.iload_n 2, 1) := by decide +kernel
theorem dJ1_indexOf_4cfef_32 : decode cJ1_indexOf_4cfef 32 = .ok (.iload_n 3, 1) := by decide +kernel
theorem dJ1_indexOf_4cfef_33 : decode cJ1_indexOf_4cfef 33 = .ok (.invokestatic 95, 3) := by decide +kernel
theorem dJ1_indexOf_4cfef_36 : decode cJ1_indexOf_4cfef 36 = .ok (.ireturn, 1) := by decide +kernel
theorem dJ1_indexOfChar_4cfef_0 : decode cJ1_indexOfChar_4cfef 0 = .ok (.iload_n 1, 1) := by decide +kernel
theorem dJ1_indexOfChar_4cfef_1 : decode cJ1_indexOfChar_4cfef 1 = .ok (.i2b, 1) := by decide +kernel
theorem dJ1_indexOfChar_4cfef_2 : decode cJ1_indexOfChar_4cfef 2 = .ok (.istore 4, 2) := by decide +kernel
theorem dJ1_indexOfChar_4cfef_4 : decode cJ1_indexOfChar_4cfef 4 = .ok (.iload_n 2, 1) := by decide +kernel
theorem dJ1_indexOfChar_4cfef_5 : decode cJ1_indexOfChar_4cfef 5 = .ok (.istore 5, 2) := by decide +kernel
theorem dJ1_indexOfChar_4cfef_7 : decode cJ1_indexOfChar_4cfef 7 = .ok (.iload 5, 2) := by decide +kernel
theorem dJ1_indexOfChar_4cfef_9 : decode cJ1_indexOfChar_4cfef 9 = .ok (.iload_n 3, 1) := by decide +kernel
theorem dJ1_indexOfChar_4cfef_10 : decode cJ1_indexOfChar_4cfef 10 = .ok (.if_icmp .ge 21, 3) := by decide +kernel
theorem dJ1_indexOfChar_4cfef_13 : decode cJ1_indexOfChar_4cfef 13 = .ok (.aload_n 0, 1) := by decide +kernel
theorem dJ1_indexOfChar_4cfef_14 : decode cJ1_indexOfChar_4cfef 14 = .ok (.iload 5, 2) := by decide +kernel
theorem dJ1_indexOfChar_4cfef_16 : decode cJ1_indexOfChar_4cfef 16 = .ok (.baload, 1) := by decide +kernel
theorem dJ1_indexOfChar_4cfef_17 : decode cJ1_indexOfChar_4cfef 17 = .ok (.iload 4, 2) := by decide +kernel
theorem dJ1_indexOfChar_4cfef_19 : decode cJ1_indexOfChar_4cfef 19 = .ok (.if_icmp .ne 6, 3) := by decide +kernel
theorem dJ1_indexOfChar_4cfef_22 : decode cJ1_indexOfChar_4cfef 22 = .ok (.iload 5, 2) := by decide +kernel
theorem dJ1_indexOfChar_4cfef_24 : decode cJ1_indexOfChar_4cfef 24 = .ok (.ireturn, 1) := by decide +kernel
theorem dJ1_indexOfChar_4cfef_25 : decode cJ1_indexOfChar_4cfef 25 = .ok (.iinc 5 1, 3) := by decide +kernel
theorem dJ1_indexOfChar_4cfef_28 : decode cJ1_indexOfChar_4cfef 28 = .ok (.goto (-21), 3) := by decide +kernel
theorem dJ1_indexOfChar_4cfef_31 : decode cJ1_indexOfChar_4cfef 31 = .ok (.iconst (-1), 1) := by decide +kernel
theorem dJ1_indexOfChar_4cfef_32 : decode cJ1_indexOfChar_4cfef 32 = .ok (.ireturn, 1) := by decide +kernel
theorem dJ2_getChar_3b067_0 : decode cJ2_getChar_3b067 0 = .ok (.getstatic 44, 3) := by decide +kernel
theorem dJ2_getChar_3b067_3 : decode cJ2_getChar_3b067 3 = .ok (.ifCond .ne 25, 3) := by decide +kernel
theorem dJ2_getChar_3b067_6 : decode cJ2_getChar_3b067 6 = .ok (.iload_n 1, 1) := by decide +kernel
theorem dJ2_getChar_3b067_7 : decode cJ2_getChar_3b067 7 = .ok (.ifCond .lt 11, 3) := by decide +kernel
theorem dJ2_getChar_3b067_10 : decode cJ2_getChar_3b067 10 = .ok (.iload_n 1, 1) := by decide +kernel
theorem dJ2_getChar_3b067_11 : decode cJ2_getChar_3b067 11 = .ok (.aload_n 0, 1) := by decide +kernel
theorem dJ2_getChar_3b067_12 : decode cJ2_getChar_3b067 12 = .ok (.invokestatic 48, 3) := by decide +kernel
theorem dJ2_getChar_3b067_15 : decode cJ2_getChar_3b067 15 = .ok (.if_icmp .lt 13, 3) := by decide +kernel
theorem dJ2_getChar_3b067_18 : decode cJ2_getChar_3b067 18 = .ok (.new 52, 3) := by decide +kernel
theorem dJ2_getChar_3b067_21 : decode cJ2_getChar_3b067 21 = .ok (.dup, 1) := by decide +kernel
theorem dJ2_getChar_3b067_22 : decode cJ2_getChar_3b067 22 = .ok (.ldc 54, 2) := by decide +kernel
theorem dJ2_getChar_3b067_24 : decode cJ2_getChar_3b067 24 = .ok (.invokespecial 56, 3) := by decide +kernel
theorem dJ2_getChar_3b067_27 : decode cJ2_getChar_3b067 27 = .ok (.athrow, 1) := by decide +kernel
theorem dJ2_getChar_3b067_28 : decode cJ2_getChar_3b067 28 = .ok (.iload_n 1, 1) := by decide +kernel
theorem dJ2_getChar_3b067_29 : decode cJ2_getChar_3b067 29 = .ok (.iconst 1, 1) := by decide +kernel
theorem dJ2_getChar_3b067_30 : decode cJ2_getChar_3b067 30 = .ok (.ishl, 1) := by decide +kernel
theorem dJ2_getChar_3b067_31 : decode cJ2_getChar_3b067 31 = .ok (.istore_n 1, 1) := by decide +kernel
theorem dJ2_getChar_3b067_32 : decode cJ2_getChar_3b067 32 = .ok (.aload_n 0, 1) := by decide +kernel
theorem dJ2_getChar_3b067_33 : decode cJ2_getChar_3b067 33 = .ok (.iload_n 1, 1) := by decide +kernel
theorem dJ2_getChar_3b067_34 : decode cJ2_getChar_3b067 34 = .ok (.iinc 1 1, 3) := by decide +kernel
theorem dJ2_getChar_3b067_37 : decode cJ2_getChar_3b067 37 = .ok (.baload, 1) := by decide +kernel
theorem dJ2_getChar_3b067_38 : decode cJ2_getChar_3b067 38 = .ok (.sipush 255, 3) := by decide +kernel
theorem dJ2_getChar_3b067_41 : decode cJ2_getChar_3b067 41 = .ok (.iand, 1) := by decide +kernel
theorem dJ2_getChar_3b067_42 : decode cJ2_getChar_3b067 42 = .ok (.getstatic 59, 3) := by decide +kernel
theorem dJ2_getChar_3b067_45 : decode cJ2_getChar_3b067 45 = .ok (.ishl, 1) := by decide +kernel
theorem dJ2_getChar_3b067_46 : decode cJ2_getChar_3b067 46 = .ok (.aload_n 0, 1) := by decide +kernel
theorem dJ2_getChar_3b067_47 : decode cJ2_getChar_3b067 47 = .ok (.iload_n 1, 1) := by decide +kernel
theorem dJ2_getChar_3b067_48 : decode cJ2_getChar_3b067 48 = .ok (.baload, 1) := by decide +kernel
theorem dJ2_getChar_3b067_49 : decode cJ2_getChar_3b067 49 = .ok (.sipush 255, 3) := by decide +kernel
theorem dJ2_getChar_3b067_52 : decode cJ2_getChar_3b067 52 = .ok (.iand, 1) := by decide +kernel
theorem dJ2_getChar_3b067_53 : decode cJ2_getChar_3b067 53 = .ok (.getstatic 63, 3) := by decide +kernel
theorem dJ2_getChar_3b067_56 : decode cJ2_getChar_3b067 56 = .ok (.ishl, 1) := by decide +kernel
theorem dJ2_getChar_3b067_57 : decode cJ2_getChar_3b067 57 = .ok (.ior, 1) := by decide +kernel
theorem dJ2_getChar_3b067_58 : decode cJ2_getChar_3b067 58 = .ok (.i2c, 1) := by decide +kernel
theorem dJ2_getChar_3b067_59 : decode cJ2_getChar_3b067 59 = .ok (.ireturn, 1) := by decide +kernel
theorem dJ2_length_9d52b_0 : decode cJ2_length_9d52b 0 = .ok (.aload_n 0, 1) := by decide +kernel
theorem dJ2_length_9d52b_1 : decode cJ2_length_9d52b 1 = .ok (.arraylength, 1) := by decide +kernel
theorem dJ2_length_9d52b_2 : decode cJ2_length_9d52b 2 = .ok (.iconst 1, 1) := by decide +kernel
theorem dJ2_length_9d52b_3 : decode cJ2_length_9d52b 3 = .ok (.ishr, 1) := by decide +kernel
theorem dJ2_length_9d52b_4 : decode cJ2_length_9d52b 4 = .ok (.ireturn, 1) := by decide +kernel
theorem dJ2_indexOf_4cfef_0 : decode cJ2_indexOf_4cfef 0 = .ok (.iload_n 2, 1) := by decide +kernel
theorem dJ2_indexOf_4cfef_1 : decode cJ2_indexOf_4cfef 1 = .ok (.iconst 0, 1) := by decide +kernel
theorem dJ2_indexOf_4cfef_2 : decode cJ2_indexOf_4cfef 2 = .ok (.invokestatic 224, 3) := by decide +kernel
theorem dJ2_indexOf_4cfef_5 : decode cJ2_indexOf_4cfef 5 = .ok (.istore_n 2, 1) := by decide +kernel
theorem dJ2_indexOf_4cfef_6 : decode cJ2_indexOf_4cfef 6 = .ok (.iload_n 3, 1) := by decide +kernel
theorem dJ2_indexOf_4cfef_7 : decode cJ2_indexOf_4cfef 7 = .ok (.aload_n 0, 1) := by decide +kernel
theorem dJ2_indexOf_4cfef_8 : decode cJ2_indexOf_4cfef 8 = .ok (.arraylength, 1) := by decide +kernel
theorem dJ2_indexOf_4cfef_9 : decode cJ2_indexOf_4cfef 9 = .ok (.iconst 1, 1) := by decide +kernel
theorem dJ2_indexOf_4cfef_10 : decode cJ2_indexOf_4cfef 10 = .ok (.ishr, 1) := by decide +kernel
theorem dJ2_indexOf_4cfef_11 : decode cJ2_indexOf_4cfef 11 = .ok (.invokestatic 183, 3) := by decide +kernel
theorem dJ2_indexOf_4cfef_14 : decode cJ2_indexOf_4cfef 14 = .ok (.istore_n 3, 1) := by decide +kernel
theorem dJ2_indexOf_4cfef_15 : decode cJ2_indexOf_4cfef 15 = .ok (.iload_n 2, 1) := by decide +kernel
theorem dJ2_indexOf_4cfef_16 : decode cJ2_indexOf_4cfef 16 = .ok (.iload_n 3, 1) := by decide +kernel
theorem dJ2_indexOf_4cfef_17 : decode cJ2_indexOf_4cfef 17 = .ok (.if_icmp .lt 5, 3) := by decide +kernel
theorem dJ2_indexOf_4cfef_20 : decode cJ2_indexOf_4cfef 20 = .ok (.iconst (-1), 1) := by decide +kernel
theorem dJ2_indexOf_4cfef_21 : decode cJ2_indexOf_4cfef 21 = .ok (.ireturn, 1) := by decide +kernel
theorem dJ2_indexOf_4cfef_22 : decode cJ2_indexOf_4cfef 22 = .ok (.iload_n 1, 1) := by decide +kernel
theorem dJ2_indexOf_4cfef_23 : decode cJ2_indexOf_4cfef 23 = .ok (.ldc 227, 2) := by decide +kernel
theorem dJ2_indexOf_4cfef_25 : decode cJ2_indexOf_4cfef 25 = .ok (.if_icmp .ge 11, 3) := by decide +kernel
theorem dJ2_indexOf_4cfef_28 : decode cJ2_indexOf_4cfef 28 = .ok (.aload_n 0, 1) := by decide +kernel
theorem dJ2_indexOf_4cfef_29 : decode cJ2_indexOf_4cfef 29 = .ok (.iload_n 1, 1) := by decide +kernel
theorem dJ2_indexOf_4cfef_30 : decode cJ2_indexOf_4cfef 30 = .ok (.iload_n 2, 1) := by decide +kernel
theorem dJ2_indexOf_4cfef_31 : decode cJ2_indexOf_4cfef 31 = .ok (.iload_n 3, 1) := by decide +kernel
theorem dJ2_indexOf_4cfef_32 : decode cJ2_indexOf_4cfef 32 = .ok (.invokestatic 228, 3) := by decide +kernel
theorem dJ2_indexOf_4cfef_35 : decode cJ2_indexOf_4cfef 35 = .ok (.ireturn, 1) := by decide +kernel
theorem dJ2_indexOf_4cfef_36 : decode cJ2_indexOf_4cfef 36 = .ok (.aload_n 0, 1) := by decide +kernel
theorem dJ2_indexOf_4cfef_37 : decode cJ2_indexOf_4cfef 37 = .ok (.iload_n 1, 1) := by decide +kernel
theorem dJ2_indexOf_4cfef_38 : decode cJ2_indexOf_4cfef 38 = .ok (.iload_n 2, 1) := by decide +kernel
theorem dJ2_indexOf_4cfef_39 : decode cJ2_indexOf_4cfef 39 = .ok (.iload_n 3, 1) := by decide +kernel
theorem dJ2_indexOf_4cfef_40 : decode cJ2_indexOf_4cfef 40 = .ok (.invokestatic 232, 3) := by decide +kernel
theorem dJ2_indexOf_4cfef_43 : decode cJ2_indexOf_4cfef 43 = .ok (.ireturn, 1) := by decide +kernel
theorem dJ2_indexOfChar_4cfef_0 : decode cJ2_indexOfChar_4cfef 0 = .ok (.iload_n 2, 1) := by decide +kernel
theorem dJ2_indexOfChar_4cfef_1 : decode cJ2_indexOfChar_4cfef 1 = .ok (.iload_n 3, 1) := by decide +kernel
theorem dJ2_indexOfChar_4cfef_2 : decode cJ2_indexOfChar_4cfef 2 = .ok (.aload_n 0, 1) := by decide +kernel
theorem dJ2_indexOfChar_4cfef_3 : decode cJ2_indexOfChar_4cfef 3 = .ok (.invokestatic 96, 3) := by decide +kernel
theorem dJ2_indexOfChar_4cfef_6 : decode cJ2_indexOfChar_4cfef 6 = .ok (.aload_n 0, 1) := by decide +kernel
theorem dJ2_indexOfChar_4cfef_7 : decode cJ2_indexOfChar_4cfef 7 = .ok (.iload_n 1, 1) := by decide +kernel
theorem dJ2_indexOfChar_4cfef_8 : decode cJ2_indexOfChar_4cfef 8 = .ok (.iload_n 2, 1) := by decide +kernel
theorem dJ2_indexOfChar_4cfef_9 : decode cJ2_indexOfChar_4cfef 9 = .ok (.iload_n 3, 1) := by decide +kernel
theorem dJ2_indexOfChar_4cfef_10 : decode cJ2_indexOfChar_4cfef 10 = .ok (.invokestatic 244, 3) := by decide +kernel
theorem dJ2_indexOfChar_4cfef_13 : decode cJ2_indexOfChar_4cfef 13 = .ok (.ireturn, 1) := by decide +kernel
theorem dJ2_indexOfCharUnsafe_4cfef_0 : decode cJ2_indexOfCharUnsafe_4cfef 0 = .ok (.iload_n 2, 1) := by decide +kernel
theorem dJ2_indexOfCharUnsafe_4cfef_1 : decode cJ2_indexOfCharUnsafe_4cfef 1 = .ok (.istore 4, 2) := by decide +kernel
theorem dJ2_indexOfCharUnsafe_4cfef_3 : decode cJ2_indexOfCharUnsafe_4cfef 3 = .ok (.iload 4, 2) := by decide +kernel
theorem dJ2_indexOfCharUnsafe_4cfef_5 : decode cJ2_indexOfCharUnsafe_4cfef 5 = .ok (.iload_n 3, 1) := by decide +kernel
theorem dJ2_indexOfCharUnsafe_4cfef_6 : decode cJ2_indexOfCharUnsafe_4cfef 6 = .ok (.if_icmp .ge 22, 3) := by decide +kernel
theorem dJ2_indexOfCharUnsafe_4cfef_9 : decode cJ2_indexOfCharUnsafe_4cfef 9 = .ok (.aload_n 0, 1) := by decide +kernel
theorem dJ2_indexOfCharUnsafe_4cfef_10 : decode cJ2_indexOfCharUnsafe_4cfef 10 = .ok (.iload 4, 2) := by decide +kernel
theorem dJ2_indexOfCharUnsafe_4cfef_12 : decode cJ2_indexOfCharUnsafe_4cfef 12 = .ok (.invokestatic 71, 3) := by decide +kernel
theorem dJ2_indexOfCharUnsafe_4cfef_15 : decode cJ2_indexOfCharUnsafe_4cfef 15 = .ok (.iload_n 1, 1) := by decide +kernel
theorem dJ2_indexOfCharUnsafe_4cfef_16 : decode cJ2_indexOfCharUnsafe_4cfef 16 = .ok (.if_icmp .ne 6, 3) := by decide +kernel
theorem dJ2_indexOfCharUnsafe_4cfef_19 : decode cJ2_indexOfCharUnsafe_4cfef 19 = .ok (.iload 4, 2) := by decide +kernel
theorem dJ2_indexOfCharUnsafe_4cfef_21 : decode cJ2_indexOfCharUnsafe_4cfef 21 = .ok (.ireturn, 1) := by decide +kernel
theorem dJ2_indexOfCharUnsafe_4cfef_22 : decode cJ2_indexOfCharUnsafe_4cfef 22 = .ok (.iinc 4 1, 3) := by decide +kernel
theorem dJ2_indexOfCharUnsafe_4cfef_25 : decode cJ2_indexOfCharUnsafe_4cfef 25 = .ok (.goto (-22), 3) := by decide +kernel
theorem dJ2_indexOfCharUnsafe_4cfef_28 : decode cJ2_indexOfCharUnsafe_4cfef 28 = .ok (.iconst (-1), 1) := by decide +kernel
theorem dJ2_indexOfCharUnsafe_4cfef_29 : decode cJ2_indexOfCharUnsafe_4cfef 29 = .ok (.ireturn, 1) := by decide +kernel
theorem dJ2_indexOfSupplementary_4cfef_0 : decode cJ2_indexOfSupplementary_4cfef 0 = .ok (.iload_n 1, 1) := by decide +kernel
theorem dJ2_indexOfSupplementary_4cfef_1 : decode cJ2_indexOfSupplementary_4cfef 1 = .ok (.invokestatic 164, 3) := by decide +kernel
theorem dJ2_indexOfSupplementary_4cfef_4 : decode cJ2_indexOfSupplementary_4cfef 4 = .ok (.ifCond .eq 65, 3) := by decide +kernel
theorem dJ2_indexOfSupplementary_4cfef_7 : decode cJ2_indexOfSupplementary_4cfef 7 = .ok (.iload_n 1, 1) := by decide +kernel
theorem dJ2_indexOfSupplementary_4cfef_8 : decode cJ2_indexOfSupplementary_4cfef 8 = .ok (.invokestatic 157, 3) := by decide +kernel
theorem dJ2_indexOfSupplementary_4cfef_11 : decode cJ2_indexOfSupplementary_4cfef 11 = .ok (.istore 4, 2) := by decide +kernel
theorem dJ2_indexOfSupplementary_4cfef_13 : decode cJ2_indexOfSupplementary_4cfef 13 = .ok (.iload_n 1, 1) := by decide +kernel
theorem dJ2_indexOfSupplementary_4cfef_14 : decode cJ2_indexOfSupplementary_4cfef 14 = .ok (.invokestatic 161, 3) := by decide +kernel
theorem dJ2_indexOfSupplementary_4cfef_17 : decode cJ2_indexOfSupplementary_4cfef 17 = .ok (.istore 5, 2) := by decide +kernel
theorem dJ2_indexOfSupplementary_4cfef_19 : decode cJ2_indexOfSupplementary_4cfef 19 = .ok (.iload_n 2, 1) := by decide +kernel
theorem dJ2_indexOfSupplementary_4cfef_20 : decode cJ2_indexOfSupplementary_4cfef 20 = .ok (.iload_n 3, 1) := by decide +kernel
theorem dJ2_indexOfSupplementary_4cfef_21 : decode cJ2_indexOfSupplementary_4cfef 21 = .ok (.aload_n 0, 1) := by decide +kernel
theorem dJ2_indexOfSupplementary_4cfef_22 : decode cJ2_indexOfSupplementary_4cfef 22 = .ok (.invokestatic 96, 3) := by decide +kernel
theorem dJ2_indexOfSupplementary_4cfef_25 : decode cJ2_indexOfSupplementary_4cfef 25 = .ok (.iload_n 2, 1) := by decide +kernel
theorem dJ2_indexOfSupplementary_4cfef_26 : decode cJ2_indexOfSupplementary_4cfef 26 = .ok (.istore 6, 2) := by decide +kernel
theorem dJ2_indexOfSupplementary_4cfef_28 : decode cJ2_indexOfSupplementary_4cfef 28 = .ok (.iload 6, 2) := by decide +kernel
theorem dJ2_indexOfSupplementary_4cfef_30 : decode cJ2_indexOfSupplementary_4cfef 30 = .ok (.iload_n 3, 1) := by decide +kernel
theorem dJ2_indexOfSupplementary_4cfef_31 : decode cJ2_indexOfSupplementary_4cfef 31 = .ok (.iconst 1, 1) := by decide +kernel
theorem dJ2_indexOfSupplementary_4cfef_32 : decode cJ2_indexOfSupplementary_4cfef 32 = .ok (.isub, 1) := by decide +kernel
theorem dJ2_indexOfSupplementary_4cfef_33 : decode cJ2_indexOfSupplementary_4cfef 33 = .ok (.if_icmp .ge 36, 3) := by decide +kernel
theorem dJ2_indexOfSupplementary_4cfef_36 : decode cJ2_indexOfSupplementary_4cfef 36 = .ok (.aload_n 0, 1) := by decide +kernel
theorem dJ2_indexOfSupplementary_4cfef_37 : decode cJ2_indexOfSupplementary_4cfef 37 = .ok (.iload 6, 2) := by decide +kernel
theorem dJ2_indexOfSupplementary_4cfef_39 : decode cJ2_indexOfSupplementary_4cfef 39 = .ok (.invokestatic 71, 3) := by decide +kernel
theorem dJ2_indexOfSupplementary_4cfef_42 : decode cJ2_indexOfSupplementary_4cfef 42 = .ok (.iload 4, 2) := by decide +kernel
theorem dJ2_indexOfSupplementary_4cfef_44 : decode cJ2_indexOfSupplementary_4cfef 44 = .ok (.if_icmp .ne 19, 3) := by decide +kernel
theorem dJ2_indexOfSupplementary_4cfef_47 : decode cJ2_indexOfSupplementary_4cfef 47 = .ok (.aload_n 0, 1) := by decide +kernel
theorem dJ2_indexOfSupplementary_4cfef_48 : decode cJ2_indexOfSupplementary_4cfef 48 = .ok (.iload 6, 2) := by decide +kernel
theorem dJ2_indexOfSupplementary_4cfef_50 : decode cJ2_indexOfSupplementary_4cfef 50 = .ok (.iconst 1, 1) := by decide +kernel
theorem dJ2_indexOfSupplementary_4cfef_51 : decode cJ2_indexOfSupplementary_4cfef 51 = .ok (.iadd, 1) := by decide +kernel
theorem dJ2_indexOfSupplementary_4cfef_52 : decode cJ2_indexOfSupplementary_4cfef 52 = .ok (.invokestatic 71, 3) := by decide +kernel
theorem dJ2_indexOfSupplementary_4cfef_55 : decode cJ2_indexOfSupplementary_4cfef 55 = .ok (.iload 5, 2) := by decide +kernel
theorem dJ2_indexOfSupplementary_4cfef_57 : decode cJ2_indexOfSupplementary_4cfef 57 = .ok (.if_icmp .ne 6, 3) := by decide +kernel
theorem dJ2_indexOfSupplementary_4cfef_60 : decode cJ2_indexOfSupplementary_4cfef 60 = .ok (.iload 6, 2) := by decide +kernel
theorem dJ2_indexOfSupplementary_4cfef_62 : decode cJ2_indexOfSupplementary_4cfef 62 = .ok (.ireturn, 1) := by decide +kernel
theorem dJ2_indexOfSupplementary_4cfef_63 : decode cJ2_indexOfSupplementary_4cfef 63 = .ok (.iinc 6 1, 3) := by decide +kernel
theorem dJ2_indexOfSupplementary_4cfef_66 : decode cJ2_indexOfSupplementary_4cfef 66 = .ok (.goto (-38), 3) := by decide +kernel
theorem dJ2_indexOfSupplementary_4cfef_69 : decode cJ2_indexOfSupplementary_4cfef 69 = .ok (.iconst (-1), 1) := by decide +kernel
theorem dJ2_indexOfSupplementary_4cfef_70 : decode cJ2_indexOfSupplementary_4cfef 70 = .ok (.ireturn, 1) := by decide +kernel
theorem dJ2_charAt_3b067_0 : decode cJ2_charAt_3b067 0 = .ok (.iload_n 1, 1) := by decide +kernel
theorem dJ2_charAt_3b067_1 : decode cJ2_charAt_3b067 1 = .ok (.aload_n 0, 1) := by decide +kernel
theorem dJ2_charAt_3b067_2 : decode cJ2_charAt_3b067 2 = .ok (.invokestatic 67, 3) := by decide +kernel
theorem dJ2_charAt_3b067_5 : decode cJ2_charAt_3b067 5 = .ok (.aload_n 0, 1) := by decide +kernel
theorem dJ2_charAt_3b067_6 : decode cJ2_charAt_3b067 6 = .ok (.iload_n 1, 1) := by decide +kernel
theorem dJ2_charAt_3b067_7 : decode cJ2_charAt_3b067 7 = .ok (.invokestatic 71, 3) := by decide +kernel
theorem dJ2_charAt_3b067_10 : decode cJ2_charAt_3b067 10 = .ok (.ireturn, 1) := by decide +kernel
theorem dJ2_checkIndex_2214a_0 : decode cJ2_checkIndex_2214a 0 = .ok (.iload_n 0, 1) := by decide +kernel
theorem dJ2_checkIndex_2214a_1 : decode cJ2_checkIndex_2214a 1 = .ok (.aload_n 1, 1) := by decide +kernel
theorem dJ2_checkIndex_2214a_2 : decode cJ2_checkIndex_2214a 2 = .ok (.invokestatic 48, 3) := by decide +kernel
theorem dJ2_checkIndex_2214a_5 : decode cJ2_checkIndex_2214a 5 = .ok (.invokestatic 414, 3) := by decide +kernel
theorem dJ2_checkIndex_2214a_8 : decode cJ2_checkIndex_2214a 8 = .ok (.return_, 1) := by decide +kernel
theorem dJ2_checkBoundsBeginEnd_d044e_0 : decode cJ2_checkBoundsBeginEnd_d044e 0 = .ok (.iload_n 0, 1) := by decide +kernel
theorem dJ2_checkBoundsBeginEnd_d044e_1 : decode cJ2_checkBoundsBeginEnd_d044e 1 = .ok (.iload_n 1, 1) := by decide +kernel
theorem dJ2_checkBoundsBeginEnd_d044e_2 : decode cJ2_checkBoundsBeginEnd_d044e 2 = .ok (.aload_n 2, 1) := by decide +kernel
theorem dJ2_checkBoundsBeginEnd_d044e_3 : decode cJ2_checkBoundsBeginEnd_d044e 3 = .ok (.invokestatic 48, 3) := by decide +kernel
theorem dJ2_checkBoundsBeginEnd_d044e_6 : decode cJ2_checkBoundsBeginEnd_d044e 6 = .ok (.invokestatic 241, 3) := by decide +kernel
theorem dJ2_checkBoundsBeginEnd_d044e_9 : decode cJ2_checkBoundsBeginEnd_d044e 9 = .ok (.return_, 1) := by decide +kernel
theorem dJ3_checkIndex_8e157_0 : decode cJ3_checkIndex_8e157 0 = .ok (.iload_n 0, 1) := by decide +kernel
theorem dJ3_checkIndex_8e157_1 : decode cJ3_checkIndex_8e157 1 = .ok (.ifCond .lt 8, 3) := by decide +kernel
theorem dJ3_checkIndex_8e157_4 : decode cJ3_checkIndex_8e157 4 = .ok (.iload_n 0, 1) := by decide +kernel
theorem dJ3_checkIndex_8e157_5 : decode cJ3_checkIndex_8e157 5 = .ok (.iload_n 1, 1) := by decide +kernel
theorem dJ3_checkIndex_8e157_6 : decode cJ3_checkIndex_8e157 6 = .ok (.if_icmp .lt 10, 3) := by decide +kernel
theorem dJ3_checkIndex_8e157_9 : decode cJ3_checkIndex_8e157 9 = .ok (.aload_n 2, 1) := by decide +kernel
theorem dJ3_checkIndex_8e157_10 : decode cJ3_checkIndex_8e157 10 = .ok (.iload_n 0, 1) := by decide +kernel
theorem dJ3_checkIndex_8e157_11 : decode cJ3_checkIndex_8e157 11 = .ok (.iload_n 1, 1) := by decide +kernel
theorem dJ3_checkIndex_8e157_12 : decode cJ3_checkIndex_8e157 12 = .ok (.invokestatic 95, 3) := by decide +kernel
theorem dJ3_checkIndex_8e157_15 : decode cJ3_checkIndex_8e157 15 = .ok (.athrow, 1) := by decide +kernel
theorem dJ3_checkIndex_8e157_16 : decode cJ3_checkIndex_8e157 16 = .ok (.iload_n 0, 1) := by decide +kernel
theorem dJ3_checkIndex_8e157_17 : decode cJ3_checkIndex_8e157 17 = .ok (.ireturn, 1) := by decide +kernel
theorem dJ3_checkFromToIndex_8c36e_0 : decode cJ3_checkFromToIndex_8c36e 0 = .ok (.iload_n 0, 1) := by decide +kernel
theorem dJ3_checkFromToIndex_8c36e_1 : decode cJ3_checkFromToIndex_8c36e 1 = .ok (.ifCond .lt 13, 3) := by decide +kernel
theorem dJ3_checkFromToIndex_8c36e_4 : decode cJ3_checkFromToIndex_8c36e 4 = .ok (.iload_n 0, 1) := by decide +kernel
theorem dJ3_checkFromToIndex_8c36e_5 : decode cJ3_checkFromToIndex_8c36e 5 = .ok (.iload_n 1, 1) := by decide +kernel
theorem dJ3_checkFromToIndex_8c36e_6 : decode cJ3_checkFromToIndex_8c36e 6 = .ok (.if_icmp .gt 8, 3) := by decide +kernel
theorem dJ3_checkFromToIndex_8c36e_9 : decode cJ3_checkFromToIndex_8c36e 9 = .ok (.iload_n 1, 1) := by decide +kernel
theorem dJ3_checkFromToIndex_8c36e_10 : decode cJ3_checkFromToIndex_8c36e 10 = .ok (.iload_n 2, 1) := by decide +kernel
theorem dJ3_checkFromToIndex_8c36e_11 : decode cJ3_checkFromToIndex_8c36e 11 = .ok (.if_icmp .le 11, 3) := by decide +kernel
theorem dJ3_checkFromToIndex_8c36e_14 : decode cJ3_checkFromToIndex_8c36e 14 = .ok (.aload_n 3, 1) := by decide +kernel
theorem dJ3_checkFromToIndex_8c36e_15 : decode cJ3_checkFromToIndex_8c36e 15 = .ok (.iload_n 0, 1) := by decide +kernel
theorem dJ3_checkFromToIndex_8c36e_16 : decode cJ3_checkFromToIndex_8c36e 16 = .ok (.iload_n 1, 1) := by decide +kernel
theorem dJ3_checkFromToIndex_8c36e_17 : decode cJ3_checkFromToIndex_8c36e 17 = .ok (.iload_n 2, 1) := by decide +kernel
theorem dJ3_checkFromToIndex_8c36e_18 : decode cJ3_checkFromToIndex_8c36e 18 = .ok (.invokestatic 99, 3) := by decide +kernel
theorem dJ3_checkFromToIndex_8c36e_21 : decode cJ3_checkFromToIndex_8c36e 21 = .ok (.athrow, 1) := by decide +kernel
theorem dJ3_checkFromToIndex_8c36e_22 : decode cJ3_checkFromToIndex_8c36e 22 = .ok (.iload_n 0, 1) := by decide +kernel
theorem dJ3_checkFromToIndex_8c36e_23 : decode cJ3_checkFromToIndex_8c36e 23 = .ok (.ireturn, 1) := by decide +kernel
theorem dX0_init_0 : decode cX0_init 0 = .ok (.aload_n 0, 1) := by decide +kernel
theorem dX0_init_1 : decode cX0_init 1 = .ok (.invokespecial 3, 3) := by decide +kernel
theorem dX0_init_4 : decode cX0_init 4 = .ok (.aload_n 0, 1) := by decide +kernel
theorem dX0_init_5 : decode cX0_init 5 = .ok (.bipush 6, 2) := by decide +kernel
theorem dX0_init_7 : decode cX0_init 7 = .ok (.newarray .int, 2) := by decide +kernel
theorem dX0_init_9 : decode cX0_init 9 = .ok (.putfield 9, 3) := by decide +kernel
theorem dX0_init_12 : decode cX0_init 12 = .ok (.aload_n 0, 1) := by decide +kernel
theorem dX0_init_13 : decode cX0_init 13 = .ok (.bipush 6, 2) := by decide +kernel
theorem dX0_init_15 : decode cX0_init 15 = .ok (.newarray .int, 2) := by decide +kernel
theorem dX0_init_17 : decode cX0_init 17 = .ok (.putfield 15, 3) := by decide +kernel
theorem dX0_init_20 : decode cX0_init 20 = .ok (.aload_n 0, 1) := by decide +kernel
theorem dX0_init_21 : decode cX0_init 21 = .ok (.sipush 216, 3) := by decide +kernel
theorem dX0_init_24 : decode cX0_init 24 = .ok (.newarray .int, 2) := by decide +kernel
theorem dX0_init_26 : decode cX0_init 26 = .ok (.putfield 18, 3) := by decide +kernel
theorem dX0_init_29 : decode cX0_init 29 = .ok (.aload_n 0, 1) := by decide +kernel
theorem dX0_init_30 : decode cX0_init 30 = .ok (.bipush 6, 2) := by decide +kernel
theorem dX0_init_32 : decode cX0_init 32 = .ok (.newarray .int, 2) := by decide +kernel
theorem dX0_init_34 : decode cX0_init 34 = .ok (.putfield 21, 3) := by decide +kernel
theorem dX0_init_37 : decode cX0_init 37 = .ok (.aload_n 0, 1) := by decide +kernel
theorem dX0_init_38 : decode cX0_init 38 = .ok (.iconst 0, 1) := by decide +kernel
theorem dX0_init_39 : decode cX0_init 39 = .ok (.putfield 24, 3) := by decide +kernel
theorem dX0_init_42 : decode cX0_init 42 = .ok (.aload_n 0, 1) := by decide +kernel
theorem dX0_init_43 : decode cX0_init 43 = .ok (.iconst 0, 1) := by decide +kernel
theorem dX0_init_44 : decode cX0_init 44 = .ok (.putfield 28, 3) := by decide +kernel
theorem dX0_init_47 : decode cX0_init 47 = .ok (.return_, 1) := by decide +kernel
theorem dX0_begin_0 : decode cX0_begin 0 = .ok (.aload_n 0, 1) := by decide +kernel
theorem dX0_begin_1 : decode cX0_begin 1 = .ok (.iconst 0, 1) := by decide +kernel
theorem dX0_begin_2 : decode cX0_begin 2 = .ok (.bipush 6, 2) := by decide +kernel
theorem dX0_begin_4 : decode cX0_begin 4 = .ok (.iload_n 1, 1) := by decide +kernel
theorem dX0_begin_5 : decode cX0_begin 5 = .ok (.invokestatic 31, 3) := by decide +kernel
theorem dX0_begin_8 : decode cX0_begin 8 = .ok (.invokestatic 37, 3) := by decide +kernel
theorem dX0_begin_11 : decode cX0_begin 11 = .ok (.putfield 24, 3) := by decide +kernel
theorem dX0_begin_14 : decode cX0_begin 14 = .ok (.iconst 0, 1) := by decide +kernel
theorem dX0_begin_15 : decode cX0_begin 15 = .ok (.istore_n 2, 1) := by decide +kernel
theorem dX0_begin_16 : decode cX0_begin 16 = .ok (.iload_n 2, 1) := by decide +kernel
theorem dX0_begin_17 : decode cX0_begin 17 = .ok (.bipush 6, 2) := by decide +kernel
theorem dX0_begin_19 : decode cX0_begin 19 = .ok (.if_icmp .ge 16, 3) := by decide +kernel
theorem dX0_begin_22 : decode cX0_begin 22 = .ok (.aload_n 0, 1) := by decide +kernel
theorem dX0_begin_23 : decode cX0_begin 23 = .ok (.getfield 9, 3) := by decide +kernel
theorem dX0_begin_26 : decode cX0_begin 26 = .ok (.iload_n 2, 1) := by decide +kernel
theorem dX0_begin_27 : decode cX0_begin 27 = .ok (.iconst 0, 1) := by decide +kernel
theorem dX0_begin_28 : decode cX0_begin 28 = .ok (.iastore, 1) := by decide +kernel
theorem dX0_begin_29 : decode cX0_begin 29 = .ok (.iinc 2 1, 3) := by decide +kernel
theorem dX0_begin_32 : decode cX0_begin 32 = .ok (.goto (-16), 3) := by decide +kernel
theorem dX0_begin_35 : decode cX0_begin 35 = .ok (.return_, 1) := by decide +kernel
theorem dX0_price_0 : decode cX0_price 0 = .ok (.aload_n 0, 1) := by decide +kernel
theorem dX0_price_1 : decode cX0_price 1 = .ok (.getfield 18, 3) := by decide +kernel
theorem dX0_price_4 : decode cX0_price 4 = .ok (.iload_n 1, 1) := by decide +kernel
theorem dX0_price_5 : decode cX0_price 5 = .ok (.iload_n 2, 1) := by decide +kernel
theorem dX0_price_6 : decode cX0_price 6 = .ok (.iload_n 3, 1) := by decide +kernel
theorem dX0_price_7 : decode cX0_price 7 = .ok (.invokestatic 40, 3) := by decide +kernel
theorem dX0_price_10 : decode cX0_price 10 = .ok (.iload 4, 2) := by decide +kernel
theorem dX0_price_12 : decode cX0_price 12 = .ok (.iastore, 1) := by decide +kernel
theorem dX0_price_13 : decode cX0_price 13 = .ok (.return_, 1) := by decide +kernel
theorem dX0_priceEverywhere_0 : decode cX0_priceEverywhere 0 = .ok (.iconst 0, 1) := by decide +kernel
theorem dX0_priceEverywhere_1 : decode cX0_priceEverywhere 1 = .ok (.istore 4, 2) := by decide +kernel
theorem dX0_priceEverywhere_3 : decode cX0_priceEverywhere 3 = .ok (.iload 4, 2) := by decide +kernel
theorem dX0_priceEverywhere_5 : decode cX0_priceEverywhere 5 = .ok (.aload_n 0, 1) := by decide +kernel
theorem dX0_priceEverywhere_6 : decode cX0_priceEverywhere 6 = .ok (.getfield 24, 3) := by decide +kernel
theorem dX0_priceEverywhere_9 : decode cX0_priceEverywhere 9 = .ok (.if_icmp .ge 18, 3) := by decide +kernel
theorem dX0_priceEverywhere_12 : decode cX0_priceEverywhere 12 = .ok (.aload_n 0, 1) := by decide +kernel
theorem dX0_priceEverywhere_13 : decode cX0_priceEverywhere 13 = .ok (.iload 4, 2) := by decide +kernel
theorem dX0_priceEverywhere_15 : decode cX0_priceEverywhere 15 = .ok (.iload_n 1, 1) := by decide +kernel
theorem dX0_priceEverywhere_16 : decode cX0_priceEverywhere 16 = .ok (.iload_n 2, 1) := by decide +kernel
theorem dX0_priceEverywhere_17 : decode cX0_priceEverywhere 17 = .ok (.iload_n 3, 1) := by decide +kernel
theorem dX0_priceEverywhere_18 : decode cX0_priceEverywhere 18 = .ok (.invokevirtual 44, 3) := by decide +kernel
theorem dX0_priceEverywhere_21 : decode cX0_priceEverywhere 21 = .ok (.iinc 4 1, 3) := by decide +kernel
theorem dX0_priceEverywhere_24 : decode cX0_priceEverywhere 24 = .ok (.goto (-21), 3) := by decide +kernel
theorem dX0_priceEverywhere_27 : decode cX0_priceEverywhere 27 = .ok (.return_, 1) := by decide +kernel
theorem dX0_slot_0 : decode cX0_slot 0 = .ok (.iload_n 0, 1) := by decide +kernel
theorem dX0_slot_1 : decode cX0_slot 1 = .ok (.bipush 6, 2) := by decide +kernel
theorem dX0_slot_3 : decode cX0_slot 3 = .ok (.imul, 1) := by decide +kernel
theorem dX0_slot_4 : decode cX0_slot 4 = .ok (.iload_n 1, 1) := by decide +kernel
theorem dX0_slot_5 : decode cX0_slot 5 = .ok (.iadd, 1) := by decide +kernel
theorem dX0_slot_6 : decode cX0_slot 6 = .ok (.bipush 6, 2) := by decide +kernel
theorem dX0_slot_8 : decode cX0_slot 8 = .ok (.imul, 1) := by decide +kernel
theorem dX0_slot_9 : decode cX0_slot 9 = .ok (.iload_n 2, 1) := by decide +kernel
theorem dX0_slot_10 : decode cX0_slot 10 = .ok (.iadd, 1) := by decide +kernel
theorem dX0_slot_11 : decode cX0_slot 11 = .ok (.ireturn, 1) := by decide +kernel
theorem dX0_search_0 : decode cX0_search 0 = .ok (.aload_n 0, 1) := by decide +kernel
theorem dX0_search_1 : decode cX0_search 1 = .ok (.getfield 24, 3) := by decide +kernel
theorem dX0_search_4 : decode cX0_search 4 = .ok (.ifCond .ne 5, 3) := by decide +kernel
theorem dX0_search_7 : decode cX0_search 7 = .ok (.iconst 0, 1) := by decide +kernel
theorem dX0_search_8 : decode cX0_search 8 = .ok (.ireturn, 1) := by decide +kernel
theorem dX0_search_9 : decode cX0_search 9 = .ok (.aload_n 0, 1) := by decide +kernel
theorem dX0_search_10 : decode cX0_search 10 = .ok (.ldc 50, 2) := by decide +kernel
theorem dX0_search_12 : decode cX0_search 12 = .ok (.putfield 28, 3) := by decide +kernel
theorem dX0_search_15 : decode cX0_search 15 = .ok (.aload_n 0, 1) := by decide +kernel
theorem dX0_search_16 : decode cX0_search 16 = .ok (.iconst 0, 1) := by decide +kernel
theorem dX0_search_17 : decode cX0_search 17 = .ok (.iconst 0, 1) := by decide +kernel
theorem dX0_search_18 : decode cX0_search 18 = .ok (.iconst 0, 1) := by decide +kernel
theorem dX0_search_19 : decode cX0_search 19 = .ok (.invokevirtual 51, 3) := by decide +kernel
theorem dX0_search_22 : decode cX0_search 22 = .ok (.aload_n 0, 1) := by decide +kernel
theorem dX0_search_23 : decode cX0_search 23 = .ok (.getfield 28, 3) := by decide +kernel
theorem dX0_search_26 : decode cX0_search 26 = .ok (.ireturn, 1) := by decide +kernel
theorem dX0_extend_0 : decode cX0_extend 0 = .ok (.iload_n 3, 1) := by decide +kernel
theorem dX0_extend_1 : decode cX0_extend 1 = .ok (.aload_n 0, 1) := by decide +kernel
theorem dX0_extend_2 : decode cX0_extend 2 = .ok (.getfield 28, 3) := by decide +kernel
theorem dX0_extend_5 : decode cX0_extend 5 = .ok (.if_icmp .lt 4, 3) := by decide +kernel
theorem dX0_extend_8 : decode cX0_extend 8 = .ok (.return_, 1) := by decide +kernel
theorem dX0_extend_9 : decode cX0_extend 9 = .ok (.iload_n 1, 1) := by decide +kernel
theorem dX0_extend_10 : decode cX0_extend 10 = .ok (.aload_n 0, 1) := by decide +kernel
theorem dX0_extend_11 : decode cX0_extend 11 = .ok (.getfield 24, 3) := by decide +kernel
theorem dX0_extend_14 : decode cX0_extend 14 = .ok (.if_icmp .lt 41, 3) := by decide +kernel
theorem dX0_extend_17 : decode cX0_extend 17 = .ok (.aload_n 0, 1) := by decide +kernel
theorem dX0_extend_18 : decode cX0_extend 18 = .ok (.iload_n 3, 1) := by decide +kernel
theorem dX0_extend_19 : decode cX0_extend 19 = .ok (.putfield 28, 3) := by decide +kernel
theorem dX0_extend_22 : decode cX0_extend 22 = .ok (.iconst 0, 1) := by decide +kernel
theorem dX0_extend_23 : decode cX0_extend 23 = .ok (.istore 4, 2) := by decide +kernel
theorem dX0_extend_25 : decode cX0_extend 25 = .ok (.iload 4, 2) := by decide +kernel
theorem dX0_extend_27 : decode cX0_extend 27 = .ok (.aload_n 0, 1) := by decide +kernel
theorem dX0_extend_28 : decode cX0_extend 28 = .ok (.getfield 24, 3) := by decide +kernel
theorem dX0_extend_31 : decode cX0_extend 31 = .ok (.if_icmp .ge 23, 3) := by decide +kernel
theorem dX0_extend_34 : decode cX0_extend 34 = .ok (.aload_n 0, 1) := by decide +kernel
theorem dX0_extend_35 : decode cX0_extend 35 = .ok (.getfield 15, 3) := by decide +kernel
theorem dX0_extend_38 : decode cX0_extend 38 = .ok (.iload 4, 2) := by decide +kernel
theorem dX0_extend_40 : decode cX0_extend 40 = .ok (.aload_n 0, 1) := by decide +kernel
theorem dX0_extend_41 : decode cX0_extend 41 = .ok (.getfield 21, 3) := by decide +kernel
theorem dX0_extend_44 : decode cX0_extend 44 = .ok (.iload 4, 2) := by decide +kernel
theorem dX0_extend_46 : decode cX0_extend 46 = .ok (.iaload, 1) := by decide +kernel
theorem dX0_extend_47 : decode cX0_extend 47 = .ok (.iastore, 1) := by decide +kernel
theorem dX0_extend_48 : decode cX0_extend 48 = .ok (.iinc 4 1, 3) := by decide +kernel
theorem dX0_extend_51 : decode cX0_extend 51 = .ok (.goto (-26), 3) := by decide +kernel
theorem dX0_extend_54 : decode cX0_extend 54 = .ok (.return_, 1) := by decide +kernel
theorem dX0_extend_55 : decode cX0_extend 55 = .ok (.iconst 0, 1) := by decide +kernel
theorem dX0_extend_56 : decode cX0_extend 56 = .ok (.istore 4, 2) := by decide +kernel
theorem dX0_extend_58 : decode cX0_extend 58 = .ok (.iload 4, 2) := by decide +kernel
theorem dX0_extend_60 : decode cX0_extend 60 = .ok (.aload_n 0, 1) := by decide +kernel
theorem dX0_extend_61 : decode cX0_extend 61 = .ok (.getfield 24, 3) := by decide +kernel
theorem dX0_extend_64 : decode cX0_extend 64 = .ok (.if_icmp .ge 50, 3) := by decide +kernel
theorem dX0_extend_67 : decode cX0_extend 67 = .ok (.iload_n 2, 1) := by decide +kernel
theorem dX0_extend_68 : decode cX0_extend 68 = .ok (.iload 4, 2) := by decide +kernel
theorem dX0_extend_70 : decode cX0_extend 70 = .ok (.invokestatic 55, 3) := by decide +kernel
theorem dX0_extend_73 : decode cX0_extend 73 = .ok (.iand, 1) := by decide +kernel
theorem dX0_extend_74 : decode cX0_extend 74 = .ok (.ifCond .ne 34, 3) := by decide +kernel
theorem dX0_extend_77 : decode cX0_extend 77 = .ok (.aload_n 0, 1) := by decide +kernel
theorem dX0_extend_78 : decode cX0_extend 78 = .ok (.getfield 21, 3) := by decide +kernel
theorem dX0_extend_81 : decode cX0_extend 81 = .ok (.iload_n 1, 1) := by decide +kernel
theorem dX0_extend_82 : decode cX0_extend 82 = .ok (.iload 4, 2) := by decide +kernel
theorem dX0_extend_84 : decode cX0_extend 84 = .ok (.iastore, 1) := by decide +kernel
theorem dX0_extend_85 : decode cX0_extend 85 = .ok (.aload_n 0, 1) := by decide +kernel
theorem dX0_extend_86 : decode cX0_extend 86 = .ok (.iload_n 1, 1) := by decide +kernel
theorem dX0_extend_87 : decode cX0_extend 87 = .ok (.iconst 1, 1) := by decide +kernel
theorem dX0_extend_88 : decode cX0_extend 88 = .ok (.iadd, 1) := by decide +kernel
theorem dX0_extend_89 : decode cX0_extend 89 = .ok (.iload_n 2, 1) := by decide +kernel
theorem dX0_extend_90 : decode cX0_extend 90 = .ok (.iload 4, 2) := by decide +kernel
theorem dX0_extend_92 : decode cX0_extend 92 = .ok (.invokestatic 55, 3) := by decide +kernel
theorem dX0_extend_95 : decode cX0_extend 95 = .ok (.ior, 1) := by decide +kernel
theorem dX0_extend_96 : decode cX0_extend 96 = .ok (.iload_n 3, 1) := by decide +kernel
theorem dX0_extend_97 : decode cX0_extend 97 = .ok (.aload_n 0, 1) := by decide +kernel
theorem dX0_extend_98 : decode cX0_extend 98 = .ok (.iload_n 1, 1) := by decide +kernel
theorem dX0_extend_99 : decode cX0_extend 99 = .ok (.iload 4, 2) := by decide +kernel
theorem dX0_extend_101 : decode cX0_extend 101 = .ok (.invokevirtual 59, 3) := by decide +kernel
theorem dX0_extend_104 : decode cX0_extend 104 = .ok (.iadd, 1) := by decide +kernel
theorem dX0_extend_105 : decode cX0_extend 105 = .ok (.invokevirtual 51, 3) := by decide +kernel
theorem dX0_extend_108 : decode cX0_extend 108 = .ok (.iinc 4 1, 3) := by decide +kernel
theorem dX0_extend_111 : decode cX0_extend 111 = .ok (.goto (-53), 3) := by decide +kernel
theorem dX0_extend_114 : decode cX0_extend 114 = .ok (.return_, 1) := by decide +kernel
theorem dX0_priceAt_0 : decode cX0_priceAt 0 = .ok (.iload_n 1, 1) := by decide +kernel
theorem dX0_priceAt_1 : decode cX0_priceAt 1 = .ok (.ifCond .ne 12, 3) := by decide +kernel
theorem dX0_priceAt_4 : decode cX0_priceAt 4 = .ok (.aload_n 0, 1) := by decide +kernel
theorem dX0_priceAt_5 : decode cX0_priceAt 5 = .ok (.getfield 9, 3) := by decide +kernel
theorem dX0_priceAt_8 : decode cX0_priceAt 8 = .ok (.iload_n 2, 1) := by decide +kernel
theorem dX0_priceAt_9 : decode cX0_priceAt 9 = .ok (.iaload, 1) := by decide +kernel
theorem dX0_priceAt_10 : decode cX0_priceAt 10 = .ok (.goto 23, 3) := by decide +kernel
theorem dX0_priceAt_13 : decode cX0_priceAt 13 = .ok (.aload_n 0, 1) := by decide +kernel
theorem dX0_priceAt_14 : decode cX0_priceAt 14 = .ok (.getfield 18, 3) := by decide +kernel
theorem dX0_priceAt_17 : decode cX0_priceAt 17 = .ok (.iload_n 1, 1) := by decide +kernel
theorem dX0_priceAt_18 : decode cX0_priceAt 18 = .ok (.iconst 1, 1) := by decide +kernel
theorem dX0_priceAt_19 : decode cX0_priceAt 19 = .ok (.isub, 1) := by decide +kernel
theorem dX0_priceAt_20 : decode cX0_priceAt 20 = .ok (.aload_n 0, 1) := by decide +kernel
theorem dX0_priceAt_21 : decode cX0_priceAt 21 = .ok (.getfield 21, 3) := by decide +kernel
theorem dX0_priceAt_24 : decode cX0_priceAt 24 = .ok (.iload_n 1, 1) := by decide +kernel
theorem dX0_priceAt_25 : decode cX0_priceAt 25 = .ok (.iconst 1, 1) := by decide +kernel
theorem dX0_priceAt_26 : decode cX0_priceAt 26 = .ok (.isub, 1) := by decide +kernel
theorem dX0_priceAt_27 : decode cX0_priceAt 27 = .ok (.iaload, 1) := by decide +kernel
theorem dX0_priceAt_28 : decode cX0_priceAt 28 = .ok (.iload_n 2, 1) := by decide +kernel
theorem dX0_priceAt_29 : decode cX0_priceAt 29 = .ok (.invokestatic 40, 3) := by decide +kernel
theorem dX0_priceAt_32 : decode cX0_priceAt 32 = .ok (.iaload, 1) := by decide +kernel
theorem dX0_priceAt_33 : decode cX0_priceAt 33 = .ok (.istore_n 3, 1) := by decide +kernel
theorem dX0_priceAt_34 : decode cX0_priceAt 34 = .ok (.iload_n 1, 1) := by decide +kernel
theorem dX0_priceAt_35 : decode cX0_priceAt 35 = .ok (.aload_n 0, 1) := by decide +kernel
theorem dX0_priceAt_36 : decode cX0_priceAt 36 = .ok (.getfield 24, 3) := by decide +kernel
theorem dX0_priceAt_39 : decode cX0_priceAt 39 = .ok (.iconst 1, 1) := by decide +kernel
theorem dX0_priceAt_40 : decode cX0_priceAt 40 = .ok (.isub, 1) := by decide +kernel
theorem dX0_priceAt_41 : decode cX0_priceAt 41 = .ok (.if_icmp .ne 14, 3) := by decide +kernel
theorem dX0_priceAt_44 : decode cX0_priceAt 44 = .ok (.iload_n 3, 1) := by decide +kernel
theorem dX0_priceAt_45 : decode cX0_priceAt 45 = .ok (.aload_n 0, 1) := by decide +kernel
theorem dX0_priceAt_46 : decode cX0_priceAt 46 = .ok (.getfield 9, 3) := by decide +kernel
theorem dX0_priceAt_49 : decode cX0_priceAt 49 = .ok (.iload_n 2, 1) := by decide +kernel
theorem dX0_priceAt_50 : decode cX0_priceAt 50 = .ok (.iaload, 1) := by decide +kernel
theorem dX0_priceAt_51 : decode cX0_priceAt 51 = .ok (.iadd, 1) := by decide +kernel
theorem dX0_priceAt_52 : decode cX0_priceAt 52 = .ok (.goto 4, 3) := by decide +kernel
theorem dX0_priceAt_55 : decode cX0_priceAt 55 = .ok (.iload_n 3, 1) := by decide +kernel
theorem dX0_priceAt_56 : decode cX0_priceAt 56 = .ok (.ireturn, 1) := by decide +kernel
theorem dX1_init_0 : decode cX1_init 0 = .ok (.aload_n 0, 1) := by decide +kernel
theorem dX1_init_1 : decode cX1_init 1 = .ok (.invokespecial 3, 3) := by decide +kernel
theorem dX1_init_4 : decode cX1_init 4 = .ok (.aload_n 0, 1) := by decide +kernel
theorem dX1_init_5 : decode cX1_init 5 = .ok (.bipush 6, 2) := by decide +kernel
theorem dX1_init_7 : decode cX1_init 7 = .ok (.newarray .int, 2) := by decide +kernel
theorem dX1_init_9 : decode cX1_init 9 = .ok (.putfield 9, 3) := by decide +kernel
theorem dX1_init_12 : decode cX1_init 12 = .ok (.aload_n 0, 1) := by decide +kernel
theorem dX1_init_13 : decode cX1_init 13 = .ok (.bipush 6, 2) := by decide +kernel
theorem dX1_init_15 : decode cX1_init 15 = .ok (.newarray .int, 2) := by decide +kernel
theorem dX1_init_17 : decode cX1_init 17 = .ok (.putfield 15, 3) := by decide +kernel
theorem dX1_init_20 : decode cX1_init 20 = .ok (.aload_n 0, 1) := by decide +kernel
theorem dX1_init_21 : decode cX1_init 21 = .ok (.bipush 6, 2) := by decide +kernel
theorem dX1_init_23 : decode cX1_init 23 = .ok (.newarray .int, 2) := by decide +kernel
theorem dX1_init_25 : decode cX1_init 25 = .ok (.putfield 18, 3) := by decide +kernel
theorem dX1_init_28 : decode cX1_init 28 = .ok (.aload_n 0, 1) := by decide +kernel
theorem dX1_init_29 : decode cX1_init 29 = .ok (.bipush 6, 2) := by decide +kernel
theorem dX1_init_31 : decode cX1_init 31 = .ok (.newarray .int, 2) := by decide +kernel
theorem dX1_init_33 : decode cX1_init 33 = .ok (.putfield 21, 3) := by decide +kernel
theorem dX1_init_36 : decode cX1_init 36 = .ok (.aload_n 0, 1) := by decide +kernel
theorem dX1_init_37 : decode cX1_init 37 = .ok (.bipush 6, 2) := by decide +kernel
theorem dX1_init_39 : decode cX1_init 39 = .ok (.newarray .int, 2) := by decide +kernel
theorem dX1_init_41 : decode cX1_init 41 = .ok (.putfield 24, 3) := by decide +kernel
theorem dX1_init_44 : decode cX1_init 44 = .ok (.aload_n 0, 1) := by decide +kernel
theorem dX1_init_45 : decode cX1_init 45 = .ok (.new 27, 3) := by decide +kernel
theorem dX1_init_48 : decode cX1_init 48 = .ok (.dup, 1) := by decide +kernel
theorem dX1_init_49 : decode cX1_init 49 = .ok (.invokespecial 29, 3) := by decide +kernel
theorem dX1_init_52 : decode cX1_init 52 = .ok (.putfield 30, 3) := by decide +kernel
theorem dX1_init_55 : decode cX1_init 55 = .ok (.aload_n 0, 1) := by decide +kernel
theorem dX1_init_56 : decode cX1_init 56 = .ok (.iconst 0, 1) := by decide +kernel
theorem dX1_init_57 : decode cX1_init 57 = .ok (.putfield 34, 3) := by decide +kernel
theorem dX1_init_60 : decode cX1_init 60 = .ok (.aload_n 0, 1) := by decide +kernel
theorem dX1_init_61 : decode cX1_init 61 = .ok (.iconst 0, 1) := by decide +kernel
theorem dX1_init_62 : decode cX1_init 62 = .ok (.putfield 38, 3) := by decide +kernel
theorem dX1_init_65 : decode cX1_init 65 = .ok (.return_, 1) := by decide +kernel
theorem dX1_join_0 : decode cX1_join 0 = .ok (.aload_n 0, 1) := by decide +kernel
theorem dX1_join_1 : decode cX1_join 1 = .ok (.getfield 34, 3) := by decide +kernel
theorem dX1_join_4 : decode cX1_join 4 = .ok (.bipush 6, 2) := by decide +kernel
theorem dX1_join_6 : decode cX1_join 6 = .ok (.if_icmp .lt 6, 3) := by decide +kernel
theorem dX1_join_9 : decode cX1_join 9 = .ok (.bipush (-4), 2) := by decide +kernel
theorem dX1_join_11 : decode cX1_join 11 = .ok (.ireturn, 1) := by decide +kernel
theorem dX1_join_12 : decode cX1_join 12 = .ok (.aload_n 0, 1) := by decide +kernel
theorem dX1_join_13 : decode cX1_join 13 = .ok (.getfield 9, 3) := by decide +kernel
theorem dX1_join_16 : decode cX1_join 16 = .ok (.aload_n 0, 1) := by decide +kernel
theorem dX1_join_17 : decode cX1_join 17 = .ok (.getfield 34, 3) := by decide +kernel
theorem dX1_join_20 : decode cX1_join 20 = .ok (.iload_n 1, 1) := by decide +kernel
theorem dX1_join_21 : decode cX1_join 21 = .ok (.iastore, 1) := by decide +kernel
theorem dX1_join_22 : decode cX1_join 22 = .ok (.aload_n 0, 1) := by decide +kernel
theorem dX1_join_23 : decode cX1_join 23 = .ok (.getfield 15, 3) := by decide +kernel
theorem dX1_join_26 : decode cX1_join 26 = .ok (.aload_n 0, 1) := by decide +kernel
theorem dX1_join_27 : decode cX1_join 27 = .ok (.getfield 34, 3) := by decide +kernel
theorem dX1_join_30 : decode cX1_join 30 = .ok (.iload_n 2, 1) := by decide +kernel
theorem dX1_join_31 : decode cX1_join 31 = .ok (.iastore, 1) := by decide +kernel
theorem dX1_join_32 : decode cX1_join 32 = .ok (.aload_n 0, 1) := by decide +kernel
theorem dX1_join_33 : decode cX1_join 33 = .ok (.getfield 18, 3) := by decide +kernel
theorem dX1_join_36 : decode cX1_join 36 = .ok (.aload_n 0, 1) := by decide +kernel
theorem dX1_join_37 : decode cX1_join 37 = .ok (.getfield 34, 3) := by decide +kernel
theorem dX1_join_40 : decode cX1_join 40 = .ok (.iload_n 3, 1) := by decide +kernel
theorem dX1_join_41 : decode cX1_join 41 = .ok (.iastore, 1) := by decide +kernel
theorem dX1_join_42 : decode cX1_join 42 = .ok (.aload_n 0, 1) := by decide +kernel
theorem dX1_join_43 : decode cX1_join 43 = .ok (.getfield 21, 3) := by decide +kernel
theorem dX1_join_46 : decode cX1_join 46 = .ok (.aload_n 0, 1) := by decide +kernel
theorem dX1_join_47 : decode cX1_join 47 = .ok (.getfield 34, 3) := by decide +kernel
theorem dX1_join_50 : decode cX1_join 50 = .ok (.iload 4, 2) := by decide +kernel
theorem dX1_join_52 : decode cX1_join 52 = .ok (.iastore, 1) := by decide +kernel
theorem dX1_join_53 : decode cX1_join 53 = .ok (.aload_n 0, 1) := by decide +kernel
theorem dX1_join_54 : decode cX1_join 54 = .ok (.getfield 24, 3) := by decide +kernel
theorem dX1_join_57 : decode cX1_join 57 = .ok (.aload_n 0, 1) := by decide +kernel
theorem dX1_join_58 : decode cX1_join 58 = .ok (.getfield 34, 3) := by decide +kernel
theorem dX1_join_61 : decode cX1_join 61 = .ok (.aload_n 0, 1) := by decide +kernel
theorem dX1_join_62 : decode cX1_join 62 = .ok (.getfield 34, 3) := by decide +kernel
theorem dX1_join_65 : decode cX1_join 65 = .ok (.iastore, 1) := by decide +kernel
theorem dX1_join_66 : decode cX1_join 66 = .ok (.aload_n 0, 1) := by decide +kernel
theorem dX1_join_67 : decode cX1_join 67 = .ok (.dup, 1) := by decide +kernel
theorem dX1_join_68 : decode cX1_join 68 = .ok (.getfield 34, 3) := by decide +kernel
theorem dX1_join_71 : decode cX1_join 71 = .ok (.iconst 1, 1) := by decide +kernel
theorem dX1_join_72 : decode cX1_join 72 = .ok (.iadd, 1) := by decide +kernel
theorem dX1_join_73 : decode cX1_join 73 = .ok (.putfield 34, 3) := by decide +kernel
theorem dX1_join_76 : decode cX1_join 76 = .ok (.aload_n 0, 1) := by decide +kernel
theorem dX1_join_77 : decode cX1_join 77 = .ok (.getfield 34, 3) := by decide +kernel
theorem dX1_join_80 : decode cX1_join 80 = .ok (.iconst 1, 1) := by decide +kernel
theorem dX1_join_81 : decode cX1_join 81 = .ok (.isub, 1) := by decide +kernel
theorem dX1_join_82 : decode cX1_join 82 = .ok (.ireturn, 1) := by decide +kernel
theorem dX1_become_0 : decode cX1_become 0 = .ok (.iconst 0, 1) := by decide +kernel
theorem dX1_become_1 : decode cX1_become 1 = .ok (.istore_n 2, 1) := by decide +kernel
theorem dX1_become_2 : decode cX1_become 2 = .ok (.iload_n 2, 1) := by decide +kernel
theorem dX1_become_3 : decode cX1_become 3 = .ok (.bipush 6, 2) := by decide +kernel
theorem dX1_become_5 : decode cX1_become 5 = .ok (.if_icmp .ge 69, 3) := by decide +kernel
theorem dX1_become_8 : decode cX1_become 8 = .ok (.aload_n 0, 1) := by decide +kernel
theorem dX1_become_9 : decode cX1_become 9 = .ok (.getfield 9, 3) := by decide +kernel
theorem dX1_become_12 : decode cX1_become 12 = .ok (.iload_n 2, 1) := by decide +kernel
theorem dX1_become_13 : decode cX1_become 13 = .ok (.aload_n 1, 1) := by decide +kernel
theorem dX1_become_14 : decode cX1_become 14 = .ok (.getfield 9, 3) := by decide +kernel
theorem dX1_become_17 : decode cX1_become 17 = .ok (.iload_n 2, 1) := by decide +kernel
theorem dX1_become_18 : decode cX1_become 18 = .ok (.iaload, 1) := by decide +kernel
theorem dX1_become_19 : decode cX1_become 19 = .ok (.iastore, 1) := by decide +kernel
theorem dX1_become_20 : decode cX1_become 20 = .ok (.aload_n 0, 1) := by decide +kernel
theorem dX1_become_21 : decode cX1_become 21 = .ok (.getfield 15, 3) := by decide +kernel
theorem dX1_become_24 : decode cX1_become 24 = .ok (.iload_n 2, 1) := by decide +kernel
theorem dX1_become_25 : decode cX1_become 25 = .ok (.aload_n 1, 1) := by decide +kernel
theorem dX1_become_26 : decode cX1_become 26 = .ok (.getfield 15, 3) := by decide +kernel
theorem dX1_become_29 : decode cX1_become 29 = .ok (.iload_n 2, 1) := by decide +kernel
theorem dX1_become_30 : decode cX1_become 30 = .ok (.iaload, 1) := by decide +kernel
theorem dX1_become_31 : decode cX1_become 31 = .ok (.iastore, 1) := by decide +kernel
theorem dX1_become_32 : decode cX1_become 32 = .ok (.aload_n 0, 1) := by decide +kernel
theorem dX1_become_33 : decode cX1_become 33 = .ok (.getfield 18, 3) := by decide +kernel
theorem dX1_become_36 : decode cX1_become 36 = .ok (.iload_n 2, 1) := by decide +kernel
theorem dX1_become_37 : decode cX1_become 37 = .ok (.aload_n 1, 1) := by decide +kernel
theorem dX1_become_38 : decode cX1_become 38 = .ok (.getfield 18, 3) := by decide +kernel
theorem dX1_become_41 : decode cX1_become 41 = .ok (.iload_n 2, 1) := by decide +kernel
theorem dX1_become_42 : decode cX1_become 42 = .ok (.iaload, 1) := by decide +kernel
theorem dX1_become_43 : decode cX1_become 43 = .ok (.iastore, 1) := by decide +kernel
theorem dX1_become_44 : decode cX1_become 44 = .ok (.aload_n 0, 1) := by decide +kernel
theorem dX1_become_45 : decode cX1_become 45 = .ok (.getfield 21, 3) := by decide +kernel
theorem dX1_become_48 : decode cX1_become 48 = .ok (.iload_n 2, 1) := by decide +kernel
theorem dX1_become_49 : decode cX1_become 49 = .ok (.aload_n 1, 1) := by decide +kernel
theorem dX1_become_50 : decode cX1_become 50 = .ok (.getfield 21, 3) := by decide +kernel
theorem dX1_become_53 : decode cX1_become 53 = .ok (.iload_n 2, 1) := by decide +kernel
theorem dX1_become_54 : decode cX1_become 54 = .ok (.iaload, 1) := by decide +kernel
theorem dX1_become_55 : decode cX1_become 55 = .ok (.iastore, 1) := by decide +kernel
theorem dX1_become_56 : decode cX1_become 56 = .ok (.aload_n 0, 1) := by decide +kernel
theorem dX1_become_57 : decode cX1_become 57 = .ok (.getfield 24, 3) := by decide +kernel
theorem dX1_become_60 : decode cX1_become 60 = .ok (.iload_n 2, 1) := by decide +kernel
theorem dX1_become_61 : decode cX1_become 61 = .ok (.aload_n 1, 1) := by decide +kernel
theorem dX1_become_62 : decode cX1_become 62 = .ok (.getfield 24, 3) := by decide +kernel
theorem dX1_become_65 : decode cX1_become 65 = .ok (.iload_n 2, 1) := by decide +kernel
theorem dX1_become_66 : decode cX1_become 66 = .ok (.iaload, 1) := by decide +kernel
theorem dX1_become_67 : decode cX1_become 67 = .ok (.iastore, 1) := by decide +kernel
theorem dX1_become_68 : decode cX1_become 68 = .ok (.iinc 2 1, 3) := by decide +kernel
theorem dX1_become_71 : decode cX1_become 71 = .ok (.goto (-69), 3) := by decide +kernel
theorem dX1_become_74 : decode cX1_become 74 = .ok (.aload_n 0, 1) := by decide +kernel
theorem dX1_become_75 : decode cX1_become 75 = .ok (.getfield 30, 3) := by decide +kernel
theorem dX1_become_78 : decode cX1_become 78 = .ok (.aload_n 1, 1) := by decide +kernel
theorem dX1_become_79 : decode cX1_become 79 = .ok (.getfield 30, 3) := by decide +kernel
theorem dX1_become_82 : decode cX1_become 82 = .ok (.invokevirtual 41, 3) := by decide +kernel
theorem dX1_become_85 : decode cX1_become 85 = .ok (.aload_n 0, 1) := by decide +kernel
theorem dX1_become_86 : decode cX1_become 86 = .ok (.aload_n 1, 1) := by decide +kernel
theorem dX1_become_87 : decode cX1_become 87 = .ok (.getfield 34, 3) := by decide +kernel
theorem dX1_become_90 : decode cX1_become 90 = .ok (.putfield 34, 3) := by decide +kernel
theorem dX1_become_93 : decode cX1_become 93 = .ok (.aload_n 0, 1) := by decide +kernel
theorem dX1_become_94 : decode cX1_become 94 = .ok (.aload_n 1, 1) := by decide +kernel
theorem dX1_become_95 : decode cX1_become 95 = .ok (.getfield 38, 3) := by decide +kernel
theorem dX1_become_98 : decode cX1_become 98 = .ok (.putfield 38, 3) := by decide +kernel
theorem dX1_become_101 : decode cX1_become 101 = .ok (.return_, 1) := by decide +kernel
theorem dX1_placeOf_0 : decode cX1_placeOf 0 = .ok (.iconst 0, 1) := by decide +kernel
theorem dX1_placeOf_1 : decode cX1_placeOf 1 = .ok (.istore_n 2, 1) := by decide +kernel
theorem dX1_placeOf_2 : decode cX1_placeOf 2 = .ok (.iload_n 2, 1) := by decide +kernel
theorem dX1_placeOf_3 : decode cX1_placeOf 3 = .ok (.aload_n 0, 1) := by decide +kernel
theorem dX1_placeOf_4 : decode cX1_placeOf 4 = .ok (.getfield 34, 3) := by decide +kernel
theorem dX1_placeOf_7 : decode cX1_placeOf 7 = .ok (.if_icmp .ge 21, 3) := by decide +kernel
theorem dX1_placeOf_10 : decode cX1_placeOf 10 = .ok (.aload_n 0, 1) := by decide +kernel
theorem dX1_placeOf_11 : decode cX1_placeOf 11 = .ok (.getfield 24, 3) := by decide +kernel
theorem dX1_placeOf_14 : decode cX1_placeOf 14 = .ok (.iload_n 2, 1) := by decide +kernel
theorem dX1_placeOf_15 : decode cX1_placeOf 15 = .ok (.iaload, 1) := by decide +kernel
theorem dX1_placeOf_16 : decode cX1_placeOf 16 = .ok (.iload_n 1, 1) := by decide +kernel
theorem dX1_placeOf_17 : decode cX1_placeOf 17 = .ok (.if_icmp .ne 5, 3) := by decide +kernel
theorem dX1_placeOf_20 : decode cX1_placeOf 20 = .ok (.iload_n 2, 1) := by decide +kernel
theorem dX1_placeOf_21 : decode cX1_placeOf 21 = .ok (.ireturn, 1) := by decide +kernel
theorem dX1_placeOf_22 : decode cX1_placeOf 22 = .ok (.iinc 2 1, 3) := by decide +kernel
theorem dX1_placeOf_25 : decode cX1_placeOf 25 = .ok (.goto (-23), 3) := by decide +kernel
theorem dX1_placeOf_28 : decode cX1_placeOf 28 = .ok (.iconst 0, 1) := by decide +kernel
theorem dX1_placeOf_29 : decode cX1_placeOf 29 = .ok (.ireturn, 1) := by decide +kernel
theorem dX1_dogsBefore_0 : decode cX1_dogsBefore 0 = .ok (.iconst 0, 1) := by decide +kernel
theorem dX1_dogsBefore_1 : decode cX1_dogsBefore 1 = .ok (.istore_n 2, 1) := by decide +kernel
theorem dX1_dogsBefore_2 : decode cX1_dogsBefore 2 = .ok (.iconst 0, 1) := by decide +kernel
theorem dX1_dogsBefore_3 : decode cX1_dogsBefore 3 = .ok (.istore_n 3, 1) := by decide +kernel
theorem dX1_dogsBefore_4 : decode cX1_dogsBefore 4 = .ok (.iload_n 3, 1) := by decide +kernel
theorem dX1_dogsBefore_5 : decode cX1_dogsBefore 5 = .ok (.iload_n 1, 1) := by decide +kernel
theorem dX1_dogsBefore_6 : decode cX1_dogsBefore 6 = .ok (.if_icmp .ge 29, 3) := by decide +kernel
theorem dX1_dogsBefore_9 : decode cX1_dogsBefore 9 = .ok (.iload_n 3, 1) := by decide +kernel
theorem dX1_dogsBefore_10 : decode cX1_dogsBefore 10 = .ok (.aload_n 0, 1) := by decide +kernel
theorem dX1_dogsBefore_11 : decode cX1_dogsBefore 11 = .ok (.getfield 34, 3) := by decide +kernel
theorem dX1_dogsBefore_14 : decode cX1_dogsBefore 14 = .ok (.if_icmp .ge 21, 3) := by decide +kernel
theorem dX1_dogsBefore_17 : decode cX1_dogsBefore 17 = .ok (.iload_n 2, 1) := by decide +kernel
theorem dX1_dogsBefore_18 : decode cX1_dogsBefore 18 = .ok (.aload_n 0, 1) := by decide +kernel
theorem dX1_dogsBefore_19 : decode cX1_dogsBefore 19 = .ok (.getfield 24, 3) := by decide +kernel
theorem dX1_dogsBefore_22 : decode cX1_dogsBefore 22 = .ok (.iload_n 3, 1) := by decide +kernel
theorem dX1_dogsBefore_23 : decode cX1_dogsBefore 23 = .ok (.iaload, 1) := by decide +kernel
theorem dX1_dogsBefore_24 : decode cX1_dogsBefore 24 = .ok (.invokestatic 45, 3) := by decide +kernel
theorem dX1_dogsBefore_27 : decode cX1_dogsBefore 27 = .ok (.ior, 1) := by decide +kernel
theorem dX1_dogsBefore_28 : decode cX1_dogsBefore 28 = .ok (.istore_n 2, 1) := by decide +kernel
theorem dX1_dogsBefore_29 : decode cX1_dogsBefore 29 = .ok (.iinc 3 1, 3) := by decide +kernel
theorem dX1_dogsBefore_32 : decode cX1_dogsBefore 32 = .ok (.goto (-28), 3) := by decide +kernel
theorem dX1_dogsBefore_35 : decode cX1_dogsBefore 35 = .ok (.iload_n 2, 1) := by decide +kernel
theorem dX1_dogsBefore_36 : decode cX1_dogsBefore 36 = .ok (.ireturn, 1) := by decide +kernel
theorem dX1_changePlaces_0 : decode cX1_changePlaces 0 = .ok (.iload_n 1, 1) := by decide +kernel
theorem dX1_changePlaces_1 : decode cX1_changePlaces 1 = .ok (.iconst 0, 1) := by decide +kernel
theorem dX1_changePlaces_2 : decode cX1_changePlaces 2 = .ok (.aload_n 0, 1) := by decide +kernel
theorem dX1_changePlaces_3 : decode cX1_changePlaces 3 = .ok (.getfield 34, 3) := by decide +kernel
theorem dX1_changePlaces_6 : decode cX1_changePlaces 6 = .ok (.iconst 2, 1) := by decide +kernel
theorem dX1_changePlaces_7 : decode cX1_changePlaces 7 = .ok (.isub, 1) := by decide +kernel
theorem dX1_changePlaces_8 : decode cX1_changePlaces 8 = .ok (.invokestatic 49, 3) := by decide +kernel
theorem dX1_changePlaces_11 : decode cX1_changePlaces 11 = .ok (.ifCond .ne 4, 3) := by decide +kernel
theorem dX1_changePlaces_14 : decode cX1_changePlaces 14 = .ok (.return_, 1) := by decide +kernel
theorem dX1_changePlaces_15 : decode cX1_changePlaces 15 = .ok (.aload_n 0, 1) := by decide +kernel
theorem dX1_changePlaces_16 : decode cX1_changePlaces 16 = .ok (.getfield 24, 3) := by decide +kernel
theorem dX1_changePlaces_19 : decode cX1_changePlaces 19 = .ok (.iload_n 1, 1) := by decide +kernel
theorem dX1_changePlaces_20 : decode cX1_changePlaces 20 = .ok (.iaload, 1) := by decide +kernel
theorem dX1_changePlaces_21 : decode cX1_changePlaces 21 = .ok (.istore_n 2, 1) := by decide +kernel
theorem dX1_changePlaces_22 : decode cX1_changePlaces 22 = .ok (.aload_n 0, 1) := by decide +kernel
theorem dX1_changePlaces_23 : decode cX1_changePlaces 23 = .ok (.getfield 24, 3) := by decide +kernel
theorem dX1_changePlaces_26 : decode cX1_changePlaces 26 = .ok (.iload_n 1, 1) := by decide +kernel
theorem dX1_changePlaces_27 : decode cX1_changePlaces 27 = .ok (.aload_n 0, 1) := by decide +kernel
theorem dX1_changePlaces_28 : decode cX1_changePlaces 28 = .ok (.getfield 24, 3) := by decide +kernel
theorem dX1_changePlaces_31 : decode cX1_changePlaces 31 = .ok (.iload_n 1, 1) := by decide +kernel
theorem dX1_changePlaces_32 : decode cX1_changePlaces 32 = .ok (.iconst 1, 1) := by decide +kernel
theorem dX1_changePlaces_33 : decode cX1_changePlaces 33 = .ok (.iadd, 1) := by decide +kernel
theorem dX1_changePlaces_34 : decode cX1_changePlaces 34 = .ok (.iaload, 1) := by decide +kernel
theorem dX1_changePlaces_35 : decode cX1_changePlaces 35 = .ok (.iastore, 1) := by decide +kernel
theorem dX1_changePlaces_36 : decode cX1_changePlaces 36 = .ok (.aload_n 0, 1) := by decide +kernel
theorem dX1_changePlaces_37 : decode cX1_changePlaces 37 = .ok (.getfield 24, 3) := by decide +kernel
theorem dX1_changePlaces_40 : decode cX1_changePlaces 40 = .ok (.iload_n 1, 1) := by decide +kernel
theorem dX1_changePlaces_41 : decode cX1_changePlaces 41 = .ok (.iconst 1, 1) := by decide +kernel
theorem dX1_changePlaces_42 : decode cX1_changePlaces 42 = .ok (.iadd, 1) := by decide +kernel
theorem dX1_changePlaces_43 : decode cX1_changePlaces 43 = .ok (.iload_n 2, 1) := by decide +kernel
theorem dX1_changePlaces_44 : decode cX1_changePlaces 44 = .ok (.iastore, 1) := by decide +kernel
theorem dX1_changePlaces_45 : decode cX1_changePlaces 45 = .ok (.return_, 1) := by decide +kernel
theorem dX1_pulls_0 : decode cX1_pulls 0 = .ok (.iconst 0, 1) := by decide +kernel
theorem dX1_pulls_1 : decode cX1_pulls 1 = .ok (.aload_n 0, 1) := by decide +kernel
theorem dX1_pulls_2 : decode cX1_pulls 2 = .ok (.aload_n 0, 1) := by decide +kernel
theorem dX1_pulls_3 : decode cX1_pulls 3 = .ok (.getfield 9, 3) := by decide +kernel
theorem dX1_pulls_6 : decode cX1_pulls 6 = .ok (.iload_n 1, 1) := by decide +kernel
theorem dX1_pulls_7 : decode cX1_pulls 7 = .ok (.iaload, 1) := by decide +kernel
theorem dX1_pulls_8 : decode cX1_pulls 8 = .ok (.iload_n 1, 1) := by decide +kernel
theorem dX1_pulls_9 : decode cX1_pulls 9 = .ok (.iload_n 2, 1) := by decide +kernel
theorem dX1_pulls_10 : decode cX1_pulls 10 = .ok (.invokevirtual 53, 3) := by decide +kernel
theorem dX1_pulls_13 : decode cX1_pulls 13 = .ok (.invokestatic 57, 3) := by decide +kernel
theorem dX1_pulls_16 : decode cX1_pulls 16 = .ok (.ireturn, 1) := by decide +kernel
theorem dX1_pullsAs_0 : decode cX1_pullsAs 0 = .ok (.aload_n 0, 1) := by decide +kernel
theorem dX1_pullsAs_1 : decode cX1_pullsAs 1 = .ok (.getfield 15, 3) := by decide +kernel
theorem dX1_pullsAs_4 : decode cX1_pullsAs 4 = .ok (.iload_n 2, 1) := by decide +kernel
theorem dX1_pullsAs_5 : decode cX1_pullsAs 5 = .ok (.iaload, 1) := by decide +kernel
theorem dX1_pullsAs_6 : decode cX1_pullsAs 6 = .ok (.aload_n 0, 1) := by decide +kernel
theorem dX1_pullsAs_7 : decode cX1_pullsAs 7 = .ok (.getfield 18, 3) := by decide +kernel
theorem dX1_pullsAs_10 : decode cX1_pullsAs 10 = .ok (.iload_n 2, 1) := by decide +kernel
theorem dX1_pullsAs_11 : decode cX1_pullsAs 11 = .ok (.iaload, 1) := by decide +kernel
theorem dX1_pullsAs_12 : decode cX1_pullsAs 12 = .ok (.iadd, 1) := by decide +kernel
theorem dX1_pullsAs_13 : decode cX1_pullsAs 13 = .ok (.istore 4, 2) := by decide +kernel
theorem dX1_pullsAs_15 : decode cX1_pullsAs 15 = .ok (.iload_n 1, 1) := by decide +kernel
theorem dX1_pullsAs_16 : decode cX1_pullsAs 16 = .ok (.tableswitch 71 1 5 #[36, 39, 48, 53, 64], 36) := by decide +kernel
theorem dX1_pullsAs_52 : decode cX1_pullsAs 52 = .ok (.iload 4, 2) := by decide +kernel
theorem dX1_pullsAs_54 : decode cX1_pullsAs 54 = .ok (.ireturn, 1) := by decide +kernel
theorem dX1_pullsAs_55 : decode cX1_pullsAs 55 = .ok (.aload_n 0, 1) := by decide +kernel
theorem dX1_pullsAs_56 : decode cX1_pullsAs 56 = .ok (.getfield 15, 3) := by decide +kernel
theorem dX1_pullsAs_59 : decode cX1_pullsAs 59 = .ok (.iload_n 2, 1) := by decide +kernel
theorem dX1_pullsAs_60 : decode cX1_pullsAs 60 = .ok (.iaload, 1) := by decide +kernel
theorem dX1_pullsAs_61 : decode cX1_pullsAs 61 = .ok (.iconst 2, 1) := by decide +kernel
theorem dX1_pullsAs_62 : decode cX1_pullsAs 62 = .ok (.idiv, 1) := by decide +kernel
theorem dX1_pullsAs_63 : decode cX1_pullsAs 63 = .ok (.ireturn, 1) := by decide +kernel
theorem dX1_pullsAs_64 : decode cX1_pullsAs 64 = .ok (.iload 4, 2) := by decide +kernel
theorem dX1_pullsAs_66 : decode cX1_pullsAs 66 = .ok (.iload_n 3, 1) := by decide +kernel
theorem dX1_pullsAs_67 : decode cX1_pullsAs 67 = .ok (.iadd, 1) := by decide +kernel
theorem dX1_pullsAs_68 : decode cX1_pullsAs 68 = .ok (.ireturn, 1) := by decide +kernel
theorem dX1_pullsAs_69 : decode cX1_pullsAs 69 = .ok (.aload_n 0, 1) := by decide +kernel
theorem dX1_pullsAs_70 : decode cX1_pullsAs 70 = .ok (.getfield 15, 3) := by decide +kernel
theorem dX1_pullsAs_73 : decode cX1_pullsAs 73 = .ok (.iload_n 2, 1) := by decide +kernel
theorem dX1_pullsAs_74 : decode cX1_pullsAs 74 = .ok (.iaload, 1) := by decide +kernel
theorem dX1_pullsAs_75 : decode cX1_pullsAs 75 = .ok (.iconst 2, 1) := by decide +kernel
theorem dX1_pullsAs_76 : decode cX1_pullsAs 76 = .ok (.idiv, 1) := by decide +kernel
theorem dX1_pullsAs_77 : decode cX1_pullsAs 77 = .ok (.iconst 2, 1) := by decide +kernel
theorem dX1_pullsAs_78 : decode cX1_pullsAs 78 = .ok (.isub, 1) := by decide +kernel
theorem dX1_pullsAs_79 : decode cX1_pullsAs 79 = .ok (.ireturn, 1) := by decide +kernel
theorem dX1_pullsAs_80 : decode cX1_pullsAs 80 = .ok (.iconst 2, 1) := by decide +kernel
theorem dX1_pullsAs_81 : decode cX1_pullsAs 81 = .ok (.iload 4, 2) := by decide +kernel
theorem dX1_pullsAs_83 : decode cX1_pullsAs 83 = .ok (.imul, 1) := by decide +kernel
theorem dX1_pullsAs_84 : decode cX1_pullsAs 84 = .ok (.iload_n 3, 1) := by decide +kernel
theorem dX1_pullsAs_85 : decode cX1_pullsAs 85 = .ok (.isub, 1) := by decide +kernel
theorem dX1_pullsAs_86 : decode cX1_pullsAs 86 = .ok (.ireturn, 1) := by decide +kernel
theorem dX1_pullsAs_87 : decode cX1_pullsAs 87 = .ok (.aload_n 0, 1) := by decide +kernel
theorem dX1_pullsAs_88 : decode cX1_pullsAs 88 = .ok (.getfield 15, 3) := by decide +kernel
theorem dX1_pullsAs_91 : decode cX1_pullsAs 91 = .ok (.iload_n 2, 1) := by decide +kernel
theorem dX1_pullsAs_92 : decode cX1_pullsAs 92 = .ok (.iaload, 1) := by decide +kernel
theorem dX1_pullsAs_93 : decode cX1_pullsAs 93 = .ok (.ireturn, 1) := by decide +kernel
theorem dX1_passesRight_0 : decode cX1_passesRight 0 = .ok (.iload_n 2, 1) := by decide +kernel
theorem dX1_passesRight_1 : decode cX1_passesRight 1 = .ok (.aload_n 0, 1) := by decide +kernel
theorem dX1_passesRight_2 : decode cX1_passesRight 2 = .ok (.getfield 18, 3) := by decide +kernel
theorem dX1_passesRight_5 : decode cX1_passesRight 5 = .ok (.iload_n 1, 1) := by decide +kernel
theorem dX1_passesRight_6 : decode cX1_passesRight 6 = .ok (.iaload, 1) := by decide +kernel
theorem dX1_passesRight_7 : decode cX1_passesRight 7 = .ok (.iconst 4, 1) := by decide +kernel
theorem dX1_passesRight_8 : decode cX1_passesRight 8 = .ok (.if_icmp .le 7, 3) := by decide +kernel
theorem dX1_passesRight_11 : decode cX1_passesRight 11 = .ok (.iconst 1, 1) := by decide +kernel
theorem dX1_passesRight_12 : decode cX1_passesRight 12 = .ok (.goto 4, 3) := by decide +kernel
theorem dX1_passesRight_15 : decode cX1_passesRight 15 = .ok (.iconst 0, 1) := by decide +kernel
theorem dX1_passesRight_16 : decode cX1_passesRight 16 = .ok (.iadd, 1) := by decide +kernel
theorem dX1_passesRight_17 : decode cX1_passesRight 17 = .ok (.iload_n 3, 1) := by decide +kernel
theorem dX1_passesRight_18 : decode cX1_passesRight 18 = .ok (.if_icmp .lt 7, 3) := by decide +kernel
theorem dX1_passesRight_21 : decode cX1_passesRight 21 = .ok (.iconst 1, 1) := by decide +kernel
theorem dX1_passesRight_22 : decode cX1_passesRight 22 = .ok (.goto 4, 3) := by decide +kernel
theorem dX1_passesRight_25 : decode cX1_passesRight 25 = .ok (.iconst 0, 1) := by decide +kernel
theorem dX1_passesRight_26 : decode cX1_passesRight 26 = .ok (.istore 4, 2) := by decide +kernel
theorem dX1_passesRight_28 : decode cX1_passesRight 28 = .ok (.aload_n 0, 1) := by decide +kernel
theorem dX1_passesRight_29 : decode cX1_passesRight 29 = .ok (.getfield 9, 3) := by decide +kernel
theorem dX1_passesRight_32 : decode cX1_passesRight 32 = .ok (.iload_n 1, 1) := by decide +kernel
theorem dX1_passesRight_33 : decode cX1_passesRight 33 = .ok (.iaload, 1) := by decide +kernel
theorem dX1_passesRight_34 : decode cX1_passesRight 34 = .ok (.tableswitch 76 1 5 #[34, 76, 37, 39, 54], 34) := by decide +kernel
theorem dX1_passesRight_68 : decode cX1_passesRight 68 = .ok (.iload 4, 2) := by decide +kernel
theorem dX1_passesRight_70 : decode cX1_passesRight 70 = .ok (.ireturn, 1) := by decide +kernel
theorem dX1_passesRight_71 : decode cX1_passesRight 71 = .ok (.iconst 0, 1) := by decide +kernel
theorem dX1_passesRight_72 : decode cX1_passesRight 72 = .ok (.ireturn, 1) := by decide +kernel
theorem dX1_passesRight_73 : decode cX1_passesRight 73 = .ok (.iload_n 2, 1) := by decide +kernel
theorem dX1_passesRight_74 : decode cX1_passesRight 74 = .ok (.iload_n 3, 1) := by decide +kernel
theorem dX1_passesRight_75 : decode cX1_passesRight 75 = .ok (.if_icmp .ge 7, 3) := by decide +kernel
theorem dX1_passesRight_78 : decode cX1_passesRight 78 = .ok (.iload_n 2, 1) := by decide +kernel
theorem dX1_passesRight_79 : decode cX1_passesRight 79 = .ok (.ifCond .ne 7, 3) := by decide +kernel
theorem dX1_passesRight_82 : decode cX1_passesRight 82 = .ok (.iconst 1, 1) := by decide +kernel
theorem dX1_passesRight_83 : decode cX1_passesRight 83 = .ok (.goto 4, 3) := by decide +kernel
theorem dX1_passesRight_86 : decode cX1_passesRight 86 = .ok (.iconst 0, 1) := by decide +kernel
theorem dX1_passesRight_87 : decode cX1_passesRight 87 = .ok (.ireturn, 1) := by decide +kernel
theorem dX1_passesRight_88 : decode cX1_passesRight 88 = .ok (.iload_n 2, 1) := by decide +kernel
theorem dX1_passesRight_89 : decode cX1_passesRight 89 = .ok (.iconst 2, 1) := by decide +kernel
theorem dX1_passesRight_90 : decode cX1_passesRight 90 = .ok (.irem, 1) := by decide +kernel
theorem dX1_passesRight_91 : decode cX1_passesRight 91 = .ok (.ifCond .ne 16, 3) := by decide +kernel
theorem dX1_passesRight_94 : decode cX1_passesRight 94 = .ok (.iload 4, 2) := by decide +kernel
theorem dX1_passesRight_96 : decode cX1_passesRight 96 = .ok (.ifCond .ne 7, 3) := by decide +kernel
theorem dX1_passesRight_99 : decode cX1_passesRight 99 = .ok (.iconst 1, 1) := by decide +kernel
theorem dX1_passesRight_100 : decode cX1_passesRight 100 = .ok (.goto 9, 3) := by decide +kernel
theorem dX1_passesRight_103 : decode cX1_passesRight 103 = .ok (.iconst 0, 1) := by decide +kernel
theorem dX1_passesRight_104 : decode cX1_passesRight 104 = .ok (.goto 5, 3) := by decide +kernel
theorem dX1_passesRight_107 : decode cX1_passesRight 107 = .ok (.iload 4, 2) := by decide +kernel
theorem dX1_passesRight_109 : decode cX1_passesRight 109 = .ok (.ireturn, 1) := by decide +kernel
theorem dX1_passesRight_110 : decode cX1_passesRight 110 = .ok (.iload_n 2, 1) := by decide +kernel
theorem dX1_passesRight_111 : decode cX1_passesRight 111 = .ok (.iload_n 3, 1) := by decide +kernel
theorem dX1_passesRight_112 : decode cX1_passesRight 112 = .ok (.if_icmp .lt 7, 3) := by decide +kernel
theorem dX1_passesRight_115 : decode cX1_passesRight 115 = .ok (.iconst 1, 1) := by decide +kernel
theorem dX1_passesRight_116 : decode cX1_passesRight 116 = .ok (.goto 4, 3) := by decide +kernel
theorem dX1_passesRight_119 : decode cX1_passesRight 119 = .ok (.iconst 0, 1) := by decide +kernel
theorem dX1_passesRight_120 : decode cX1_passesRight 120 = .ok (.ireturn, 1) := by decide +kernel
theorem dX3_init_0 : decode cX3_init 0 = .ok (.aload_n 0, 1) := by decide +kernel
theorem dX3_init_1 : decode cX3_init 1 = .ok (.invokespecial 3, 3) := by decide +kernel
theorem dX3_init_4 : decode cX3_init 4 = .ok (.aload_n 0, 1) := by decide +kernel
theorem dX3_init_5 : decode cX3_init 5 = .ok (.bipush 40, 2) := by decide +kernel
theorem dX3_init_7 : decode cX3_init 7 = .ok (.newarray .int, 2) := by decide +kernel
theorem dX3_init_9 : decode cX3_init 9 = .ok (.putfield 9, 3) := by decide +kernel
theorem dX3_init_12 : decode cX3_init 12 = .ok (.aload_n 0, 1) := by decide +kernel
theorem dX3_init_13 : decode cX3_init 13 = .ok (.bipush 40, 2) := by decide +kernel
theorem dX3_init_15 : decode cX3_init 15 = .ok (.newarray .int, 2) := by decide +kernel
theorem dX3_init_17 : decode cX3_init 17 = .ok (.putfield 15, 3) := by decide +kernel
theorem dX3_init_20 : decode cX3_init 20 = .ok (.aload_n 0, 1) := by decide +kernel
theorem dX3_init_21 : decode cX3_init 21 = .ok (.bipush 40, 2) := by decide +kernel
theorem dX3_init_23 : decode cX3_init 23 = .ok (.newarray .int, 2) := by decide +kernel
theorem dX3_init_25 : decode cX3_init 25 = .ok (.putfield 18, 3) := by decide +kernel
theorem dX3_init_28 : decode cX3_init 28 = .ok (.aload_n 0, 1) := by decide +kernel
theorem dX3_init_29 : decode cX3_init 29 = .ok (.bipush 40, 2) := by decide +kernel
theorem dX3_init_31 : decode cX3_init 31 = .ok (.newarray .int, 2) := by decide +kernel
theorem dX3_init_33 : decode cX3_init 33 = .ok (.putfield 21, 3) := by decide +kernel
theorem dX3_init_36 : decode cX3_init 36 = .ok (.aload_n 0, 1) := by decide +kernel
theorem dX3_init_37 : decode cX3_init 37 = .ok (.bipush 40, 2) := by decide +kernel
theorem dX3_init_39 : decode cX3_init 39 = .ok (.newarray .int, 2) := by decide +kernel
theorem dX3_init_41 : decode cX3_init 41 = .ok (.putfield 24, 3) := by decide +kernel
theorem dX3_init_44 : decode cX3_init 44 = .ok (.aload_n 0, 1) := by decide +kernel
theorem dX3_init_45 : decode cX3_init 45 = .ok (.iconst 0, 1) := by decide +kernel
theorem dX3_init_46 : decode cX3_init 46 = .ok (.putfield 27, 3) := by decide +kernel
theorem dX3_init_49 : decode cX3_init 49 = .ok (.return_, 1) := by decide +kernel
theorem dX3_put_0 : decode cX3_put 0 = .ok (.aload_n 0, 1) := by decide +kernel
theorem dX3_put_1 : decode cX3_put 1 = .ok (.getfield 27, 3) := by decide +kernel
theorem dX3_put_4 : decode cX3_put 4 = .ok (.bipush 40, 2) := by decide +kernel
theorem dX3_put_6 : decode cX3_put 6 = .ok (.if_icmp .lt 4, 3) := by decide +kernel
theorem dX3_put_9 : decode cX3_put 9 = .ok (.return_, 1) := by decide +kernel
theorem dX3_put_10 : decode cX3_put 10 = .ok (.aload_n 0, 1) := by decide +kernel
theorem dX3_put_11 : decode cX3_put 11 = .ok (.getfield 9, 3) := by decide +kernel
theorem dX3_put_14 : decode cX3_put 14 = .ok (.aload_n 0, 1) := by decide +kernel
theorem dX3_put_15 : decode cX3_put 15 = .ok (.getfield 27, 3) := by decide +kernel
theorem dX3_put_18 : decode cX3_put 18 = .ok (.iload_n 1, 1) := by decide +kernel
theorem dX3_put_19 : decode cX3_put 19 = .ok (.iastore, 1) := by decide +kernel
theorem dX3_put_20 : decode cX3_put 20 = .ok (.aload_n 0, 1) := by decide +kernel
theorem dX3_put_21 : decode cX3_put 21 = .ok (.getfield 15, 3) := by decide +kernel
theorem dX3_put_24 : decode cX3_put 24 = .ok (.aload_n 0, 1) := by decide +kernel
theorem dX3_put_25 : decode cX3_put 25 = .ok (.getfield 27, 3) := by decide +kernel
theorem dX3_put_28 : decode cX3_put 28 = .ok (.iload_n 2, 1) := by decide +kernel
theorem dX3_put_29 : decode cX3_put 29 = .ok (.iastore, 1) := by decide +kernel
theorem dX3_put_30 : decode cX3_put 30 = .ok (.aload_n 0, 1) := by decide +kernel
theorem dX3_put_31 : decode cX3_put 31 = .ok (.getfield 18, 3) := by decide +kernel
theorem dX3_put_34 : decode cX3_put 34 = .ok (.aload_n 0, 1) := by decide +kernel
theorem dX3_put_35 : decode cX3_put 35 = .ok (.getfield 27, 3) := by decide +kernel
theorem dX3_put_38 : decode cX3_put 38 = .ok (.iload_n 3, 1) := by decide +kernel
theorem dX3_put_39 : decode cX3_put 39 = .ok (.iastore, 1) := by decide +kernel
theorem dX3_put_40 : decode cX3_put 40 = .ok (.aload_n 0, 1) := by decide +kernel
theorem dX3_put_41 : decode cX3_put 41 = .ok (.getfield 21, 3) := by decide +kernel
theorem dX3_put_44 : decode cX3_put 44 = .ok (.aload_n 0, 1) := by decide +kernel
theorem dX3_put_45 : decode cX3_put 45 = .ok (.getfield 27, 3) := by decide +kernel
theorem dX3_put_48 : decode cX3_put 48 = .ok (.iload 4, 2) := by decide +kernel
theorem dX3_put_50 : decode cX3_put 50 = .ok (.iastore, 1) := by decide +kernel
theorem dX3_put_51 : decode cX3_put 51 = .ok (.aload_n 0, 1) := by decide +kernel
theorem dX3_put_52 : decode cX3_put 52 = .ok (.getfield 24, 3) := by decide +kernel
theorem dX3_put_55 : decode cX3_put 55 = .ok (.aload_n 0, 1) := by decide +kernel
theorem dX3_put_56 : decode cX3_put 56 = .ok (.getfield 27, 3) := by decide +kernel
theorem dX3_put_59 : decode cX3_put 59 = .ok (.iload 5, 2) := by decide +kernel
theorem dX3_put_61 : decode cX3_put 61 = .ok (.iastore, 1) := by decide +kernel
theorem dX3_put_62 : decode cX3_put 62 = .ok (.aload_n 0, 1) := by decide +kernel
theorem dX3_put_63 : decode cX3_put 63 = .ok (.dup, 1) := by decide +kernel
theorem dX3_put_64 : decode cX3_put 64 = .ok (.getfield 27, 3) := by decide +kernel
theorem dX3_put_67 : decode cX3_put 67 = .ok (.iconst 1, 1) := by decide +kernel
theorem dX3_put_68 : decode cX3_put 68 = .ok (.iadd, 1) := by decide +kernel
theorem dX3_put_69 : decode cX3_put 69 = .ok (.putfield 27, 3) := by decide +kernel
theorem dX3_put_72 : decode cX3_put 72 = .ok (.return_, 1) := by decide +kernel
theorem dX3_lay_0 : decode cX3_lay 0 = .ok (.aload_n 0, 1) := by decide +kernel
theorem dX3_lay_1 : decode cX3_lay 1 = .ok (.iload_n 1, 1) := by decide +kernel
theorem dX3_lay_2 : decode cX3_lay 2 = .ok (.invokevirtual 31, 3) := by decide +kernel
theorem dX3_lay_5 : decode cX3_lay 5 = .ok (.istore 6, 2) := by decide +kernel
theorem dX3_lay_7 : decode cX3_lay 7 = .ok (.iload 6, 2) := by decide +kernel
theorem dX3_lay_9 : decode cX3_lay 9 = .ok (.ifCond .lt 34, 3) := by decide +kernel
theorem dX3_lay_12 : decode cX3_lay 12 = .ok (.aload_n 0, 1) := by decide +kernel
theorem dX3_lay_13 : decode cX3_lay 13 = .ok (.getfield 9, 3) := by decide +kernel
theorem dX3_lay_16 : decode cX3_lay 16 = .ok (.iload 6, 2) := by decide +kernel
theorem dX3_lay_18 : decode cX3_lay 18 = .ok (.iaload, 1) := by decide +kernel
theorem dX3_lay_19 : decode cX3_lay 19 = .ok (.iload_n 1, 1) := by decide +kernel
theorem dX3_lay_20 : decode cX3_lay 20 = .ok (.if_icmp .ne 23, 3) := by decide +kernel
theorem dX3_lay_23 : decode cX3_lay 23 = .ok (.aload_n 0, 1) := by decide +kernel
theorem dX3_lay_24 : decode cX3_lay 24 = .ok (.getfield 15, 3) := by decide +kernel
theorem dX3_lay_27 : decode cX3_lay 27 = .ok (.iload 6, 2) := by decide +kernel
theorem dX3_lay_29 : decode cX3_lay 29 = .ok (.iaload, 1) := by decide +kernel
theorem dX3_lay_30 : decode cX3_lay 30 = .ok (.iload_n 2, 1) := by decide +kernel
theorem dX3_lay_31 : decode cX3_lay 31 = .ok (.if_icmp .eq 12, 3) := by decide +kernel
theorem dX3_lay_34 : decode cX3_lay 34 = .ok (.aload_n 0, 1) := by decide +kernel
theorem dX3_lay_35 : decode cX3_lay 35 = .ok (.iload 6, 2) := by decide +kernel
theorem dX3_lay_37 : decode cX3_lay 37 = .ok (.invokevirtual 35, 3) := by decide +kernel
theorem dX3_lay_40 : decode cX3_lay 40 = .ok (.goto 14, 3) := by decide +kernel
theorem dX3_lay_43 : decode cX3_lay 43 = .ok (.aload_n 0, 1) := by decide +kernel
theorem dX3_lay_44 : decode cX3_lay 44 = .ok (.iload_n 1, 1) := by decide +kernel
theorem dX3_lay_45 : decode cX3_lay 45 = .ok (.iload_n 2, 1) := by decide +kernel
theorem dX3_lay_46 : decode cX3_lay 46 = .ok (.iload_n 3, 1) := by decide +kernel
theorem dX3_lay_47 : decode cX3_lay 47 = .ok (.iload 4, 2) := by decide +kernel
theorem dX3_lay_49 : decode cX3_lay 49 = .ok (.iload 5, 2) := by decide +kernel
theorem dX3_lay_51 : decode cX3_lay 51 = .ok (.invokevirtual 39, 3) := by decide +kernel
theorem dX3_lay_54 : decode cX3_lay 54 = .ok (.return_, 1) := by decide +kernel
theorem dX3_lastNear_0 : decode cX3_lastNear 0 = .ok (.aload_n 0, 1) := by decide +kernel
theorem dX3_lastNear_1 : decode cX3_lastNear 1 = .ok (.getfield 27, 3) := by decide +kernel
theorem dX3_lastNear_4 : decode cX3_lastNear 4 = .ok (.iconst 1, 1) := by decide +kernel
theorem dX3_lastNear_5 : decode cX3_lastNear 5 = .ok (.isub, 1) := by decide +kernel
theorem dX3_lastNear_6 : decode cX3_lastNear 6 = .ok (.istore_n 2, 1) := by decide +kernel
theorem dX3_lastNear_7 : decode cX3_lastNear 7 = .ok (.iload_n 2, 1) := by decide +kernel
theorem dX3_lastNear_8 : decode cX3_lastNear 8 = .ok (.ifCond .lt 26, 3) := by decide +kernel
theorem dX3_lastNear_11 : decode cX3_lastNear 11 = .ok (.aload_n 0, 1) := by decide +kernel
theorem dX3_lastNear_12 : decode cX3_lastNear 12 = .ok (.getfield 9, 3) := by decide +kernel
theorem dX3_lastNear_15 : decode cX3_lastNear 15 = .ok (.iload_n 2, 1) := by decide +kernel
theorem dX3_lastNear_16 : decode cX3_lastNear 16 = .ok (.iaload, 1) := by decide +kernel
theorem dX3_lastNear_17 : decode cX3_lastNear 17 = .ok (.iload_n 1, 1) := by decide +kernel
theorem dX3_lastNear_18 : decode cX3_lastNear 18 = .ok (.isub, 1) := by decide +kernel
theorem dX3_lastNear_19 : decode cX3_lastNear 19 = .ok (.invokestatic 43, 3) := by decide +kernel
theorem dX3_lastNear_22 : decode cX3_lastNear 22 = .ok (.iconst 2, 1) := by decide +kernel
theorem dX3_lastNear_23 : decode cX3_lastNear 23 = .ok (.if_icmp .ge 5, 3) := by decide +kernel
theorem dX3_lastNear_26 : decode cX3_lastNear 26 = .ok (.iload_n 2, 1) := by decide +kernel
theorem dX3_lastNear_27 : decode cX3_lastNear 27 = .ok (.ireturn, 1) := by decide +kernel
theorem dX3_lastNear_28 : decode cX3_lastNear 28 = .ok (.iinc 2 (-1), 3) := by decide +kernel
theorem dX3_lastNear_31 : decode cX3_lastNear 31 = .ok (.goto (-24), 3) := by decide +kernel
theorem dX3_lastNear_34 : decode cX3_lastNear 34 = .ok (.iconst (-1), 1) := by decide +kernel
theorem dX3_lastNear_35 : decode cX3_lastNear 35 = .ok (.ireturn, 1) := by decide +kernel
theorem dX3_remove_0 : decode cX3_remove 0 = .ok (.iload_n 1, 1) := by decide +kernel
theorem dX3_remove_1 : decode cX3_remove 1 = .ok (.istore_n 2, 1) := by decide +kernel
theorem dX3_remove_2 : decode cX3_remove 2 = .ok (.iload_n 2, 1) := by decide +kernel
theorem dX3_remove_3 : decode cX3_remove 3 = .ok (.iconst 1, 1) := by decide +kernel
theorem dX3_remove_4 : decode cX3_remove 4 = .ok (.iadd, 1) := by decide +kernel
theorem dX3_remove_5 : decode cX3_remove 5 = .ok (.aload_n 0, 1) := by decide +kernel
theorem dX3_remove_6 : decode cX3_remove 6 = .ok (.getfield 27, 3) := by decide +kernel
theorem dX3_remove_9 : decode cX3_remove 9 = .ok (.if_icmp .ge 18, 3) := by decide +kernel
theorem dX3_remove_12 : decode cX3_remove 12 = .ok (.aload_n 0, 1) := by decide +kernel
theorem dX3_remove_13 : decode cX3_remove 13 = .ok (.iload_n 2, 1) := by decide +kernel
theorem dX3_remove_14 : decode cX3_remove 14 = .ok (.aload_n 0, 1) := by decide +kernel
theorem dX3_remove_15 : decode cX3_remove 15 = .ok (.iload_n 2, 1) := by decide +kernel
theorem dX3_remove_16 : decode cX3_remove 16 = .ok (.iconst 1, 1) := by decide +kernel
theorem dX3_remove_17 : decode cX3_remove 17 = .ok (.iadd, 1) := by decide +kernel
theorem dX3_remove_18 : decode cX3_remove 18 = .ok (.invokevirtual 48, 3) := by decide +kernel
theorem dX3_remove_21 : decode cX3_remove 21 = .ok (.iinc 2 1, 3) := by decide +kernel
theorem dX3_remove_24 : decode cX3_remove 24 = .ok (.goto (-22), 3) := by decide +kernel
theorem dX3_remove_27 : decode cX3_remove 27 = .ok (.aload_n 0, 1) := by decide +kernel
theorem dX3_remove_28 : decode cX3_remove 28 = .ok (.dup, 1) := by decide +kernel
theorem dX3_remove_29 : decode cX3_remove 29 = .ok (.getfield 27, 3) := by decide +kernel
theorem dX3_remove_32 : decode cX3_remove 32 = .ok (.iconst 1, 1) := by decide +kernel
theorem dX3_remove_33 : decode cX3_remove 33 = .ok (.isub, 1) := by decide +kernel
theorem dX3_remove_34 : decode cX3_remove 34 = .ok (.putfield 27, 3) := by decide +kernel
theorem dX3_remove_37 : decode cX3_remove 37 = .ok (.return_, 1) := by decide +kernel
theorem dX3_become_0 : decode cX3_become 0 = .ok (.aload_n 0, 1) := by decide +kernel
theorem dX3_become_1 : decode cX3_become 1 = .ok (.aload_n 1, 1) := by decide +kernel
theorem dX3_become_2 : decode cX3_become 2 = .ok (.getfield 27, 3) := by decide +kernel
theorem dX3_become_5 : decode cX3_become 5 = .ok (.putfield 27, 3) := by decide +kernel
theorem dX3_become_8 : decode cX3_become 8 = .ok (.iconst 0, 1) := by decide +kernel
theorem dX3_become_9 : decode cX3_become 9 = .ok (.istore_n 2, 1) := by decide +kernel
theorem dX3_become_10 : decode cX3_become 10 = .ok (.iload_n 2, 1) := by decide +kernel
theorem dX3_become_11 : decode cX3_become 11 = .ok (.aload_n 0, 1) := by decide +kernel
theorem dX3_become_12 : decode cX3_become 12 = .ok (.getfield 27, 3) := by decide +kernel
theorem dX3_become_15 : decode cX3_become 15 = .ok (.if_icmp .ge 16, 3) := by decide +kernel
theorem dX3_become_18 : decode cX3_become 18 = .ok (.aload_n 0, 1) := by decide +kernel
theorem dX3_become_19 : decode cX3_become 19 = .ok (.iload_n 2, 1) := by decide +kernel
theorem dX3_become_20 : decode cX3_become 20 = .ok (.aload_n 1, 1) := by decide +kernel
theorem dX3_become_21 : decode cX3_become 21 = .ok (.iload_n 2, 1) := by decide +kernel
theorem dX3_become_22 : decode cX3_become 22 = .ok (.invokevirtual 48, 3) := by decide +kernel
theorem dX3_become_25 : decode cX3_become 25 = .ok (.iinc 2 1, 3) := by decide +kernel
theorem dX3_become_28 : decode cX3_become 28 = .ok (.goto (-18), 3) := by decide +kernel
theorem dX3_become_31 : decode cX3_become 31 = .ok (.return_, 1) := by decide +kernel
theorem dX3_takeOver_0 : decode cX3_takeOver 0 = .ok (.aload_n 0, 1) := by decide +kernel
theorem dX3_takeOver_1 : decode cX3_takeOver 1 = .ok (.getfield 9, 3) := by decide +kernel
theorem dX3_takeOver_4 : decode cX3_takeOver 4 = .ok (.iload_n 1, 1) := by decide +kernel
theorem dX3_takeOver_5 : decode cX3_takeOver 5 = .ok (.aload_n 2, 1) := by decide +kernel
theorem dX3_takeOver_6 : decode cX3_takeOver 6 = .ok (.getfield 9, 3) := by decide +kernel
theorem dX3_takeOver_9 : decode cX3_takeOver 9 = .ok (.iload_n 3, 1) := by decide +kernel
theorem dX3_takeOver_10 : decode cX3_takeOver 10 = .ok (.iaload, 1) := by decide +kernel
theorem dX3_takeOver_11 : decode cX3_takeOver 11 = .ok (.iastore, 1) := by decide +kernel
theorem dX3_takeOver_12 : decode cX3_takeOver 12 = .ok (.aload_n 0, 1) := by decide +kernel
theorem dX3_takeOver_13 : decode cX3_takeOver 13 = .ok (.getfield 15, 3) := by decide +kernel
theorem dX3_takeOver_16 : decode cX3_takeOver 16 = .ok (.iload_n 1, 1) := by decide +kernel
theorem dX3_takeOver_17 : decode cX3_takeOver 17 = .ok (.aload_n 2, 1) := by decide +kernel
theorem dX3_takeOver_18 : decode cX3_takeOver 18 = .ok (.getfield 15, 3) := by decide +kernel
theorem dX3_takeOver_21 : decode cX3_takeOver 21 = .ok (.iload_n 3, 1) := by decide +kernel
theorem dX3_takeOver_22 : decode cX3_takeOver 22 = .ok (.iaload, 1) := by decide +kernel
theorem dX3_takeOver_23 : decode cX3_takeOver 23 = .ok (.iastore, 1) := by decide +kernel
theorem dX3_takeOver_24 : decode cX3_takeOver 24 = .ok (.aload_n 0, 1) := by decide +kernel
theorem dX3_takeOver_25 : decode cX3_takeOver 25 = .ok (.getfield 18, 3) := by decide +kernel
theorem dX3_takeOver_28 : decode cX3_takeOver 28 = .ok (.iload_n 1, 1) := by decide +kernel
theorem dX3_takeOver_29 : decode cX3_takeOver 29 = .ok (.aload_n 2, 1) := by decide +kernel
theorem dX3_takeOver_30 : decode cX3_takeOver 30 = .ok (.getfield 18, 3) := by decide +kernel
theorem dX3_takeOver_33 : decode cX3_takeOver 33 = .ok (.iload_n 3, 1) := by decide +kernel
theorem dX3_takeOver_34 : decode cX3_takeOver 34 = .ok (.iaload, 1) := by decide +kernel
theorem dX3_takeOver_35 : decode cX3_takeOver 35 = .ok (.iastore, 1) := by decide +kernel
theorem dX3_takeOver_36 : decode cX3_takeOver 36 = .ok (.aload_n 0, 1) := by decide +kernel
theorem dX3_takeOver_37 : decode cX3_takeOver 37 = .ok (.getfield 21, 3) := by decide +kernel
theorem dX3_takeOver_40 : decode cX3_takeOver 40 = .ok (.iload_n 1, 1) := by decide +kernel
theorem dX3_takeOver_41 : decode cX3_takeOver 41 = .ok (.aload_n 2, 1) := by decide +kernel
theorem dX3_takeOver_42 : decode cX3_takeOver 42 = .ok (.getfield 21, 3) := by decide +kernel
theorem dX3_takeOver_45 : decode cX3_takeOver 45 = .ok (.iload_n 3, 1) := by decide +kernel
theorem dX3_takeOver_46 : decode cX3_takeOver 46 = .ok (.iaload, 1) := by decide +kernel
theorem dX3_takeOver_47 : decode cX3_takeOver 47 = .ok (.iastore, 1) := by decide +kernel
theorem dX3_takeOver_48 : decode cX3_takeOver 48 = .ok (.aload_n 0, 1) := by decide +kernel
theorem dX3_takeOver_49 : decode cX3_takeOver 49 = .ok (.getfield 24, 3) := by decide +kernel
theorem dX3_takeOver_52 : decode cX3_takeOver 52 = .ok (.iload_n 1, 1) := by decide +kernel
theorem dX3_takeOver_53 : decode cX3_takeOver 53 = .ok (.aload_n 2, 1) := by decide +kernel
theorem dX3_takeOver_54 : decode cX3_takeOver 54 = .ok (.getfield 24, 3) := by decide +kernel
theorem dX3_takeOver_57 : decode cX3_takeOver 57 = .ok (.iload_n 3, 1) := by decide +kernel
theorem dX3_takeOver_58 : decode cX3_takeOver 58 = .ok (.iaload, 1) := by decide +kernel
theorem dX3_takeOver_59 : decode cX3_takeOver 59 = .ok (.iastore, 1) := by decide +kernel
theorem dX3_takeOver_60 : decode cX3_takeOver 60 = .ok (.return_, 1) := by decide +kernel
theorem dX3_dogsOf_0 : decode cX3_dogsOf 0 = .ok (.aload_n 0, 1) := by decide +kernel
theorem dX3_dogsOf_1 : decode cX3_dogsOf 1 = .ok (.getfield 18, 3) := by decide +kernel
theorem dX3_dogsOf_4 : decode cX3_dogsOf 4 = .ok (.iload_n 1, 1) := by decide +kernel
theorem dX3_dogsOf_5 : decode cX3_dogsOf 5 = .ok (.iaload, 1) := by decide +kernel
theorem dX3_dogsOf_6 : decode cX3_dogsOf 6 = .ok (.invokestatic 52, 3) := by decide +kernel
theorem dX3_dogsOf_9 : decode cX3_dogsOf 9 = .ok (.aload_n 0, 1) := by decide +kernel
theorem dX3_dogsOf_10 : decode cX3_dogsOf 10 = .ok (.getfield 21, 3) := by decide +kernel
theorem dX3_dogsOf_13 : decode cX3_dogsOf 13 = .ok (.iload_n 1, 1) := by decide +kernel
theorem dX3_dogsOf_14 : decode cX3_dogsOf 14 = .ok (.iaload, 1) := by decide +kernel
theorem dX3_dogsOf_15 : decode cX3_dogsOf 15 = .ok (.invokestatic 52, 3) := by decide +kernel
theorem dX3_dogsOf_18 : decode cX3_dogsOf 18 = .ok (.ior, 1) := by decide +kernel
theorem dX3_dogsOf_19 : decode cX3_dogsOf 19 = .ok (.ireturn, 1) := by decide +kernel
theorem dX4_init_0 : decode cX4_init 0 = .ok (.aload_n 0, 1) := by decide +kernel
theorem dX4_init_1 : decode cX4_init 1 = .ok (.invokespecial 3, 3) := by decide +kernel
theorem dX4_init_4 : decode cX4_init 4 = .ok (.aload_n 0, 1) := by decide +kernel
theorem dX4_init_5 : decode cX4_init 5 = .ok (.bipush 40, 2) := by decide +kernel
theorem dX4_init_7 : decode cX4_init 7 = .ok (.newarray .int, 2) := by decide +kernel
theorem dX4_init_9 : decode cX4_init 9 = .ok (.putfield 9, 3) := by decide +kernel
theorem dX4_init_12 : decode cX4_init 12 = .ok (.aload_n 0, 1) := by decide +kernel
theorem dX4_init_13 : decode cX4_init 13 = .ok (.iconst (-1), 1) := by decide +kernel
theorem dX4_init_14 : decode cX4_init 14 = .ok (.putfield 15, 3) := by decide +kernel
theorem dX4_init_17 : decode cX4_init 17 = .ok (.aload_n 0, 1) := by decide +kernel
theorem dX4_init_18 : decode cX4_init 18 = .ok (.iconst 0, 1) := by decide +kernel
theorem dX4_init_19 : decode cX4_init 19 = .ok (.putfield 19, 3) := by decide +kernel
theorem dX4_init_22 : decode cX4_init 22 = .ok (.return_, 1) := by decide +kernel
theorem dX4_become_0 : decode cX4_become 0 = .ok (.aload_n 0, 1) := by decide +kernel
theorem dX4_become_1 : decode cX4_become 1 = .ok (.iload_n 1, 1) := by decide +kernel
theorem dX4_become_2 : decode cX4_become 2 = .ok (.putfield 15, 3) := by decide +kernel
theorem dX4_become_5 : decode cX4_become 5 = .ok (.aload_n 0, 1) := by decide +kernel
theorem dX4_become_6 : decode cX4_become 6 = .ok (.iconst 0, 1) := by decide +kernel
theorem dX4_become_7 : decode cX4_become 7 = .ok (.bipush 40, 2) := by decide +kernel
theorem dX4_become_9 : decode cX4_become 9 = .ok (.iload_n 2, 1) := by decide +kernel
theorem dX4_become_10 : decode cX4_become 10 = .ok (.invokestatic 22, 3) := by decide +kernel
theorem dX4_become_13 : decode cX4_become 13 = .ok (.invokestatic 28, 3) := by decide +kernel
theorem dX4_become_16 : decode cX4_become 16 = .ok (.putfield 19, 3) := by decide +kernel
theorem dX4_become_19 : decode cX4_become 19 = .ok (.iconst 0, 1) := by decide +kernel
theorem dX4_become_20 : decode cX4_become 20 = .ok (.istore_n 3, 1) := by decide +kernel
theorem dX4_become_21 : decode cX4_become 21 = .ok (.iload_n 3, 1) := by decide +kernel
theorem dX4_become_22 : decode cX4_become 22 = .ok (.bipush 40, 2) := by decide +kernel
theorem dX4_become_24 : decode cX4_become 24 = .ok (.if_icmp .ge 16, 3) := by decide +kernel
theorem dX4_become_27 : decode cX4_become 27 = .ok (.aload_n 0, 1) := by decide +kernel
theorem dX4_become_28 : decode cX4_become 28 = .ok (.getfield 9, 3) := by decide +kernel
theorem dX4_become_31 : decode cX4_become 31 = .ok (.iload_n 3, 1) := by decide +kernel
theorem dX4_become_32 : decode cX4_become 32 = .ok (.iconst 0, 1) := by decide +kernel
theorem dX4_become_33 : decode cX4_become 33 = .ok (.iastore, 1) := by decide +kernel
theorem dX4_become_34 : decode cX4_become 34 = .ok (.iinc 3 1, 3) := by decide +kernel
theorem dX4_become_37 : decode cX4_become 37 = .ok (.goto (-16), 3) := by decide +kernel
theorem dX4_become_40 : decode cX4_become 40 = .ok (.return_, 1) := by decide +kernel
theorem dX4_holds_0 : decode cX4_holds 0 = .ok (.iload_n 1, 1) := by decide +kernel
theorem dX4_holds_1 : decode cX4_holds 1 = .ok (.iconst 0, 1) := by decide +kernel
theorem dX4_holds_2 : decode cX4_holds 2 = .ok (.aload_n 0, 1) := by decide +kernel
theorem dX4_holds_3 : decode cX4_holds 3 = .ok (.getfield 19, 3) := by decide +kernel
theorem dX4_holds_6 : decode cX4_holds 6 = .ok (.iconst 1, 1) := by decide +kernel
theorem dX4_holds_7 : decode cX4_holds 7 = .ok (.isub, 1) := by decide +kernel
theorem dX4_holds_8 : decode cX4_holds 8 = .ok (.invokestatic 31, 3) := by decide +kernel
theorem dX4_holds_11 : decode cX4_holds 11 = .ok (.ireturn, 1) := by decide +kernel
theorem dX4_holdsStretch_0 : decode cX4_holdsStretch 0 = .ok (.iload_n 2, 1) := by decide +kernel
theorem dX4_holdsStretch_1 : decode cX4_holdsStretch 1 = .ok (.ifCond .lt 29, 3) := by decide +kernel
theorem dX4_holdsStretch_4 : decode cX4_holdsStretch 4 = .ok (.iload_n 2, 1) := by decide +kernel
theorem dX4_holdsStretch_5 : decode cX4_holdsStretch 5 = .ok (.aload_n 0, 1) := by decide +kernel
theorem dX4_holdsStretch_6 : decode cX4_holdsStretch 6 = .ok (.getfield 19, 3) := by decide +kernel
theorem dX4_holdsStretch_9 : decode cX4_holdsStretch 9 = .ok (.if_icmp .gt 21, 3) := by decide +kernel
theorem dX4_holdsStretch_12 : decode cX4_holdsStretch 12 = .ok (.iload_n 1, 1) := by decide +kernel
theorem dX4_holdsStretch_13 : decode cX4_holdsStretch 13 = .ok (.ifCond .lt 17, 3) := by decide +kernel
theorem dX4_holdsStretch_16 : decode cX4_holdsStretch 16 = .ok (.iload_n 1, 1) := by decide +kernel
theorem dX4_holdsStretch_17 : decode cX4_holdsStretch 17 = .ok (.aload_n 0, 1) := by decide +kernel
theorem dX4_holdsStretch_18 : decode cX4_holdsStretch 18 = .ok (.getfield 19, 3) := by decide +kernel
theorem dX4_holdsStretch_21 : decode cX4_holdsStretch 21 = .ok (.iload_n 2, 1) := by decide +kernel
theorem dX4_holdsStretch_22 : decode cX4_holdsStretch 22 = .ok (.isub, 1) := by decide +kernel
theorem dX4_holdsStretch_23 : decode cX4_holdsStretch 23 = .ok (.if_icmp .gt 7, 3) := by decide +kernel
theorem dX4_holdsStretch_26 : decode cX4_holdsStretch 26 = .ok (.iconst 1, 1) := by decide +kernel
theorem dX4_holdsStretch_27 : decode cX4_holdsStretch 27 = .ok (.goto 4, 3) := by decide +kernel
theorem dX4_holdsStretch_30 : decode cX4_holdsStretch 30 = .ok (.iconst 0, 1) := by decide +kernel
theorem dX4_holdsStretch_31 : decode cX4_holdsStretch 31 = .ok (.ireturn, 1) := by decide +kernel
theorem dX4_write_0 : decode cX4_write 0 = .ok (.aload_n 0, 1) := by decide +kernel
theorem dX4_write_1 : decode cX4_write 1 = .ok (.iload_n 1, 1) := by decide +kernel
theorem dX4_write_2 : decode cX4_write 2 = .ok (.invokevirtual 35, 3) := by decide +kernel
theorem dX4_write_5 : decode cX4_write 5 = .ok (.ifCond .ne 4, 3) := by decide +kernel
theorem dX4_write_8 : decode cX4_write 8 = .ok (.return_, 1) := by decide +kernel
theorem dX4_write_9 : decode cX4_write 9 = .ok (.aload_n 0, 1) := by decide +kernel
theorem dX4_write_10 : decode cX4_write 10 = .ok (.getfield 15, 3) := by decide +kernel
theorem dX4_write_13 : decode cX4_write 13 = .ok (.lookupswitch 49 #[(0, 27), (1, 38)], 27) := by decide +kernel
theorem dX4_write_40 : decode cX4_write 40 = .ok (.aload_n 0, 1) := by decide +kernel
theorem dX4_write_41 : decode cX4_write 41 = .ok (.getfield 9, 3) := by decide +kernel
theorem dX4_write_44 : decode cX4_write 44 = .ok (.iload_n 1, 1) := by decide +kernel
theorem dX4_write_45 : decode cX4_write 45 = .ok (.iload_n 2, 1) := by decide +kernel
theorem dX4_write_46 : decode cX4_write 46 = .ok (.i2b, 1) := by decide +kernel
theorem dX4_write_47 : decode cX4_write 47 = .ok (.iastore, 1) := by decide +kernel
theorem dX4_write_48 : decode cX4_write 48 = .ok (.goto 21, 3) := by decide +kernel
theorem dX4_write_51 : decode cX4_write 51 = .ok (.aload_n 0, 1) := by decide +kernel
theorem dX4_write_52 : decode cX4_write 52 = .ok (.getfield 9, 3) := by decide +kernel
theorem dX4_write_55 : decode cX4_write 55 = .ok (.iload_n 1, 1) := by decide +kernel
theorem dX4_write_56 : decode cX4_write 56 = .ok (.iload_n 2, 1) := by decide +kernel
theorem dX4_write_57 : decode cX4_write 57 = .ok (.i2s, 1) := by decide +kernel
theorem dX4_write_58 : decode cX4_write 58 = .ok (.iastore, 1) := by decide +kernel
theorem dX4_write_59 : decode cX4_write 59 = .ok (.goto 10, 3) := by decide +kernel
theorem dX4_write_62 : decode cX4_write 62 = .ok (.aload_n 0, 1) := by decide +kernel
theorem dX4_write_63 : decode cX4_write 63 = .ok (.getfield 9, 3) := by decide +kernel
theorem dX4_write_66 : decode cX4_write 66 = .ok (.iload_n 1, 1) := by decide +kernel
theorem dX4_write_67 : decode cX4_write 67 = .ok (.iload_n 2, 1) := by decide +kernel
theorem dX4_write_68 : decode cX4_write 68 = .ok (.iastore, 1) := by decide +kernel
theorem dX4_write_69 : decode cX4_write 69 = .ok (.return_, 1) := by decide +kernel
theorem dX5_init_0 : decode cX5_init 0 = .ok (.aload_n 0, 1) := by decide +kernel
theorem dX5_init_1 : decode cX5_init 1 = .ok (.invokespecial 3, 3) := by decide +kernel
theorem dX5_init_4 : decode cX5_init 4 = .ok (.aload_n 0, 1) := by decide +kernel
theorem dX5_init_5 : decode cX5_init 5 = .ok (.sipush 160, 3) := by decide +kernel
theorem dX5_init_8 : decode cX5_init 8 = .ok (.newarray .int, 2) := by decide +kernel
theorem dX5_init_10 : decode cX5_init 10 = .ok (.putfield 9, 3) := by decide +kernel
theorem dX5_init_13 : decode cX5_init 13 = .ok (.aload_n 0, 1) := by decide +kernel
theorem dX5_init_14 : decode cX5_init 14 = .ok (.iconst 3, 1) := by decide +kernel
theorem dX5_init_15 : decode cX5_init 15 = .ok (.newarray .int, 2) := by decide +kernel
theorem dX5_init_17 : decode cX5_init 17 = .ok (.putfield 15, 3) := by decide +kernel
theorem dX5_init_20 : decode cX5_init 20 = .ok (.aload_n 0, 1) := by decide +kernel
theorem dX5_init_21 : decode cX5_init 21 = .ok (.iconst 0, 1) := by decide +kernel
theorem dX5_init_22 : decode cX5_init 22 = .ok (.putfield 18, 3) := by decide +kernel
theorem dX5_init_25 : decode cX5_init 25 = .ok (.aload_n 0, 1) := by decide +kernel
theorem dX5_init_26 : decode cX5_init 26 = .ok (.sipush 160, 3) := by decide +kernel
theorem dX5_init_29 : decode cX5_init 29 = .ok (.newarray .int, 2) := by decide +kernel
theorem dX5_init_31 : decode cX5_init 31 = .ok (.putfield 22, 3) := by decide +kernel
theorem dX5_init_34 : decode cX5_init 34 = .ok (.aload_n 0, 1) := by decide +kernel
theorem dX5_init_35 : decode cX5_init 35 = .ok (.iconst 0, 1) := by decide +kernel
theorem dX5_init_36 : decode cX5_init 36 = .ok (.putfield 25, 3) := by decide +kernel
theorem dX5_init_39 : decode cX5_init 39 = .ok (.return_, 1) := by decide +kernel
theorem dX5_clear_0 : decode cX5_clear 0 = .ok (.aload_n 0, 1) := by decide +kernel
theorem dX5_clear_1 : decode cX5_clear 1 = .ok (.iconst 0, 1) := by decide +kernel
theorem dX5_clear_2 : decode cX5_clear 2 = .ok (.putfield 18, 3) := by decide +kernel
theorem dX5_clear_5 : decode cX5_clear 5 = .ok (.return_, 1) := by decide +kernel
theorem dX5_addToken_0 : decode cX5_addToken 0 = .ok (.aload_n 0, 1) := by decide +kernel
theorem dX5_addToken_1 : decode cX5_addToken 1 = .ok (.getfield 18, 3) := by decide +kernel
theorem dX5_addToken_4 : decode cX5_addToken 4 = .ok (.sipush 160, 3) := by decide +kernel
theorem dX5_addToken_7 : decode cX5_addToken 7 = .ok (.if_icmp .ge 23, 3) := by decide +kernel
theorem dX5_addToken_10 : decode cX5_addToken 10 = .ok (.aload_n 0, 1) := by decide +kernel
theorem dX5_addToken_11 : decode cX5_addToken 11 = .ok (.getfield 9, 3) := by decide +kernel
theorem dX5_addToken_14 : decode cX5_addToken 14 = .ok (.aload_n 0, 1) := by decide +kernel
theorem dX5_addToken_15 : decode cX5_addToken 15 = .ok (.getfield 18, 3) := by decide +kernel
theorem dX5_addToken_18 : decode cX5_addToken 18 = .ok (.iload_n 1, 1) := by decide +kernel
theorem dX5_addToken_19 : decode cX5_addToken 19 = .ok (.iastore, 1) := by decide +kernel
theorem dX5_addToken_20 : decode cX5_addToken 20 = .ok (.aload_n 0, 1) := by decide +kernel
theorem dX5_addToken_21 : decode cX5_addToken 21 = .ok (.dup, 1) := by decide +kernel
theorem dX5_addToken_22 : decode cX5_addToken 22 = .ok (.getfield 18, 3) := by decide +kernel
theorem dX5_addToken_25 : decode cX5_addToken 25 = .ok (.iconst 1, 1) := by decide +kernel
theorem dX5_addToken_26 : decode cX5_addToken 26 = .ok (.iadd, 1) := by decide +kernel
theorem dX5_addToken_27 : decode cX5_addToken 27 = .ok (.putfield 18, 3) := by decide +kernel
theorem dX5_addToken_30 : decode cX5_addToken 30 = .ok (.return_, 1) := by decide +kernel
theorem dX5_addNumber_0 : decode cX5_addNumber 0 = .ok (.aload_n 0, 1) := by decide +kernel
theorem dX5_addNumber_1 : decode cX5_addNumber 1 = .ok (.bipush 32, 2) := by decide +kernel
theorem dX5_addNumber_3 : decode cX5_addNumber 3 = .ok (.iload_n 1, 1) := by decide +kernel
theorem dX5_addNumber_4 : decode cX5_addNumber 4 = .ok (.iadd, 1) := by decide +kernel
theorem dX5_addNumber_5 : decode cX5_addNumber 5 = .ok (.invokevirtual 28, 3) := by decide +kernel
theorem dX5_addNumber_8 : decode cX5_addNumber 8 = .ok (.return_, 1) := by decide +kernel
theorem dX5_endPart_0 : decode cX5_endPart 0 = .ok (.iload_n 1, 1) := by decide +kernel
theorem dX5_endPart_1 : decode cX5_endPart 1 = .ok (.iconst 0, 1) := by decide +kernel
theorem dX5_endPart_2 : decode cX5_endPart 2 = .ok (.iconst 2, 1) := by decide +kernel
theorem dX5_endPart_3 : decode cX5_endPart 3 = .ok (.invokestatic 32, 3) := by decide +kernel
theorem dX5_endPart_6 : decode cX5_endPart 6 = .ok (.ifCond .eq 13, 3) := by decide +kernel
theorem dX5_endPart_9 : decode cX5_endPart 9 = .ok (.aload_n 0, 1) := by decide +kernel
theorem dX5_endPart_10 : decode cX5_endPart 10 = .ok (.getfield 15, 3) := by decide +kernel
theorem dX5_endPart_13 : decode cX5_endPart 13 = .ok (.iload_n 1, 1) := by decide +kernel
theorem dX5_endPart_14 : decode cX5_endPart 14 = .ok (.aload_n 0, 1) := by decide +kernel
theorem dX5_endPart_15 : decode cX5_endPart 15 = .ok (.getfield 18, 3) := by decide +kernel
theorem dX5_endPart_18 : decode cX5_endPart 18 = .ok (.iastore, 1) := by decide +kernel
theorem dX5_endPart_19 : decode cX5_endPart 19 = .ok (.return_, 1) := by decide +kernel
theorem dX5_become_0 : decode cX5_become 0 = .ok (.aload_n 0, 1) := by decide +kernel
theorem dX5_become_1 : decode cX5_become 1 = .ok (.aload_n 1, 1) := by decide +kernel
theorem dX5_become_2 : decode cX5_become 2 = .ok (.getfield 18, 3) := by decide +kernel
theorem dX5_become_5 : decode cX5_become 5 = .ok (.putfield 18, 3) := by decide +kernel
theorem dX5_become_8 : decode cX5_become 8 = .ok (.iconst 0, 1) := by decide +kernel
theorem dX5_become_9 : decode cX5_become 9 = .ok (.istore_n 2, 1) := by decide +kernel
theorem dX5_become_10 : decode cX5_become 10 = .ok (.iload_n 2, 1) := by decide +kernel
theorem dX5_become_11 : decode cX5_become 11 = .ok (.aload_n 0, 1) := by decide +kernel
theorem dX5_become_12 : decode cX5_become 12 = .ok (.getfield 18, 3) := by decide +kernel
theorem dX5_become_15 : decode cX5_become 15 = .ok (.if_icmp .ge 21, 3) := by decide +kernel
theorem dX5_become_18 : decode cX5_become 18 = .ok (.aload_n 0, 1) := by decide +kernel
theorem dX5_become_19 : decode cX5_become 19 = .ok (.getfield 9, 3) := by decide +kernel
theorem dX5_become_22 : decode cX5_become 22 = .ok (.iload_n 2, 1) := by decide +kernel
theorem dX5_become_23 : decode cX5_become 23 = .ok (.aload_n 1, 1) := by decide +kernel
theorem dX5_become_24 : decode cX5_become 24 = .ok (.getfield 9, 3) := by decide +kernel
theorem dX5_become_27 : decode cX5_become 27 = .ok (.iload_n 2, 1) := by decide +kernel
theorem dX5_become_28 : decode cX5_become 28 = .ok (.iaload, 1) := by decide +kernel
theorem dX5_become_29 : decode cX5_become 29 = .ok (.iastore, 1) := by decide +kernel
theorem dX5_become_30 : decode cX5_become 30 = .ok (.iinc 2 1, 3) := by decide +kernel
theorem dX5_become_33 : decode cX5_become 33 = .ok (.goto (-23), 3) := by decide +kernel
theorem dX5_become_36 : decode cX5_become 36 = .ok (.iconst 0, 1) := by decide +kernel
theorem dX5_become_37 : decode cX5_become 37 = .ok (.istore_n 2, 1) := by decide +kernel
theorem dX5_become_38 : decode cX5_become 38 = .ok (.iload_n 2, 1) := by decide +kernel
theorem dX5_become_39 : decode cX5_become 39 = .ok (.iconst 3, 1) := by decide +kernel
theorem dX5_become_40 : decode cX5_become 40 = .ok (.if_icmp .ge 21, 3) := by decide +kernel
theorem dX5_become_43 : decode cX5_become 43 = .ok (.aload_n 0, 1) := by decide +kernel
theorem dX5_become_44 : decode cX5_become 44 = .ok (.getfield 15, 3) := by decide +kernel
theorem dX5_become_47 : decode cX5_become 47 = .ok (.iload_n 2, 1) := by decide +kernel
theorem dX5_become_48 : decode cX5_become 48 = .ok (.aload_n 1, 1) := by decide +kernel
theorem dX5_become_49 : decode cX5_become 49 = .ok (.getfield 15, 3) := by decide +kernel
theorem dX5_become_52 : decode cX5_become 52 = .ok (.iload_n 2, 1) := by decide +kernel
theorem dX5_become_53 : decode cX5_become 53 = .ok (.iaload, 1) := by decide +kernel
theorem dX5_become_54 : decode cX5_become 54 = .ok (.iastore, 1) := by decide +kernel
theorem dX5_become_55 : decode cX5_become 55 = .ok (.iinc 2 1, 3) := by decide +kernel
theorem dX5_become_58 : decode cX5_become 58 = .ok (.goto (-20), 3) := by decide +kernel
theorem dX5_become_61 : decode cX5_become 61 = .ok (.return_, 1) := by decide +kernel
theorem dX5_valueOf_0 : decode cX5_valueOf 0 = .ok (.iload_n 1, 1) := by decide +kernel
theorem dX5_valueOf_1 : decode cX5_valueOf 1 = .ok (.iconst 0, 1) := by decide +kernel
theorem dX5_valueOf_2 : decode cX5_valueOf 2 = .ok (.iconst 2, 1) := by decide +kernel
theorem dX5_valueOf_3 : decode cX5_valueOf 3 = .ok (.invokestatic 32, 3) := by decide +kernel
theorem dX5_valueOf_6 : decode cX5_valueOf 6 = .ok (.ifCond .eq 10, 3) := by decide +kernel
theorem dX5_valueOf_9 : decode cX5_valueOf 9 = .ok (.aload_n 2, 1) := by decide +kernel
theorem dX5_valueOf_10 : decode cX5_valueOf 10 = .ok (.arraylength, 1) := by decide +kernel
theorem dX5_valueOf_11 : decode cX5_valueOf 11 = .ok (.bipush 6, 2) := by decide +kernel
theorem dX5_valueOf_13 : decode cX5_valueOf 13 = .ok (.if_icmp .ge 5, 3) := by decide +kernel
theorem dX5_valueOf_16 : decode cX5_valueOf 16 = .ok (.iconst 0, 1) := by decide +kernel
theorem dX5_valueOf_17 : decode cX5_valueOf 17 = .ok (.ireturn, 1) := by decide +kernel
theorem dX5_valueOf_18 : decode cX5_valueOf 18 = .ok (.aload_n 0, 1) := by decide +kernel
theorem dX5_valueOf_19 : decode cX5_valueOf 19 = .ok (.iconst 0, 1) := by decide +kernel
theorem dX5_valueOf_20 : decode cX5_valueOf 20 = .ok (.putfield 25, 3) := by decide +kernel
theorem dX5_valueOf_23 : decode cX5_valueOf 23 = .ok (.iload_n 1, 1) := by decide +kernel
theorem dX5_valueOf_24 : decode cX5_valueOf 24 = .ok (.ifCond .ne 7, 3) := by decide +kernel
theorem dX5_valueOf_27 : decode cX5_valueOf 27 = .ok (.iconst 0, 1) := by decide +kernel
theorem dX5_valueOf_28 : decode cX5_valueOf 28 = .ok (.goto 11, 3) := by decide +kernel
theorem dX5_valueOf_31 : decode cX5_valueOf 31 = .ok (.aload_n 0, 1) := by decide +kernel
theorem dX5_valueOf_32 : decode cX5_valueOf 32 = .ok (.getfield 15, 3) := by decide +kernel
theorem dX5_valueOf_35 : decode cX5_valueOf 35 = .ok (.iload_n 1, 1) := by decide +kernel
theorem dX5_valueOf_36 : decode cX5_valueOf 36 = .ok (.iconst 1, 1) := by decide +kernel
theorem dX5_valueOf_37 : decode cX5_valueOf 37 = .ok (.isub, 1) := by decide +kernel
theorem dX5_valueOf_38 : decode cX5_valueOf 38 = .ok (.iaload, 1) := by decide +kernel
theorem dX5_valueOf_39 : decode cX5_valueOf 39 = .ok (.istore_n 3, 1) := by decide +kernel
theorem dX5_valueOf_40 : decode cX5_valueOf 40 = .ok (.iload_n 3, 1) := by decide +kernel
theorem dX5_valueOf_41 : decode cX5_valueOf 41 = .ok (.aload_n 0, 1) := by decide +kernel
theorem dX5_valueOf_42 : decode cX5_valueOf 42 = .ok (.getfield 15, 3) := by decide +kernel
theorem dX5_valueOf_45 : decode cX5_valueOf 45 = .ok (.iload_n 1, 1) := by decide +kernel
theorem dX5_valueOf_46 : decode cX5_valueOf 46 = .ok (.iaload, 1) := by decide +kernel
theorem dX5_valueOf_47 : decode cX5_valueOf 47 = .ok (.if_icmp .ge 20, 3) := by decide +kernel
theorem dX5_valueOf_50 : decode cX5_valueOf 50 = .ok (.aload_n 0, 1) := by decide +kernel
theorem dX5_valueOf_51 : decode cX5_valueOf 51 = .ok (.aload_n 0, 1) := by decide +kernel
theorem dX5_valueOf_52 : decode cX5_valueOf 52 = .ok (.getfield 9, 3) := by decide +kernel
theorem dX5_valueOf_55 : decode cX5_valueOf 55 = .ok (.iload_n 3, 1) := by decide +kernel
theorem dX5_valueOf_56 : decode cX5_valueOf 56 = .ok (.iaload, 1) := by decide +kernel
theorem dX5_valueOf_57 : decode cX5_valueOf 57 = .ok (.aload_n 2, 1) := by decide +kernel
theorem dX5_valueOf_58 : decode cX5_valueOf 58 = .ok (.invokevirtual 38, 3) := by decide +kernel
theorem dX5_valueOf_61 : decode cX5_valueOf 61 = .ok (.iinc 3 1, 3) := by decide +kernel
theorem dX5_valueOf_64 : decode cX5_valueOf 64 = .ok (.goto (-24), 3) := by decide +kernel
theorem dX5_valueOf_67 : decode cX5_valueOf 67 = .ok (.aload_n 0, 1) := by decide +kernel
theorem dX5_valueOf_68 : decode cX5_valueOf 68 = .ok (.invokevirtual 42, 3) := by decide +kernel
theorem dX5_valueOf_71 : decode cX5_valueOf 71 = .ok (.ireturn, 1) := by decide +kernel
theorem dX5_work_0 : decode cX5_work 0 = .ok (.iload_n 1, 1) := by decide +kernel
theorem dX5_work_1 : decode cX5_work 1 = .ok (.bipush 32, 2) := by decide +kernel
theorem dX5_work_3 : decode cX5_work 3 = .ok (.if_icmp .lt 14, 3) := by decide +kernel
theorem dX5_work_6 : decode cX5_work 6 = .ok (.aload_n 0, 1) := by decide +kernel
theorem dX5_work_7 : decode cX5_work 7 = .ok (.iload_n 1, 1) := by decide +kernel
theorem dX5_work_8 : decode cX5_work 8 = .ok (.bipush 32, 2) := by decide +kernel
theorem dX5_work_10 : decode cX5_work 10 = .ok (.isub, 1) := by decide +kernel
theorem dX5_work_11 : decode cX5_work 11 = .ok (.invokevirtual 46, 3) := by decide +kernel
theorem dX5_work_14 : decode cX5_work 14 = .ok (.goto 87, 3) := by decide +kernel
theorem dX5_work_17 : decode cX5_work 17 = .ok (.iload_n 1, 1) := by decide +kernel
theorem dX5_work_18 : decode cX5_work 18 = .ok (.iconst 0, 1) := by decide +kernel
theorem dX5_work_19 : decode cX5_work 19 = .ok (.iconst 5, 1) := by decide +kernel
theorem dX5_work_20 : decode cX5_work 20 = .ok (.invokestatic 32, 3) := by decide +kernel
theorem dX5_work_23 : decode cX5_work 23 = .ok (.ifCond .eq 13, 3) := by decide +kernel
theorem dX5_work_26 : decode cX5_work 26 = .ok (.aload_n 0, 1) := by decide +kernel
theorem dX5_work_27 : decode cX5_work 27 = .ok (.aload_n 2, 1) := by decide +kernel
theorem dX5_work_28 : decode cX5_work 28 = .ok (.iload_n 1, 1) := by decide +kernel
theorem dX5_work_29 : decode cX5_work 29 = .ok (.iaload, 1) := by decide +kernel
theorem dX5_work_30 : decode cX5_work 30 = .ok (.invokevirtual 46, 3) := by decide +kernel
theorem dX5_work_33 : decode cX5_work 33 = .ok (.goto 68, 3) := by decide +kernel
theorem dX5_work_36 : decode cX5_work 36 = .ok (.iload_n 1, 1) := by decide +kernel
theorem dX5_work_37 : decode cX5_work 37 = .ok (.bipush 11, 2) := by decide +kernel
theorem dX5_work_39 : decode cX5_work 39 = .ok (.if_icmp .ne 22, 3) := by decide +kernel
theorem dX5_work_42 : decode cX5_work 42 = .ok (.aload_n 0, 1) := by decide +kernel
theorem dX5_work_43 : decode cX5_work 43 = .ok (.aload_n 0, 1) := by decide +kernel
theorem dX5_work_44 : decode cX5_work 44 = .ok (.invokevirtual 42, 3) := by decide +kernel
theorem dX5_work_47 : decode cX5_work 47 = .ok (.ifCond .ne 7, 3) := by decide +kernel
theorem dX5_work_50 : decode cX5_work 50 = .ok (.iconst 1, 1) := by decide +kernel
theorem dX5_work_51 : decode cX5_work 51 = .ok (.goto 4, 3) := by decide +kernel
theorem dX5_work_54 : decode cX5_work 54 = .ok (.iconst 0, 1) := by decide +kernel
theorem dX5_work_55 : decode cX5_work 55 = .ok (.invokevirtual 46, 3) := by decide +kernel
theorem dX5_work_58 : decode cX5_work 58 = .ok (.goto 43, 3) := by decide +kernel
theorem dX5_work_61 : decode cX5_work 61 = .ok (.iload_n 1, 1) := by decide +kernel
theorem dX5_work_62 : decode cX5_work 62 = .ok (.bipush 20, 2) := by decide +kernel
theorem dX5_work_64 : decode cX5_work 64 = .ok (.if_icmp .ne 15, 3) := by decide +kernel
theorem dX5_work_67 : decode cX5_work 67 = .ok (.aload_n 0, 1) := by decide +kernel
theorem dX5_work_68 : decode cX5_work 68 = .ok (.aload_n 0, 1) := by decide +kernel
theorem dX5_work_69 : decode cX5_work 69 = .ok (.invokevirtual 42, 3) := by decide +kernel
theorem dX5_work_72 : decode cX5_work 72 = .ok (.ineg, 1) := by decide +kernel
theorem dX5_work_73 : decode cX5_work 73 = .ok (.invokevirtual 46, 3) := by decide +kernel
theorem dX5_work_76 : decode cX5_work 76 = .ok (.goto 25, 3) := by decide +kernel
theorem dX5_work_79 : decode cX5_work 79 = .ok (.aload_n 0, 1) := by decide +kernel
theorem dX5_work_80 : decode cX5_work 80 = .ok (.invokevirtual 42, 3) := by decide +kernel
theorem dX5_work_83 : decode cX5_work 83 = .ok (.istore_n 3, 1) := by decide +kernel
theorem dX5_work_84 : decode cX5_work 84 = .ok (.aload_n 0, 1) := by decide +kernel
theorem dX5_work_85 : decode cX5_work 85 = .ok (.invokevirtual 42, 3) := by decide +kernel
theorem dX5_work_88 : decode cX5_work 88 = .ok (.istore 4, 2) := by decide +kernel
theorem dX5_work_90 : decode cX5_work 90 = .ok (.aload_n 0, 1) := by decide +kernel
theorem dX5_work_91 : decode cX5_work 91 = .ok (.iload_n 1, 1) := by decide +kernel
theorem dX5_work_92 : decode cX5_work 92 = .ok (.iload 4, 2) := by decide +kernel
theorem dX5_work_94 : decode cX5_work 94 = .ok (.iload_n 3, 1) := by decide +kernel
theorem dX5_work_95 : decode cX5_work 95 = .ok (.invokestatic 49, 3) := by decide +kernel
theorem dX5_work_98 : decode cX5_work 98 = .ok (.invokevirtual 46, 3) := by decide +kernel
theorem dX5_work_101 : decode cX5_work 101 = .ok (.return_, 1) := by decide +kernel
theorem dX5_join_0 : decode cX5_join 0 = .ok (.iload_n 0, 1) := by decide +kernel
theorem dX5_join_1 : decode cX5_join 1 = .ok (.tableswitch 121 9 19 #[59, 73, 121, 121, 121, 121, 109, 113, 117, 87, 98], 59) := by decide +kernel
theorem dX5_join_60 : decode cX5_join 60 = .ok (.iload_n 1, 1) := by decide +kernel
theorem dX5_join_61 : decode cX5_join 61 = .ok (.ifCond .ne 7, 3) := by decide +kernel
theorem dX5_join_64 : decode cX5_join 64 = .ok (.iload_n 2, 1) := by decide +kernel
theorem dX5_join_65 : decode cX5_join 65 = .ok (.ifCond .eq 7, 3) := by decide +kernel
theorem dX5_join_68 : decode cX5_join 68 = .ok (.iconst 1, 1) := by decide +kernel
theorem dX5_join_69 : decode cX5_join 69 = .ok (.goto 4, 3) := by decide +kernel
theorem dX5_join_72 : decode cX5_join 72 = .ok (.iconst 0, 1) := by decide +kernel
theorem dX5_join_73 : decode cX5_join 73 = .ok (.ireturn, 1) := by decide +kernel
theorem dX5_join_74 : decode cX5_join 74 = .ok (.iload_n 1, 1) := by decide +kernel
theorem dX5_join_75 : decode cX5_join 75 = .ok (.ifCond .eq 11, 3) := by decide +kernel
theorem dX5_join_78 : decode cX5_join 78 = .ok (.iload_n 2, 1) := by decide +kernel
theorem dX5_join_79 : decode cX5_join 79 = .ok (.ifCond .eq 7, 3) := by decide +kernel
theorem dX5_join_82 : decode cX5_join 82 = .ok (.iconst 1, 1) := by decide +kernel
theorem dX5_join_83 : decode cX5_join 83 = .ok (.goto 4, 3) := by decide +kernel
theorem dX5_join_86 : decode cX5_join 86 = .ok (.iconst 0, 1) := by decide +kernel
theorem dX5_join_87 : decode cX5_join 87 = .ok (.ireturn, 1) := by decide +kernel
theorem dX5_join_88 : decode cX5_join 88 = .ok (.iload_n 1, 1) := by decide +kernel
theorem dX5_join_89 : decode cX5_join 89 = .ok (.iload_n 2, 1) := by decide +kernel
theorem dX5_join_90 : decode cX5_join 90 = .ok (.if_icmp .ge 7, 3) := by decide +kernel
theorem dX5_join_93 : decode cX5_join 93 = .ok (.iconst 1, 1) := by decide +kernel
theorem dX5_join_94 : decode cX5_join 94 = .ok (.goto 4, 3) := by decide +kernel
theorem dX5_join_97 : decode cX5_join 97 = .ok (.iconst 0, 1) := by decide +kernel
theorem dX5_join_98 : decode cX5_join 98 = .ok (.ireturn, 1) := by decide +kernel
theorem dX5_join_99 : decode cX5_join 99 = .ok (.iload_n 1, 1) := by decide +kernel
theorem dX5_join_100 : decode cX5_join 100 = .ok (.iload_n 2, 1) := by decide +kernel
theorem dX5_join_101 : decode cX5_join 101 = .ok (.if_icmp .ne 7, 3) := by decide +kernel
theorem dX5_join_104 : decode cX5_join 104 = .ok (.iconst 1, 1) := by decide +kernel
theorem dX5_join_105 : decode cX5_join 105 = .ok (.goto 4, 3) := by decide +kernel
theorem dX5_join_108 : decode cX5_join 108 = .ok (.iconst 0, 1) := by decide +kernel
theorem dX5_join_109 : decode cX5_join 109 = .ok (.ireturn, 1) := by decide +kernel
theorem dX5_join_110 : decode cX5_join 110 = .ok (.iload_n 1, 1) := by decide +kernel
theorem dX5_join_111 : decode cX5_join 111 = .ok (.iload_n 2, 1) := by decide +kernel
theorem dX5_join_112 : decode cX5_join 112 = .ok (.iadd, 1) := by decide +kernel
theorem dX5_join_113 : decode cX5_join 113 = .ok (.ireturn, 1) := by decide +kernel
theorem dX5_join_114 : decode cX5_join 114 = .ok (.iload_n 1, 1) := by decide +kernel
theorem dX5_join_115 : decode cX5_join 115 = .ok (.iload_n 2, 1) := by decide +kernel
theorem dX5_join_116 : decode cX5_join 116 = .ok (.isub, 1) := by decide +kernel
theorem dX5_join_117 : decode cX5_join 117 = .ok (.ireturn, 1) := by decide +kernel
theorem dX5_join_118 : decode cX5_join 118 = .ok (.iload_n 1, 1) := by decide +kernel
theorem dX5_join_119 : decode cX5_join 119 = .ok (.iload_n 2, 1) := by decide +kernel
theorem dX5_join_120 : decode cX5_join 120 = .ok (.imul, 1) := by decide +kernel
theorem dX5_join_121 : decode cX5_join 121 = .ok (.ireturn, 1) := by decide +kernel
theorem dX5_join_122 : decode cX5_join 122 = .ok (.iconst 0, 1) := by decide +kernel
theorem dX5_join_123 : decode cX5_join 123 = .ok (.ireturn, 1) := by decide +kernel
theorem dX5_push_0 : decode cX5_push 0 = .ok (.aload_n 0, 1) := by decide +kernel
theorem dX5_push_1 : decode cX5_push 1 = .ok (.getfield 25, 3) := by decide +kernel
theorem dX5_push_4 : decode cX5_push 4 = .ok (.sipush 160, 3) := by decide +kernel
theorem dX5_push_7 : decode cX5_push 7 = .ok (.if_icmp .ge 23, 3) := by decide +kernel
theorem dX5_push_10 : decode cX5_push 10 = .ok (.aload_n 0, 1) := by decide +kernel
theorem dX5_push_11 : decode cX5_push 11 = .ok (.getfield 22, 3) := by decide +kernel
theorem dX5_push_14 : decode cX5_push 14 = .ok (.aload_n 0, 1) := by decide +kernel
theorem dX5_push_15 : decode cX5_push 15 = .ok (.getfield 25, 3) := by decide +kernel
theorem dX5_push_18 : decode cX5_push 18 = .ok (.iload_n 1, 1) := by decide +kernel
theorem dX5_push_19 : decode cX5_push 19 = .ok (.iastore, 1) := by decide +kernel
theorem dX5_push_20 : decode cX5_push 20 = .ok (.aload_n 0, 1) := by decide +kernel
theorem dX5_push_21 : decode cX5_push 21 = .ok (.dup, 1) := by decide +kernel
theorem dX5_push_22 : decode cX5_push 22 = .ok (.getfield 25, 3) := by decide +kernel
theorem dX5_push_25 : decode cX5_push 25 = .ok (.iconst 1, 1) := by decide +kernel
theorem dX5_push_26 : decode cX5_push 26 = .ok (.iadd, 1) := by decide +kernel
theorem dX5_push_27 : decode cX5_push 27 = .ok (.putfield 25, 3) := by decide +kernel
theorem dX5_push_30 : decode cX5_push 30 = .ok (.return_, 1) := by decide +kernel
theorem dX5_pop_0 : decode cX5_pop 0 = .ok (.aload_n 0, 1) := by decide +kernel
theorem dX5_pop_1 : decode cX5_pop 1 = .ok (.getfield 25, 3) := by decide +kernel
theorem dX5_pop_4 : decode cX5_pop 4 = .ok (.ifCond .gt 5, 3) := by decide +kernel
theorem dX5_pop_7 : decode cX5_pop 7 = .ok (.iconst 0, 1) := by decide +kernel
theorem dX5_pop_8 : decode cX5_pop 8 = .ok (.ireturn, 1) := by decide +kernel
theorem dX5_pop_9 : decode cX5_pop 9 = .ok (.aload_n 0, 1) := by decide +kernel
theorem dX5_pop_10 : decode cX5_pop 10 = .ok (.dup, 1) := by decide +kernel
theorem dX5_pop_11 : decode cX5_pop 11 = .ok (.getfield 25, 3) := by decide +kernel
theorem dX5_pop_14 : decode cX5_pop 14 = .ok (.iconst 1, 1) := by decide +kernel
theorem dX5_pop_15 : decode cX5_pop 15 = .ok (.isub, 1) := by decide +kernel
theorem dX5_pop_16 : decode cX5_pop 16 = .ok (.putfield 25, 3) := by decide +kernel
theorem dX5_pop_19 : decode cX5_pop 19 = .ok (.aload_n 0, 1) := by decide +kernel
theorem dX5_pop_20 : decode cX5_pop 20 = .ok (.getfield 22, 3) := by decide +kernel
theorem dX5_pop_23 : decode cX5_pop 23 = .ok (.aload_n 0, 1) := by decide +kernel
theorem dX5_pop_24 : decode cX5_pop 24 = .ok (.getfield 25, 3) := by decide +kernel
theorem dX5_pop_27 : decode cX5_pop 27 = .ok (.iaload, 1) := by decide +kernel
theorem dX5_pop_28 : decode cX5_pop 28 = .ok (.ireturn, 1) := by decide +kernel
theorem dX6_spelling_0 : decode cX6_spelling 0 = .ok (.iload_n 0, 1) := by decide +kernel
theorem dX6_spelling_1 : decode cX6_spelling 1 = .ok (.tableswitch 99 0 11 #[63, 66, 69, 72, 75, 78, 81, 84, 87, 90, 93, 96], 63) := by decide +kernel
theorem dX6_spelling_64 : decode cX6_spelling 64 = .ok (.ldc 7, 2) := by decide +kernel
theorem dX6_spelling_66 : decode cX6_spelling 66 = .ok (.areturn, 1) := by decide +kernel
theorem dX6_spelling_67 : decode cX6_spelling 67 = .ok (.ldc 9, 2) := by decide +kernel
theorem dX6_spelling_69 : decode cX6_spelling 69 = .ok (.areturn, 1) := by decide +kernel
theorem dX6_spelling_70 : decode cX6_spelling 70 = .ok (.ldc 11, 2) := by decide +kernel
theorem dX6_spelling_72 : decode cX6_spelling 72 = .ok (.areturn, 1) := by decide +kernel
theorem dX6_spelling_73 : decode cX6_spelling 73 = .ok (.ldc 13, 2) := by decide +kernel
theorem dX6_spelling_75 : decode cX6_spelling 75 = .ok (.areturn, 1) := by decide +kernel
theorem dX6_spelling_76 : decode cX6_spelling 76 = .ok (.ldc 15, 2) := by decide +kernel
theorem dX6_spelling_78 : decode cX6_spelling 78 = .ok (.areturn, 1) := by decide +kernel
theorem dX6_spelling_79 : decode cX6_spelling 79 = .ok (.ldc 17, 2) := by decide +kernel
theorem dX6_spelling_81 : decode cX6_spelling 81 = .ok (.areturn, 1) := by decide +kernel
theorem dX6_spelling_82 : decode cX6_spelling 82 = .ok (.ldc 19, 2) := by decide +kernel
theorem dX6_spelling_84 : decode cX6_spelling 84 = .ok (.areturn, 1) := by decide +kernel
theorem dX6_spelling_85 : decode cX6_spelling 85 = .ok (.ldc 21, 2) := by decide +kernel
theorem dX6_spelling_87 : decode cX6_spelling 87 = .ok (.areturn, 1) := by decide +kernel
theorem dX6_spelling_88 : decode cX6_spelling 88 = .ok (.ldc 23, 2) := by decide +kernel
theorem dX6_spelling_90 : decode cX6_spelling 90 = .ok (.areturn, 1) := by decide +kernel
theorem dX6_spelling_91 : decode cX6_spelling 91 = .ok (.ldc 25, 2) := by decide +kernel
theorem dX6_spelling_93 : decode cX6_spelling 93 = .ok (.areturn, 1) := by decide +kernel
theorem dX6_spelling_94 : decode cX6_spelling 94 = .ok (.ldc 27, 2) := by decide +kernel
theorem dX6_spelling_96 : decode cX6_spelling 96 = .ok (.areturn, 1) := by decide +kernel
theorem dX6_spelling_97 : decode cX6_spelling 97 = .ok (.ldc 29, 2) := by decide +kernel
theorem dX6_spelling_99 : decode cX6_spelling 99 = .ok (.areturn, 1) := by decide +kernel
theorem dX6_spelling_100 : decode cX6_spelling 100 = .ok (.ldc 31, 2) := by decide +kernel
theorem dX6_spelling_102 : decode cX6_spelling 102 = .ok (.areturn, 1) := by decide +kernel
end
section
theorem dX2_init_0 : decode cX2_init 0 = .ok (.aload_n 0, 1) := by decide +kernel
theorem dX2_init_1 : decode cX2_init 1 = .ok (.invokespecial 3, 3) := by decide +kernel
theorem dX2_init_4 : decode cX2_init 4 = .ok (.aload_n 0, 1) := by decide +kernel
theorem dX2_init_5 : decode cX2_init 5 = .ok (.sipush 160, 3) := by decide +kernel
theorem dX2_init_8 : decode cX2_init 8 = .ok (.newarray .int, 2) := by decide +kernel
theorem dX2_init_10 : decode cX2_init 10 = .ok (.putfield 9, 3) := by decide +kernel
theorem dX2_init_13 : decode cX2_init 13 = .ok (.aload_n 0, 1) := by decide +kernel
theorem dX2_init_14 : decode cX2_init 14 = .ok (.new 15, 3) := by decide +kernel
theorem dX2_init_17 : decode cX2_init 17 = .ok (.dup, 1) := by decide +kernel
theorem dX2_init_18 : decode cX2_init 18 = .ok (.invokespecial 17, 3) := by decide +kernel
theorem dX2_init_21 : decode cX2_init 21 = .ok (.putfield 18, 3) := by decide +kernel
theorem dX2_init_24 : decode cX2_init 24 = .ok (.aload_n 0, 1) := by decide +kernel
theorem dX2_init_25 : decode cX2_init 25 = .ok (.iconst 0, 1) := by decide +kernel
theorem dX2_init_26 : decode cX2_init 26 = .ok (.putfield 22, 3) := by decide +kernel
theorem dX2_init_29 : decode cX2_init 29 = .ok (.aload_n 0, 1) := by decide +kernel
theorem dX2_init_30 : decode cX2_init 30 = .ok (.iconst 0, 1) := by decide +kernel
theorem dX2_init_31 : decode cX2_init 31 = .ok (.putfield 26, 3) := by decide +kernel
theorem dX2_init_34 : decode cX2_init 34 = .ok (.aload_n 0, 1) := by decide +kernel
theorem dX2_init_35 : decode cX2_init 35 = .ok (.bipush 22, 2) := by decide +kernel
theorem dX2_init_37 : decode cX2_init 37 = .ok (.putfield 31, 3) := by decide +kernel
theorem dX2_init_40 : decode cX2_init 40 = .ok (.aload_n 0, 1) := by decide +kernel
theorem dX2_init_41 : decode cX2_init 41 = .ok (.iconst 0, 1) := by decide +kernel
theorem dX2_init_42 : decode cX2_init 42 = .ok (.putfield 34, 3) := by decide +kernel
theorem dX2_init_45 : decode cX2_init 45 = .ok (.aload_n 0, 1) := by decide +kernel
theorem dX2_init_46 : decode cX2_init 46 = .ok (.iconst 0, 1) := by decide +kernel
theorem dX2_init_47 : decode cX2_init 47 = .ok (.putfield 37, 3) := by decide +kernel
theorem dX2_init_50 : decode cX2_init 50 = .ok (.return_, 1) := by decide +kernel
theorem dX2_append_0 : decode cX2_append 0 = .ok (.aload_n 0, 1) := by decide +kernel
theorem dX2_append_1 : decode cX2_append 1 = .ok (.getfield 22, 3) := by decide +kernel
theorem dX2_append_4 : decode cX2_append 4 = .ok (.sipush 160, 3) := by decide +kernel
theorem dX2_append_7 : decode cX2_append 7 = .ok (.if_icmp .ge 23, 3) := by decide +kernel
theorem dX2_append_10 : decode cX2_append 10 = .ok (.aload_n 0, 1) := by decide +kernel
theorem dX2_append_11 : decode cX2_append 11 = .ok (.getfield 9, 3) := by decide +kernel
theorem dX2_append_14 : decode cX2_append 14 = .ok (.aload_n 0, 1) := by decide +kernel
theorem dX2_append_15 : decode cX2_append 15 = .ok (.getfield 22, 3) := by decide +kernel
theorem dX2_append_18 : decode cX2_append 18 = .ok (.iload_n 1, 1) := by decide +kernel
theorem dX2_append_19 : decode cX2_append 19 = .ok (.iastore, 1) := by decide +kernel
theorem dX2_append_20 : decode cX2_append 20 = .ok (.aload_n 0, 1) := by decide +kernel
theorem dX2_append_21 : decode cX2_append 21 = .ok (.dup, 1) := by decide +kernel
theorem dX2_append_22 : decode cX2_append 22 = .ok (.getfield 22, 3) := by decide +kernel
theorem dX2_append_25 : decode cX2_append 25 = .ok (.iconst 1, 1) := by decide +kernel
theorem dX2_append_26 : decode cX2_append 26 = .ok (.iadd, 1) := by decide +kernel
theorem dX2_append_27 : decode cX2_append 27 = .ok (.putfield 22, 3) := by decide +kernel
theorem dX2_append_30 : decode cX2_append 30 = .ok (.return_, 1) := by decide +kernel
theorem dX2_readInto_0 : decode cX2_readInto 0 = .ok (.aload_n 0, 1) := by decide +kernel
theorem dX2_readInto_1 : decode cX2_readInto 1 = .ok (.getfield 18, 3) := by decide +kernel
theorem dX2_readInto_4 : decode cX2_readInto 4 = .ok (.invokevirtual 40, 3) := by decide +kernel
theorem dX2_readInto_7 : decode cX2_readInto 7 = .ok (.aload_n 0, 1) := by decide +kernel
theorem dX2_readInto_8 : decode cX2_readInto 8 = .ok (.iconst 0, 1) := by decide +kernel
theorem dX2_readInto_9 : decode cX2_readInto 9 = .ok (.putfield 26, 3) := by decide +kernel
theorem dX2_readInto_12 : decode cX2_readInto 12 = .ok (.aload_n 0, 1) := by decide +kernel
theorem dX2_readInto_13 : decode cX2_readInto 13 = .ok (.invokevirtual 43, 3) := by decide +kernel
theorem dX2_readInto_16 : decode cX2_readInto 16 = .ok (.iconst 1, 1) := by decide +kernel
theorem dX2_readInto_17 : decode cX2_readInto 17 = .ok (.istore_n 2, 1) := by decide +kernel
theorem dX2_readInto_18 : decode cX2_readInto 18 = .ok (.iconst 0, 1) := by decide +kernel
theorem dX2_readInto_19 : decode cX2_readInto 19 = .ok (.istore_n 3, 1) := by decide +kernel
theorem dX2_readInto_20 : decode cX2_readInto 20 = .ok (.iload_n 3, 1) := by decide +kernel
theorem dX2_readInto_21 : decode cX2_readInto 21 = .ok (.iconst 3, 1) := by decide +kernel
theorem dX2_readInto_22 : decode cX2_readInto 22 = .ok (.if_icmp .ge 55, 3) := by decide +kernel
theorem dX2_readInto_25 : decode cX2_readInto 25 = .ok (.iload_n 2, 1) := by decide +kernel
theorem dX2_readInto_26 : decode cX2_readInto 26 = .ok (.ifCond .eq 51, 3) := by decide +kernel
theorem dX2_readInto_29 : decode cX2_readInto 29 = .ok (.aload_n 0, 1) := by decide +kernel
theorem dX2_readInto_30 : decode cX2_readInto 30 = .ok (.bipush 6, 2) := by decide +kernel
theorem dX2_readInto_32 : decode cX2_readInto 32 = .ok (.iload_n 3, 1) := by decide +kernel
theorem dX2_readInto_33 : decode cX2_readInto 33 = .ok (.iadd, 1) := by decide +kernel
theorem dX2_readInto_34 : decode cX2_readInto 34 = .ok (.invokevirtual 46, 3) := by decide +kernel
theorem dX2_readInto_37 : decode cX2_readInto 37 = .ok (.ifCond .eq 24, 3) := by decide +kernel
theorem dX2_readInto_40 : decode cX2_readInto 40 = .ok (.aload_n 0, 1) := by decide +kernel
theorem dX2_readInto_41 : decode cX2_readInto 41 = .ok (.iconst 0, 1) := by decide +kernel
theorem dX2_readInto_42 : decode cX2_readInto 42 = .ok (.invokevirtual 50, 3) := by decide +kernel
theorem dX2_readInto_45 : decode cX2_readInto 45 = .ok (.ifCond .eq 16, 3) := by decide +kernel
theorem dX2_readInto_48 : decode cX2_readInto 48 = .ok (.aload_n 0, 1) := by decide +kernel
theorem dX2_readInto_49 : decode cX2_readInto 49 = .ok (.bipush 14, 2) := by decide +kernel
theorem dX2_readInto_51 : decode cX2_readInto 51 = .ok (.invokevirtual 46, 3) := by decide +kernel
theorem dX2_readInto_54 : decode cX2_readInto 54 = .ok (.ifCond .eq 7, 3) := by decide +kernel
theorem dX2_readInto_57 : decode cX2_readInto 57 = .ok (.iconst 1, 1) := by decide +kernel
theorem dX2_readInto_58 : decode cX2_readInto 58 = .ok (.goto 4, 3) := by decide +kernel
theorem dX2_readInto_61 : decode cX2_readInto 61 = .ok (.iconst 0, 1) := by decide +kernel
theorem dX2_readInto_62 : decode cX2_readInto 62 = .ok (.istore_n 2, 1) := by decide +kernel
theorem dX2_readInto_63 : decode cX2_readInto 63 = .ok (.aload_n 0, 1) := by decide +kernel
theorem dX2_readInto_64 : decode cX2_readInto 64 = .ok (.getfield 18, 3) := by decide +kernel
theorem dX2_readInto_67 : decode cX2_readInto 67 = .ok (.iload_n 3, 1) := by decide +kernel
theorem dX2_readInto_68 : decode cX2_readInto 68 = .ok (.invokevirtual 53, 3) := by decide +kernel
theorem dX2_readInto_71 : decode cX2_readInto 71 = .ok (.iinc 3 1, 3) := by decide +kernel
theorem dX2_readInto_74 : decode cX2_readInto 74 = .ok (.goto (-54), 3) := by decide +kernel
theorem dX2_readInto_77 : decode cX2_readInto 77 = .ok (.aload_n 0, 1) := by decide +kernel
theorem dX2_readInto_78 : decode cX2_readInto 78 = .ok (.iconst 0, 1) := by decide +kernel
theorem dX2_readInto_79 : decode cX2_readInto 79 = .ok (.putfield 22, 3) := by decide +kernel
theorem dX2_readInto_82 : decode cX2_readInto 82 = .ok (.iload_n 2, 1) := by decide +kernel
theorem dX2_readInto_83 : decode cX2_readInto 83 = .ok (.ifCond .eq 12, 3) := by decide +kernel
theorem dX2_readInto_86 : decode cX2_readInto 86 = .ok (.aload_n 0, 1) := by decide +kernel
theorem dX2_readInto_87 : decode cX2_readInto 87 = .ok (.getfield 31, 3) := by decide +kernel
theorem dX2_readInto_90 : decode cX2_readInto 90 = .ok (.bipush 22, 2) := by decide +kernel
theorem dX2_readInto_92 : decode cX2_readInto 92 = .ok (.if_icmp .eq 8, 3) := by decide +kernel
theorem dX2_readInto_95 : decode cX2_readInto 95 = .ok (.aload_n 0, 1) := by decide +kernel
theorem dX2_readInto_96 : decode cX2_readInto 96 = .ok (.getfield 34, 3) := by decide +kernel
theorem dX2_readInto_99 : decode cX2_readInto 99 = .ok (.ireturn, 1) := by decide +kernel
theorem dX2_readInto_100 : decode cX2_readInto 100 = .ok (.aload_n 1, 1) := by decide +kernel
theorem dX2_readInto_101 : decode cX2_readInto 101 = .ok (.aload_n 0, 1) := by decide +kernel
theorem dX2_readInto_102 : decode cX2_readInto 102 = .ok (.getfield 18, 3) := by decide +kernel
theorem dX2_readInto_105 : decode cX2_readInto 105 = .ok (.invokevirtual 57, 3) := by decide +kernel
theorem dX2_readInto_108 : decode cX2_readInto 108 = .ok (.iconst (-1), 1) := by decide +kernel
theorem dX2_readInto_109 : decode cX2_readInto 109 = .ok (.ireturn, 1) := by decide +kernel
theorem dX2_pass_0 : decode cX2_pass 0 = .ok (.aload_n 0, 1) := by decide +kernel
theorem dX2_pass_1 : decode cX2_pass 1 = .ok (.getfield 31, 3) := by decide +kernel
theorem dX2_pass_4 : decode cX2_pass 4 = .ok (.iload_n 1, 1) := by decide +kernel
theorem dX2_pass_5 : decode cX2_pass 5 = .ok (.if_icmp .eq 5, 3) := by decide +kernel
theorem dX2_pass_8 : decode cX2_pass 8 = .ok (.iconst 0, 1) := by decide +kernel
theorem dX2_pass_9 : decode cX2_pass 9 = .ok (.ireturn, 1) := by decide +kernel
theorem dX2_pass_10 : decode cX2_pass 10 = .ok (.aload_n 0, 1) := by decide +kernel
theorem dX2_pass_11 : decode cX2_pass 11 = .ok (.invokevirtual 43, 3) := by decide +kernel
theorem dX2_pass_14 : decode cX2_pass 14 = .ok (.iconst 1, 1) := by decide +kernel
theorem dX2_pass_15 : decode cX2_pass 15 = .ok (.ireturn, 1) := by decide +kernel
theorem dX2_readExpression_0 : decode cX2_readExpression 0 = .ok (.aload_n 0, 1) := by decide +kernel
theorem dX2_readExpression_1 : decode cX2_readExpression 1 = .ok (.iload_n 1, 1) := by decide +kernel
theorem dX2_readExpression_2 : decode cX2_readExpression 2 = .ok (.invokevirtual 61, 3) := by decide +kernel
theorem dX2_readExpression_5 : decode cX2_readExpression 5 = .ok (.istore_n 2, 1) := by decide +kernel
theorem dX2_readExpression_6 : decode cX2_readExpression 6 = .ok (.iconst 0, 1) := by decide +kernel
theorem dX2_readExpression_7 : decode cX2_readExpression 7 = .ok (.istore_n 3, 1) := by decide +kernel
theorem dX2_readExpression_8 : decode cX2_readExpression 8 = .ok (.iload_n 3, 1) := by decide +kernel
theorem dX2_readExpression_9 : decode cX2_readExpression 9 = .ok (.sipush 160, 3) := by decide +kernel
theorem dX2_readExpression_12 : decode cX2_readExpression 12 = .ok (.if_icmp .ge 41, 3) := by decide +kernel
theorem dX2_readExpression_15 : decode cX2_readExpression 15 = .ok (.iload_n 2, 1) := by decide +kernel
theorem dX2_readExpression_16 : decode cX2_readExpression 16 = .ok (.ifCond .eq 37, 3) := by decide +kernel
theorem dX2_readExpression_19 : decode cX2_readExpression 19 = .ok (.aload_n 0, 1) := by decide +kernel
theorem dX2_readExpression_20 : decode cX2_readExpression 20 = .ok (.getfield 31, 3) := by decide +kernel
theorem dX2_readExpression_23 : decode cX2_readExpression 23 = .ok (.bipush 9, 2) := by decide +kernel
theorem dX2_readExpression_25 : decode cX2_readExpression 25 = .ok (.if_icmp .ne 28, 3) := by decide +kernel
theorem dX2_readExpression_28 : decode cX2_readExpression 28 = .ok (.aload_n 0, 1) := by decide +kernel
theorem dX2_readExpression_29 : decode cX2_readExpression 29 = .ok (.invokevirtual 43, 3) := by decide +kernel
theorem dX2_readExpression_32 : decode cX2_readExpression 32 = .ok (.aload_n 0, 1) := by decide +kernel
theorem dX2_readExpression_33 : decode cX2_readExpression 33 = .ok (.iload_n 1, 1) := by decide +kernel
theorem dX2_readExpression_34 : decode cX2_readExpression 34 = .ok (.invokevirtual 61, 3) := by decide +kernel
theorem dX2_readExpression_37 : decode cX2_readExpression 37 = .ok (.istore_n 2, 1) := by decide +kernel
theorem dX2_readExpression_38 : decode cX2_readExpression 38 = .ok (.aload_n 0, 1) := by decide +kernel
theorem dX2_readExpression_39 : decode cX2_readExpression 39 = .ok (.getfield 18, 3) := by decide +kernel
theorem dX2_readExpression_42 : decode cX2_readExpression 42 = .ok (.bipush 9, 2) := by decide +kernel
theorem dX2_readExpression_44 : decode cX2_readExpression 44 = .ok (.invokevirtual 64, 3) := by decide +kernel
theorem dX2_readExpression_47 : decode cX2_readExpression 47 = .ok (.iinc 3 1, 3) := by decide +kernel
theorem dX2_readExpression_50 : decode cX2_readExpression 50 = .ok (.goto (-42), 3) := by decide +kernel
theorem dX2_readExpression_53 : decode cX2_readExpression 53 = .ok (.iload_n 2, 1) := by decide +kernel
theorem dX2_readExpression_54 : decode cX2_readExpression 54 = .ok (.ireturn, 1) := by decide +kernel
theorem dX2_readConjunction_0 : decode cX2_readConjunction 0 = .ok (.aload_n 0, 1) := by decide +kernel
theorem dX2_readConjunction_1 : decode cX2_readConjunction 1 = .ok (.iload_n 1, 1) := by decide +kernel
theorem dX2_readConjunction_2 : decode cX2_readConjunction 2 = .ok (.invokevirtual 67, 3) := by decide +kernel
theorem dX2_readConjunction_5 : decode cX2_readConjunction 5 = .ok (.istore_n 2, 1) := by decide +kernel
theorem dX2_readConjunction_6 : decode cX2_readConjunction 6 = .ok (.iconst 0, 1) := by decide +kernel
theorem dX2_readConjunction_7 : decode cX2_readConjunction 7 = .ok (.istore_n 3, 1) := by decide +kernel
theorem dX2_readConjunction_8 : decode cX2_readConjunction 8 = .ok (.iload_n 3, 1) := by decide +kernel
theorem dX2_readConjunction_9 : decode cX2_readConjunction 9 = .ok (.sipush 160, 3) := by decide +kernel
theorem dX2_readConjunction_12 : decode cX2_readConjunction 12 = .ok (.if_icmp .ge 41, 3) := by decide +kernel
theorem dX2_readConjunction_15 : decode cX2_readConjunction 15 = .ok (.iload_n 2, 1) := by decide +kernel
theorem dX2_readConjunction_16 : decode cX2_readConjunction 16 = .ok (.ifCond .eq 37, 3) := by decide +kernel
theorem dX2_readConjunction_19 : decode cX2_readConjunction 19 = .ok (.aload_n 0, 1) := by decide +kernel
theorem dX2_readConjunction_20 : decode cX2_readConjunction 20 = .ok (.getfield 31, 3) := by decide +kernel
theorem dX2_readConjunction_23 : decode cX2_readConjunction 23 = .ok (.bipush 10, 2) := by decide +kernel
theorem dX2_readConjunction_25 : decode cX2_readConjunction 25 = .ok (.if_icmp .ne 28, 3) := by decide +kernel
theorem dX2_readConjunction_28 : decode cX2_readConjunction 28 = .ok (.aload_n 0, 1) := by decide +kernel
theorem dX2_readConjunction_29 : decode cX2_readConjunction 29 = .ok (.invokevirtual 43, 3) := by decide +kernel
theorem dX2_readConjunction_32 : decode cX2_readConjunction 32 = .ok (.aload_n 0, 1) := by decide +kernel
theorem dX2_readConjunction_33 : decode cX2_readConjunction 33 = .ok (.iload_n 1, 1) := by decide +kernel
theorem dX2_readConjunction_34 : decode cX2_readConjunction 34 = .ok (.invokevirtual 67, 3) := by decide +kernel
theorem dX2_readConjunction_37 : decode cX2_readConjunction 37 = .ok (.istore_n 2, 1) := by decide +kernel
theorem dX2_readConjunction_38 : decode cX2_readConjunction 38 = .ok (.aload_n 0, 1) := by decide +kernel
theorem dX2_readConjunction_39 : decode cX2_readConjunction 39 = .ok (.getfield 18, 3) := by decide +kernel
theorem dX2_readConjunction_42 : decode cX2_readConjunction 42 = .ok (.bipush 10, 2) := by decide +kernel
theorem dX2_readConjunction_44 : decode cX2_readConjunction 44 = .ok (.invokevirtual 64, 3) := by decide +kernel
theorem dX2_readConjunction_47 : decode cX2_readConjunction 47 = .ok (.iinc 3 1, 3) := by decide +kernel
theorem dX2_readConjunction_50 : decode cX2_readConjunction 50 = .ok (.goto (-42), 3) := by decide +kernel
theorem dX2_readConjunction_53 : decode cX2_readConjunction 53 = .ok (.iload_n 2, 1) := by decide +kernel
theorem dX2_readConjunction_54 : decode cX2_readConjunction 54 = .ok (.ireturn, 1) := by decide +kernel
theorem dX2_readNegation_0 : decode cX2_readNegation 0 = .ok (.aload_n 0, 1) := by decide +kernel
theorem dX2_readNegation_1 : decode cX2_readNegation 1 = .ok (.getfield 31, 3) := by decide +kernel
theorem dX2_readNegation_4 : decode cX2_readNegation 4 = .ok (.bipush 11, 2) := by decide +kernel
theorem dX2_readNegation_6 : decode cX2_readNegation 6 = .ok (.if_icmp .eq 9, 3) := by decide +kernel
theorem dX2_readNegation_9 : decode cX2_readNegation 9 = .ok (.aload_n 0, 1) := by decide +kernel
theorem dX2_readNegation_10 : decode cX2_readNegation 10 = .ok (.iload_n 1, 1) := by decide +kernel
theorem dX2_readNegation_11 : decode cX2_readNegation 11 = .ok (.invokevirtual 70, 3) := by decide +kernel
theorem dX2_readNegation_14 : decode cX2_readNegation 14 = .ok (.ireturn, 1) := by decide +kernel
theorem dX2_readNegation_15 : decode cX2_readNegation 15 = .ok (.iload_n 1, 1) := by decide +kernel
theorem dX2_readNegation_16 : decode cX2_readNegation 16 = .ok (.iconst 5, 1) := by decide +kernel
theorem dX2_readNegation_17 : decode cX2_readNegation 17 = .ok (.if_icmp .lt 5, 3) := by decide +kernel
theorem dX2_readNegation_20 : decode cX2_readNegation 20 = .ok (.iconst 0, 1) := by decide +kernel
theorem dX2_readNegation_21 : decode cX2_readNegation 21 = .ok (.ireturn, 1) := by decide +kernel
theorem dX2_readNegation_22 : decode cX2_readNegation 22 = .ok (.aload_n 0, 1) := by decide +kernel
theorem dX2_readNegation_23 : decode cX2_readNegation 23 = .ok (.invokevirtual 43, 3) := by decide +kernel
theorem dX2_readNegation_26 : decode cX2_readNegation 26 = .ok (.aload_n 0, 1) := by decide +kernel
theorem dX2_readNegation_27 : decode cX2_readNegation 27 = .ok (.iload_n 1, 1) := by decide +kernel
theorem dX2_readNegation_28 : decode cX2_readNegation 28 = .ok (.iconst 1, 1) := by decide +kernel
theorem dX2_readNegation_29 : decode cX2_readNegation 29 = .ok (.iadd, 1) := by decide +kernel
theorem dX2_readNegation_30 : decode cX2_readNegation 30 = .ok (.invokevirtual 67, 3) := by decide +kernel
theorem dX2_readNegation_33 : decode cX2_readNegation 33 = .ok (.istore_n 2, 1) := by decide +kernel
theorem dX2_readNegation_34 : decode cX2_readNegation 34 = .ok (.aload_n 0, 1) := by decide +kernel
theorem dX2_readNegation_35 : decode cX2_readNegation 35 = .ok (.getfield 18, 3) := by decide +kernel
theorem dX2_readNegation_38 : decode cX2_readNegation 38 = .ok (.bipush 11, 2) := by decide +kernel
theorem dX2_readNegation_40 : decode cX2_readNegation 40 = .ok (.invokevirtual 64, 3) := by decide +kernel
theorem dX2_readNegation_43 : decode cX2_readNegation 43 = .ok (.iload_n 2, 1) := by decide +kernel
theorem dX2_readNegation_44 : decode cX2_readNegation 44 = .ok (.ireturn, 1) := by decide +kernel
theorem dX2_readComparison_0 : decode cX2_readComparison 0 = .ok (.aload_n 0, 1) := by decide +kernel
theorem dX2_readComparison_1 : decode cX2_readComparison 1 = .ok (.iload_n 1, 1) := by decide +kernel
theorem dX2_readComparison_2 : decode cX2_readComparison 2 = .ok (.invokevirtual 73, 3) := by decide +kernel
theorem dX2_readComparison_5 : decode cX2_readComparison 5 = .ok (.istore_n 2, 1) := by decide +kernel
theorem dX2_readComparison_6 : decode cX2_readComparison 6 = .ok (.aload_n 0, 1) := by decide +kernel
theorem dX2_readComparison_7 : decode cX2_readComparison 7 = .ok (.getfield 31, 3) := by decide +kernel
theorem dX2_readComparison_10 : decode cX2_readComparison 10 = .ok (.istore_n 3, 1) := by decide +kernel
theorem dX2_readComparison_11 : decode cX2_readComparison 11 = .ok (.iload_n 2, 1) := by decide +kernel
theorem dX2_readComparison_12 : decode cX2_readComparison 12 = .ok (.ifCond .eq 33, 3) := by decide +kernel
theorem dX2_readComparison_15 : decode cX2_readComparison 15 = .ok (.iload_n 3, 1) := by decide +kernel
theorem dX2_readComparison_16 : decode cX2_readComparison 16 = .ok (.bipush 18, 2) := by decide +kernel
theorem dX2_readComparison_18 : decode cX2_readComparison 18 = .ok (.if_icmp .eq 9, 3) := by decide +kernel
theorem dX2_readComparison_21 : decode cX2_readComparison 21 = .ok (.iload_n 3, 1) := by decide +kernel
theorem dX2_readComparison_22 : decode cX2_readComparison 22 = .ok (.bipush 19, 2) := by decide +kernel
theorem dX2_readComparison_24 : decode cX2_readComparison 24 = .ok (.if_icmp .ne 21, 3) := by decide +kernel
theorem dX2_readComparison_27 : decode cX2_readComparison 27 = .ok (.aload_n 0, 1) := by decide +kernel
theorem dX2_readComparison_28 : decode cX2_readComparison 28 = .ok (.invokevirtual 43, 3) := by decide +kernel
theorem dX2_readComparison_31 : decode cX2_readComparison 31 = .ok (.aload_n 0, 1) := by decide +kernel
theorem dX2_readComparison_32 : decode cX2_readComparison 32 = .ok (.iload_n 1, 1) := by decide +kernel
theorem dX2_readComparison_33 : decode cX2_readComparison 33 = .ok (.invokevirtual 73, 3) := by decide +kernel
theorem dX2_readComparison_36 : decode cX2_readComparison 36 = .ok (.istore_n 2, 1) := by decide +kernel
theorem dX2_readComparison_37 : decode cX2_readComparison 37 = .ok (.aload_n 0, 1) := by decide +kernel
theorem dX2_readComparison_38 : decode cX2_readComparison 38 = .ok (.getfield 18, 3) := by decide +kernel
theorem dX2_readComparison_41 : decode cX2_readComparison 41 = .ok (.iload_n 3, 1) := by decide +kernel
theorem dX2_readComparison_42 : decode cX2_readComparison 42 = .ok (.invokevirtual 64, 3) := by decide +kernel
theorem dX2_readComparison_45 : decode cX2_readComparison 45 = .ok (.iload_n 2, 1) := by decide +kernel
theorem dX2_readComparison_46 : decode cX2_readComparison 46 = .ok (.ireturn, 1) := by decide +kernel
theorem dX2_readSum_0 : decode cX2_readSum 0 = .ok (.aload_n 0, 1) := by decide +kernel
theorem dX2_readSum_1 : decode cX2_readSum 1 = .ok (.iload_n 1, 1) := by decide +kernel
theorem dX2_readSum_2 : decode cX2_readSum 2 = .ok (.invokevirtual 76, 3) := by decide +kernel
theorem dX2_readSum_5 : decode cX2_readSum 5 = .ok (.istore_n 2, 1) := by decide +kernel
theorem dX2_readSum_6 : decode cX2_readSum 6 = .ok (.iconst 0, 1) := by decide +kernel
theorem dX2_readSum_7 : decode cX2_readSum 7 = .ok (.istore_n 3, 1) := by decide +kernel
theorem dX2_readSum_8 : decode cX2_readSum 8 = .ok (.iload_n 3, 1) := by decide +kernel
theorem dX2_readSum_9 : decode cX2_readSum 9 = .ok (.sipush 160, 3) := by decide +kernel
theorem dX2_readSum_12 : decode cX2_readSum 12 = .ok (.if_icmp .ge 56, 3) := by decide +kernel
theorem dX2_readSum_15 : decode cX2_readSum 15 = .ok (.iload_n 2, 1) := by decide +kernel
theorem dX2_readSum_16 : decode cX2_readSum 16 = .ok (.ifCond .eq 52, 3) := by decide +kernel
theorem dX2_readSum_19 : decode cX2_readSum 19 = .ok (.aload_n 0, 1) := by decide +kernel
theorem dX2_readSum_20 : decode cX2_readSum 20 = .ok (.getfield 31, 3) := by decide +kernel
theorem dX2_readSum_23 : decode cX2_readSum 23 = .ok (.bipush 15, 2) := by decide +kernel
theorem dX2_readSum_25 : decode cX2_readSum 25 = .ok (.if_icmp .eq 12, 3) := by decide +kernel
theorem dX2_readSum_28 : decode cX2_readSum 28 = .ok (.aload_n 0, 1) := by decide +kernel
theorem dX2_readSum_29 : decode cX2_readSum 29 = .ok (.getfield 31, 3) := by decide +kernel
theorem dX2_readSum_32 : decode cX2_readSum 32 = .ok (.bipush 16, 2) := by decide +kernel
theorem dX2_readSum_34 : decode cX2_readSum 34 = .ok (.if_icmp .ne 34, 3) := by decide +kernel
theorem dX2_readSum_37 : decode cX2_readSum 37 = .ok (.aload_n 0, 1) := by decide +kernel
theorem dX2_readSum_38 : decode cX2_readSum 38 = .ok (.getfield 31, 3) := by decide +kernel
theorem dX2_readSum_41 : decode cX2_readSum 41 = .ok (.istore 4, 2) := by decide +kernel
theorem dX2_readSum_43 : decode cX2_readSum 43 = .ok (.aload_n 0, 1) := by decide +kernel
theorem dX2_readSum_44 : decode cX2_readSum 44 = .ok (.invokevirtual 43, 3) := by decide +kernel
theorem dX2_readSum_47 : decode cX2_readSum 47 = .ok (.aload_n 0, 1) := by decide +kernel
theorem dX2_readSum_48 : decode cX2_readSum 48 = .ok (.iload_n 1, 1) := by decide +kernel
theorem dX2_readSum_49 : decode cX2_readSum 49 = .ok (.invokevirtual 76, 3) := by decide +kernel
theorem dX2_readSum_52 : decode cX2_readSum 52 = .ok (.istore_n 2, 1) := by decide +kernel
theorem dX2_readSum_53 : decode cX2_readSum 53 = .ok (.aload_n 0, 1) := by decide +kernel
theorem dX2_readSum_54 : decode cX2_readSum 54 = .ok (.getfield 18, 3) := by decide +kernel
theorem dX2_readSum_57 : decode cX2_readSum 57 = .ok (.iload 4, 2) := by decide +kernel
theorem dX2_readSum_59 : decode cX2_readSum 59 = .ok (.invokevirtual 64, 3) := by decide +kernel
theorem dX2_readSum_62 : decode cX2_readSum 62 = .ok (.iinc 3 1, 3) := by decide +kernel
theorem dX2_readSum_65 : decode cX2_readSum 65 = .ok (.goto (-57), 3) := by decide +kernel
theorem dX2_readSum_68 : decode cX2_readSum 68 = .ok (.iload_n 2, 1) := by decide +kernel
theorem dX2_readSum_69 : decode cX2_readSum 69 = .ok (.ireturn, 1) := by decide +kernel
theorem dX2_readTerm_0 : decode cX2_readTerm 0 = .ok (.aload_n 0, 1) := by decide +kernel
theorem dX2_readTerm_1 : decode cX2_readTerm 1 = .ok (.iload_n 1, 1) := by decide +kernel
theorem dX2_readTerm_2 : decode cX2_readTerm 2 = .ok (.invokevirtual 79, 3) := by decide +kernel
theorem dX2_readTerm_5 : decode cX2_readTerm 5 = .ok (.istore_n 2, 1) := by decide +kernel
theorem dX2_readTerm_6 : decode cX2_readTerm 6 = .ok (.iconst 0, 1) := by decide +kernel
theorem dX2_readTerm_7 : decode cX2_readTerm 7 = .ok (.istore_n 3, 1) := by decide +kernel
theorem dX2_readTerm_8 : decode cX2_readTerm 8 = .ok (.iload_n 3, 1) := by decide +kernel
theorem dX2_readTerm_9 : decode cX2_readTerm 9 = .ok (.sipush 160, 3) := by decide +kernel
theorem dX2_readTerm_12 : decode cX2_readTerm 12 = .ok (.if_icmp .ge 41, 3) := by decide +kernel
theorem dX2_readTerm_15 : decode cX2_readTerm 15 = .ok (.iload_n 2, 1) := by decide +kernel
theorem dX2_readTerm_16 : decode cX2_readTerm 16 = .ok (.ifCond .eq 37, 3) := by decide +kernel
theorem dX2_readTerm_19 : decode cX2_readTerm 19 = .ok (.aload_n 0, 1) := by decide +kernel
theorem dX2_readTerm_20 : decode cX2_readTerm 20 = .ok (.getfield 31, 3) := by decide +kernel
theorem dX2_readTerm_23 : decode cX2_readTerm 23 = .ok (.bipush 17, 2) := by decide +kernel
theorem dX2_readTerm_25 : decode cX2_readTerm 25 = .ok (.if_icmp .ne 28, 3) := by decide +kernel
theorem dX2_readTerm_28 : decode cX2_readTerm 28 = .ok (.aload_n 0, 1) := by decide +kernel
theorem dX2_readTerm_29 : decode cX2_readTerm 29 = .ok (.invokevirtual 43, 3) := by decide +kernel
theorem dX2_readTerm_32 : decode cX2_readTerm 32 = .ok (.aload_n 0, 1) := by decide +kernel
theorem dX2_readTerm_33 : decode cX2_readTerm 33 = .ok (.iload_n 1, 1) := by decide +kernel
theorem dX2_readTerm_34 : decode cX2_readTerm 34 = .ok (.invokevirtual 79, 3) := by decide +kernel
theorem dX2_readTerm_37 : decode cX2_readTerm 37 = .ok (.istore_n 2, 1) := by decide +kernel
theorem dX2_readTerm_38 : decode cX2_readTerm 38 = .ok (.aload_n 0, 1) := by decide +kernel
theorem dX2_readTerm_39 : decode cX2_readTerm 39 = .ok (.getfield 18, 3) := by decide +kernel
theorem dX2_readTerm_42 : decode cX2_readTerm 42 = .ok (.bipush 17, 2) := by decide +kernel
theorem dX2_readTerm_44 : decode cX2_readTerm 44 = .ok (.invokevirtual 64, 3) := by decide +kernel
theorem dX2_readTerm_47 : decode cX2_readTerm 47 = .ok (.iinc 3 1, 3) := by decide +kernel
theorem dX2_readTerm_50 : decode cX2_readTerm 50 = .ok (.goto (-42), 3) := by decide +kernel
theorem dX2_readTerm_53 : decode cX2_readTerm 53 = .ok (.iload_n 2, 1) := by decide +kernel
theorem dX2_readTerm_54 : decode cX2_readTerm 54 = .ok (.ireturn, 1) := by decide +kernel
theorem dX2_readOne_0 : decode cX2_readOne 0 = .ok (.aload_n 0, 1) := by decide +kernel
theorem dX2_readOne_1 : decode cX2_readOne 1 = .ok (.getfield 31, 3) := by decide +kernel
theorem dX2_readOne_4 : decode cX2_readOne 4 = .ok (.bipush 21, 2) := by decide +kernel
theorem dX2_readOne_6 : decode cX2_readOne 6 = .ok (.if_icmp .ne 20, 3) := by decide +kernel
theorem dX2_readOne_9 : decode cX2_readOne 9 = .ok (.aload_n 0, 1) := by decide +kernel
theorem dX2_readOne_10 : decode cX2_readOne 10 = .ok (.getfield 18, 3) := by decide +kernel
theorem dX2_readOne_13 : decode cX2_readOne 13 = .ok (.aload_n 0, 1) := by decide +kernel
theorem dX2_readOne_14 : decode cX2_readOne 14 = .ok (.getfield 37, 3) := by decide +kernel
theorem dX2_readOne_17 : decode cX2_readOne 17 = .ok (.invokevirtual 82, 3) := by decide +kernel
theorem dX2_readOne_20 : decode cX2_readOne 20 = .ok (.aload_n 0, 1) := by decide +kernel
theorem dX2_readOne_21 : decode cX2_readOne 21 = .ok (.invokevirtual 43, 3) := by decide +kernel
theorem dX2_readOne_24 : decode cX2_readOne 24 = .ok (.iconst 1, 1) := by decide +kernel
theorem dX2_readOne_25 : decode cX2_readOne 25 = .ok (.ireturn, 1) := by decide +kernel
theorem dX2_readOne_26 : decode cX2_readOne 26 = .ok (.aload_n 0, 1) := by decide +kernel
theorem dX2_readOne_27 : decode cX2_readOne 27 = .ok (.getfield 31, 3) := by decide +kernel
theorem dX2_readOne_30 : decode cX2_readOne 30 = .ok (.iconst 0, 1) := by decide +kernel
theorem dX2_readOne_31 : decode cX2_readOne 31 = .ok (.iconst 5, 1) := by decide +kernel
theorem dX2_readOne_32 : decode cX2_readOne 32 = .ok (.invokestatic 85, 3) := by decide +kernel
theorem dX2_readOne_35 : decode cX2_readOne 35 = .ok (.ifCond .eq 20, 3) := by decide +kernel
theorem dX2_readOne_38 : decode cX2_readOne 38 = .ok (.aload_n 0, 1) := by decide +kernel
theorem dX2_readOne_39 : decode cX2_readOne 39 = .ok (.getfield 18, 3) := by decide +kernel
theorem dX2_readOne_42 : decode cX2_readOne 42 = .ok (.aload_n 0, 1) := by decide +kernel
theorem dX2_readOne_43 : decode cX2_readOne 43 = .ok (.getfield 31, 3) := by decide +kernel
theorem dX2_readOne_46 : decode cX2_readOne 46 = .ok (.invokevirtual 64, 3) := by decide +kernel
theorem dX2_readOne_49 : decode cX2_readOne 49 = .ok (.aload_n 0, 1) := by decide +kernel
theorem dX2_readOne_50 : decode cX2_readOne 50 = .ok (.invokevirtual 43, 3) := by decide +kernel
theorem dX2_readOne_53 : decode cX2_readOne 53 = .ok (.iconst 1, 1) := by decide +kernel
theorem dX2_readOne_54 : decode cX2_readOne 54 = .ok (.ireturn, 1) := by decide +kernel
theorem dX2_readOne_55 : decode cX2_readOne 55 = .ok (.iload_n 1, 1) := by decide +kernel
theorem dX2_readOne_56 : decode cX2_readOne 56 = .ok (.iconst 5, 1) := by decide +kernel
theorem dX2_readOne_57 : decode cX2_readOne 57 = .ok (.if_icmp .lt 5, 3) := by decide +kernel
theorem dX2_readOne_60 : decode cX2_readOne 60 = .ok (.iconst 0, 1) := by decide +kernel
theorem dX2_readOne_61 : decode cX2_readOne 61 = .ok (.ireturn, 1) := by decide +kernel
theorem dX2_readOne_62 : decode cX2_readOne 62 = .ok (.aload_n 0, 1) := by decide +kernel
theorem dX2_readOne_63 : decode cX2_readOne 63 = .ok (.getfield 31, 3) := by decide +kernel
theorem dX2_readOne_66 : decode cX2_readOne 66 = .ok (.bipush 16, 2) := by decide +kernel
theorem dX2_readOne_68 : decode cX2_readOne 68 = .ok (.if_icmp .ne 26, 3) := by decide +kernel
theorem dX2_readOne_71 : decode cX2_readOne 71 = .ok (.aload_n 0, 1) := by decide +kernel
theorem dX2_readOne_72 : decode cX2_readOne 72 = .ok (.invokevirtual 43, 3) := by decide +kernel
theorem dX2_readOne_75 : decode cX2_readOne 75 = .ok (.aload_n 0, 1) := by decide +kernel
theorem dX2_readOne_76 : decode cX2_readOne 76 = .ok (.iload_n 1, 1) := by decide +kernel
theorem dX2_readOne_77 : decode cX2_readOne 77 = .ok (.iconst 1, 1) := by decide +kernel
theorem dX2_readOne_78 : decode cX2_readOne 78 = .ok (.iadd, 1) := by decide +kernel
theorem dX2_readOne_79 : decode cX2_readOne 79 = .ok (.invokevirtual 79, 3) := by decide +kernel
theorem dX2_readOne_82 : decode cX2_readOne 82 = .ok (.istore_n 2, 1) := by decide +kernel
theorem dX2_readOne_83 : decode cX2_readOne 83 = .ok (.aload_n 0, 1) := by decide +kernel
theorem dX2_readOne_84 : decode cX2_readOne 84 = .ok (.getfield 18, 3) := by decide +kernel
theorem dX2_readOne_87 : decode cX2_readOne 87 = .ok (.bipush 20, 2) := by decide +kernel
theorem dX2_readOne_89 : decode cX2_readOne 89 = .ok (.invokevirtual 64, 3) := by decide +kernel
theorem dX2_readOne_92 : decode cX2_readOne 92 = .ok (.iload_n 2, 1) := by decide +kernel
theorem dX2_readOne_93 : decode cX2_readOne 93 = .ok (.ireturn, 1) := by decide +kernel
theorem dX2_readOne_94 : decode cX2_readOne 94 = .ok (.aload_n 0, 1) := by decide +kernel
theorem dX2_readOne_95 : decode cX2_readOne 95 = .ok (.bipush 12, 2) := by decide +kernel
theorem dX2_readOne_97 : decode cX2_readOne 97 = .ok (.invokevirtual 46, 3) := by decide +kernel
theorem dX2_readOne_100 : decode cX2_readOne 100 = .ok (.ifCond .eq 26, 3) := by decide +kernel
theorem dX2_readOne_103 : decode cX2_readOne 103 = .ok (.aload_n 0, 1) := by decide +kernel
theorem dX2_readOne_104 : decode cX2_readOne 104 = .ok (.iload_n 1, 1) := by decide +kernel
theorem dX2_readOne_105 : decode cX2_readOne 105 = .ok (.iconst 1, 1) := by decide +kernel
theorem dX2_readOne_106 : decode cX2_readOne 106 = .ok (.iadd, 1) := by decide +kernel
theorem dX2_readOne_107 : decode cX2_readOne 107 = .ok (.invokevirtual 50, 3) := by decide +kernel
theorem dX2_readOne_110 : decode cX2_readOne 110 = .ok (.ifCond .eq 16, 3) := by decide +kernel
theorem dX2_readOne_113 : decode cX2_readOne 113 = .ok (.aload_n 0, 1) := by decide +kernel
theorem dX2_readOne_114 : decode cX2_readOne 114 = .ok (.bipush 13, 2) := by decide +kernel
theorem dX2_readOne_116 : decode cX2_readOne 116 = .ok (.invokevirtual 46, 3) := by decide +kernel
theorem dX2_readOne_119 : decode cX2_readOne 119 = .ok (.ifCond .eq 7, 3) := by decide +kernel
theorem dX2_readOne_122 : decode cX2_readOne 122 = .ok (.iconst 1, 1) := by decide +kernel
theorem dX2_readOne_123 : decode cX2_readOne 123 = .ok (.goto 4, 3) := by decide +kernel
theorem dX2_readOne_126 : decode cX2_readOne 126 = .ok (.iconst 0, 1) := by decide +kernel
theorem dX2_readOne_127 : decode cX2_readOne 127 = .ok (.ireturn, 1) := by decide +kernel
theorem dX2_step_0 : decode cX2_step 0 = .ok (.aload_n 0, 1) := by decide +kernel
theorem dX2_step_1 : decode cX2_step 1 = .ok (.getfield 26, 3) := by decide +kernel
theorem dX2_step_4 : decode cX2_step 4 = .ok (.aload_n 0, 1) := by decide +kernel
theorem dX2_step_5 : decode cX2_step 5 = .ok (.getfield 22, 3) := by decide +kernel
theorem dX2_step_8 : decode cX2_step 8 = .ok (.if_icmp .ge 44, 3) := by decide +kernel
theorem dX2_step_11 : decode cX2_step 11 = .ok (.aload_n 0, 1) := by decide +kernel
theorem dX2_step_12 : decode cX2_step 12 = .ok (.getfield 9, 3) := by decide +kernel
theorem dX2_step_15 : decode cX2_step 15 = .ok (.aload_n 0, 1) := by decide +kernel
theorem dX2_step_16 : decode cX2_step 16 = .ok (.getfield 26, 3) := by decide +kernel
theorem dX2_step_19 : decode cX2_step 19 = .ok (.iaload, 1) := by decide +kernel
theorem dX2_step_20 : decode cX2_step 20 = .ok (.bipush 32, 2) := by decide +kernel
theorem dX2_step_22 : decode cX2_step 22 = .ok (.if_icmp .eq 17, 3) := by decide +kernel
theorem dX2_step_25 : decode cX2_step 25 = .ok (.aload_n 0, 1) := by decide +kernel
theorem dX2_step_26 : decode cX2_step 26 = .ok (.getfield 9, 3) := by decide +kernel
theorem dX2_step_29 : decode cX2_step 29 = .ok (.aload_n 0, 1) := by decide +kernel
theorem dX2_step_30 : decode cX2_step 30 = .ok (.getfield 26, 3) := by decide +kernel
theorem dX2_step_33 : decode cX2_step 33 = .ok (.iaload, 1) := by decide +kernel
theorem dX2_step_34 : decode cX2_step 34 = .ok (.bipush 10, 2) := by decide +kernel
theorem dX2_step_36 : decode cX2_step 36 = .ok (.if_icmp .ne 16, 3) := by decide +kernel
theorem dX2_step_39 : decode cX2_step 39 = .ok (.aload_n 0, 1) := by decide +kernel
theorem dX2_step_40 : decode cX2_step 40 = .ok (.dup, 1) := by decide +kernel
theorem dX2_step_41 : decode cX2_step 41 = .ok (.getfield 26, 3) := by decide +kernel
theorem dX2_step_44 : decode cX2_step 44 = .ok (.iconst 1, 1) := by decide +kernel
theorem dX2_step_45 : decode cX2_step 45 = .ok (.iadd, 1) := by decide +kernel
theorem dX2_step_46 : decode cX2_step 46 = .ok (.putfield 26, 3) := by decide +kernel
theorem dX2_step_49 : decode cX2_step 49 = .ok (.goto (-49), 3) := by decide +kernel
theorem dX2_step_52 : decode cX2_step 52 = .ok (.aload_n 0, 1) := by decide +kernel
theorem dX2_step_53 : decode cX2_step 53 = .ok (.aload_n 0, 1) := by decide +kernel
theorem dX2_step_54 : decode cX2_step 54 = .ok (.getfield 26, 3) := by decide +kernel
theorem dX2_step_57 : decode cX2_step 57 = .ok (.putfield 34, 3) := by decide +kernel
theorem dX2_step_60 : decode cX2_step 60 = .ok (.aload_n 0, 1) := by decide +kernel
theorem dX2_step_61 : decode cX2_step 61 = .ok (.getfield 26, 3) := by decide +kernel
theorem dX2_step_64 : decode cX2_step 64 = .ok (.aload_n 0, 1) := by decide +kernel
theorem dX2_step_65 : decode cX2_step 65 = .ok (.getfield 22, 3) := by decide +kernel
theorem dX2_step_68 : decode cX2_step 68 = .ok (.if_icmp .lt 12, 3) := by decide +kernel
theorem dX2_step_71 : decode cX2_step 71 = .ok (.aload_n 0, 1) := by decide +kernel
theorem dX2_step_72 : decode cX2_step 72 = .ok (.bipush 22, 2) := by decide +kernel
theorem dX2_step_74 : decode cX2_step 74 = .ok (.putfield 31, 3) := by decide +kernel
theorem dX2_step_77 : decode cX2_step 77 = .ok (.goto 98, 3) := by decide +kernel
theorem dX2_step_80 : decode cX2_step 80 = .ok (.aload_n 0, 1) := by decide +kernel
theorem dX2_step_81 : decode cX2_step 81 = .ok (.getfield 9, 3) := by decide +kernel
theorem dX2_step_84 : decode cX2_step 84 = .ok (.aload_n 0, 1) := by decide +kernel
theorem dX2_step_85 : decode cX2_step 85 = .ok (.getfield 26, 3) := by decide +kernel
theorem dX2_step_88 : decode cX2_step 88 = .ok (.iaload, 1) := by decide +kernel
theorem dX2_step_89 : decode cX2_step 89 = .ok (.invokestatic 89, 3) := by decide +kernel
theorem dX2_step_92 : decode cX2_step 92 = .ok (.ifCond .eq 14, 3) := by decide +kernel
theorem dX2_step_95 : decode cX2_step 95 = .ok (.aload_n 0, 1) := by decide +kernel
theorem dX2_step_96 : decode cX2_step 96 = .ok (.aload_n 0, 1) := by decide +kernel
theorem dX2_step_97 : decode cX2_step 97 = .ok (.invokevirtual 92, 3) := by decide +kernel
theorem dX2_step_100 : decode cX2_step 100 = .ok (.putfield 31, 3) := by decide +kernel
theorem dX2_step_103 : decode cX2_step 103 = .ok (.goto 72, 3) := by decide +kernel
theorem dX2_step_106 : decode cX2_step 106 = .ok (.aload_n 0, 1) := by decide +kernel
theorem dX2_step_107 : decode cX2_step 107 = .ok (.getfield 9, 3) := by decide +kernel
theorem dX2_step_110 : decode cX2_step 110 = .ok (.aload_n 0, 1) := by decide +kernel
theorem dX2_step_111 : decode cX2_step 111 = .ok (.getfield 26, 3) := by decide +kernel
theorem dX2_step_114 : decode cX2_step 114 = .ok (.iaload, 1) := by decide +kernel
theorem dX2_step_115 : decode cX2_step 115 = .ok (.invokestatic 96, 3) := by decide +kernel
theorem dX2_step_118 : decode cX2_step 118 = .ok (.ifCond .eq 14, 3) := by decide +kernel
theorem dX2_step_121 : decode cX2_step 121 = .ok (.aload_n 0, 1) := by decide +kernel
theorem dX2_step_122 : decode cX2_step 122 = .ok (.aload_n 0, 1) := by decide +kernel
theorem dX2_step_123 : decode cX2_step 123 = .ok (.invokevirtual 99, 3) := by decide +kernel
theorem dX2_step_126 : decode cX2_step 126 = .ok (.putfield 31, 3) := by decide +kernel
theorem dX2_step_129 : decode cX2_step 129 = .ok (.goto 46, 3) := by decide +kernel
theorem dX2_step_132 : decode cX2_step 132 = .ok (.ldc 102, 2) := by decide +kernel
theorem dX2_step_134 : decode cX2_step 134 = .ok (.aload_n 0, 1) := by decide +kernel
theorem dX2_step_135 : decode cX2_step 135 = .ok (.getfield 9, 3) := by decide +kernel
theorem dX2_step_138 : decode cX2_step 138 = .ok (.aload_n 0, 1) := by decide +kernel
theorem dX2_step_139 : decode cX2_step 139 = .ok (.getfield 26, 3) := by decide +kernel
theorem dX2_step_142 : decode cX2_step 142 = .ok (.iaload, 1) := by decide +kernel
theorem dX2_step_143 : decode cX2_step 143 = .ok (.i2c, 1) := by decide +kernel
theorem dX2_step_144 : decode cX2_step 144 = .ok (.invokevirtual 104, 3) := by decide +kernel
theorem dX2_step_147 : decode cX2_step 147 = .ok (.istore_n 1, 1) := by decide +kernel
theorem dX2_step_148 : decode cX2_step 148 = .ok (.aload_n 0, 1) := by decide +kernel
theorem dX2_step_149 : decode cX2_step 149 = .ok (.iload_n 1, 1) := by decide +kernel
theorem dX2_step_150 : decode cX2_step 150 = .ok (.ifCond .ge 8, 3) := by decide +kernel
theorem dX2_step_153 : decode cX2_step 153 = .ok (.bipush 23, 2) := by decide +kernel
theorem dX2_step_155 : decode cX2_step 155 = .ok (.goto 7, 3) := by decide +kernel
theorem dX2_step_158 : decode cX2_step 158 = .ok (.bipush 12, 2) := by decide +kernel
theorem dX2_step_160 : decode cX2_step 160 = .ok (.iload_n 1, 1) := by decide +kernel
theorem dX2_step_161 : decode cX2_step 161 = .ok (.iadd, 1) := by decide +kernel
theorem dX2_step_162 : decode cX2_step 162 = .ok (.putfield 31, 3) := by decide +kernel
theorem dX2_step_165 : decode cX2_step 165 = .ok (.aload_n 0, 1) := by decide +kernel
theorem dX2_step_166 : decode cX2_step 166 = .ok (.dup, 1) := by decide +kernel
theorem dX2_step_167 : decode cX2_step 167 = .ok (.getfield 26, 3) := by decide +kernel
theorem dX2_step_170 : decode cX2_step 170 = .ok (.iconst 1, 1) := by decide +kernel
theorem dX2_step_171 : decode cX2_step 171 = .ok (.iadd, 1) := by decide +kernel
theorem dX2_step_172 : decode cX2_step 172 = .ok (.putfield 26, 3) := by decide +kernel
theorem dX2_step_175 : decode cX2_step 175 = .ok (.return_, 1) := by decide +kernel
theorem dX2_passWord_0 : decode cX2_passWord 0 = .ok (.aload_n 0, 1) := by decide +kernel
theorem dX2_passWord_1 : decode cX2_passWord 1 = .ok (.getfield 26, 3) := by decide +kernel
theorem dX2_passWord_4 : decode cX2_passWord 4 = .ok (.aload_n 0, 1) := by decide +kernel
theorem dX2_passWord_5 : decode cX2_passWord 5 = .ok (.getfield 22, 3) := by decide +kernel
theorem dX2_passWord_8 : decode cX2_passWord 8 = .ok (.if_icmp .ge 31, 3) := by decide +kernel
theorem dX2_passWord_11 : decode cX2_passWord 11 = .ok (.aload_n 0, 1) := by decide +kernel
theorem dX2_passWord_12 : decode cX2_passWord 12 = .ok (.getfield 9, 3) := by decide +kernel
theorem dX2_passWord_15 : decode cX2_passWord 15 = .ok (.aload_n 0, 1) := by decide +kernel
theorem dX2_passWord_16 : decode cX2_passWord 16 = .ok (.getfield 26, 3) := by decide +kernel
theorem dX2_passWord_19 : decode cX2_passWord 19 = .ok (.iaload, 1) := by decide +kernel
theorem dX2_passWord_20 : decode cX2_passWord 20 = .ok (.invokestatic 89, 3) := by decide +kernel
theorem dX2_passWord_23 : decode cX2_passWord 23 = .ok (.ifCond .eq 16, 3) := by decide +kernel
theorem dX2_passWord_26 : decode cX2_passWord 26 = .ok (.aload_n 0, 1) := by decide +kernel
theorem dX2_passWord_27 : decode cX2_passWord 27 = .ok (.dup, 1) := by decide +kernel
theorem dX2_passWord_28 : decode cX2_passWord 28 = .ok (.getfield 26, 3) := by decide +kernel
theorem dX2_passWord_31 : decode cX2_passWord 31 = .ok (.iconst 1, 1) := by decide +kernel
theorem dX2_passWord_32 : decode cX2_passWord 32 = .ok (.iadd, 1) := by decide +kernel
theorem dX2_passWord_33 : decode cX2_passWord 33 = .ok (.putfield 26, 3) := by decide +kernel
theorem dX2_passWord_36 : decode cX2_passWord 36 = .ok (.goto (-36), 3) := by decide +kernel
theorem dX2_passWord_39 : decode cX2_passWord 39 = .ok (.iconst 0, 1) := by decide +kernel
theorem dX2_passWord_40 : decode cX2_passWord 40 = .ok (.istore_n 1, 1) := by decide +kernel
theorem dX2_passWord_41 : decode cX2_passWord 41 = .ok (.iload_n 1, 1) := by decide +kernel
theorem dX2_passWord_42 : decode cX2_passWord 42 = .ok (.bipush 12, 2) := by decide +kernel
theorem dX2_passWord_44 : decode cX2_passWord 44 = .ok (.if_icmp .ge 22, 3) := by decide +kernel
theorem dX2_passWord_47 : decode cX2_passWord 47 = .ok (.aload_n 0, 1) := by decide +kernel
theorem dX2_passWord_48 : decode cX2_passWord 48 = .ok (.iload_n 1, 1) := by decide +kernel
theorem dX2_passWord_49 : decode cX2_passWord 49 = .ok (.invokestatic 110, 3) := by decide +kernel
theorem dX2_passWord_52 : decode cX2_passWord 52 = .ok (.invokevirtual 114, 3) := by decide +kernel
theorem dX2_passWord_55 : decode cX2_passWord 55 = .ok (.ifCond .eq 5, 3) := by decide +kernel
theorem dX2_passWord_58 : decode cX2_passWord 58 = .ok (.iload_n 1, 1) := by decide +kernel
theorem dX2_passWord_59 : decode cX2_passWord 59 = .ok (.ireturn, 1) := by decide +kernel
theorem dX2_passWord_60 : decode cX2_passWord 60 = .ok (.iinc 1 1, 3) := by decide +kernel
theorem dX2_passWord_63 : decode cX2_passWord 63 = .ok (.goto (-22), 3) := by decide +kernel
theorem dX2_passWord_66 : decode cX2_passWord 66 = .ok (.bipush 23, 2) := by decide +kernel
theorem dX2_passWord_68 : decode cX2_passWord 68 = .ok (.ireturn, 1) := by decide +kernel
theorem dX2_isSpelled_0 : decode cX2_isSpelled 0 = .ok (.aload_n 1, 1) := by decide +kernel
theorem dX2_isSpelled_1 : decode cX2_isSpelled 1 = .ok (.invokevirtual 118, 3) := by decide +kernel
theorem dX2_isSpelled_4 : decode cX2_isSpelled 4 = .ok (.aload_n 0, 1) := by decide +kernel
theorem dX2_isSpelled_5 : decode cX2_isSpelled 5 = .ok (.getfield 26, 3) := by decide +kernel
theorem dX2_isSpelled_8 : decode cX2_isSpelled 8 = .ok (.aload_n 0, 1) := by decide +kernel
theorem dX2_isSpelled_9 : decode cX2_isSpelled 9 = .ok (.getfield 34, 3) := by decide +kernel
theorem dX2_isSpelled_12 : decode cX2_isSpelled 12 = .ok (.isub, 1) := by decide +kernel
theorem dX2_isSpelled_13 : decode cX2_isSpelled 13 = .ok (.if_icmp .eq 5, 3) := by decide +kernel
theorem dX2_isSpelled_16 : decode cX2_isSpelled 16 = .ok (.iconst 0, 1) := by decide +kernel
theorem dX2_isSpelled_17 : decode cX2_isSpelled 17 = .ok (.ireturn, 1) := by decide +kernel
theorem dX2_isSpelled_18 : decode cX2_isSpelled 18 = .ok (.iconst 0, 1) := by decide +kernel
theorem dX2_isSpelled_19 : decode cX2_isSpelled 19 = .ok (.istore_n 2, 1) := by decide +kernel
theorem dX2_isSpelled_20 : decode cX2_isSpelled 20 = .ok (.iload_n 2, 1) := by decide +kernel
theorem dX2_isSpelled_21 : decode cX2_isSpelled 21 = .ok (.aload_n 1, 1) := by decide +kernel
theorem dX2_isSpelled_22 : decode cX2_isSpelled 22 = .ok (.invokevirtual 118, 3) := by decide +kernel
theorem dX2_isSpelled_25 : decode cX2_isSpelled 25 = .ok (.if_icmp .ge 30, 3) := by decide +kernel
theorem dX2_isSpelled_28 : decode cX2_isSpelled 28 = .ok (.aload_n 1, 1) := by decide +kernel
theorem dX2_isSpelled_29 : decode cX2_isSpelled 29 = .ok (.iload_n 2, 1) := by decide +kernel
theorem dX2_isSpelled_30 : decode cX2_isSpelled 30 = .ok (.invokevirtual 121, 3) := by decide +kernel
theorem dX2_isSpelled_33 : decode cX2_isSpelled 33 = .ok (.aload_n 0, 1) := by decide +kernel
theorem dX2_isSpelled_34 : decode cX2_isSpelled 34 = .ok (.getfield 9, 3) := by decide +kernel
theorem dX2_isSpelled_37 : decode cX2_isSpelled 37 = .ok (.aload_n 0, 1) := by decide +kernel
theorem dX2_isSpelled_38 : decode cX2_isSpelled 38 = .ok (.getfield 34, 3) := by decide +kernel
theorem dX2_isSpelled_41 : decode cX2_isSpelled 41 = .ok (.iload_n 2, 1) := by decide +kernel
theorem dX2_isSpelled_42 : decode cX2_isSpelled 42 = .ok (.iadd, 1) := by decide +kernel
theorem dX2_isSpelled_43 : decode cX2_isSpelled 43 = .ok (.iaload, 1) := by decide +kernel
theorem dX2_isSpelled_44 : decode cX2_isSpelled 44 = .ok (.if_icmp .eq 5, 3) := by decide +kernel
theorem dX2_isSpelled_47 : decode cX2_isSpelled 47 = .ok (.iconst 0, 1) := by decide +kernel
theorem dX2_isSpelled_48 : decode cX2_isSpelled 48 = .ok (.ireturn, 1) := by decide +kernel
theorem dX2_isSpelled_49 : decode cX2_isSpelled 49 = .ok (.iinc 2 1, 3) := by decide +kernel
theorem dX2_isSpelled_52 : decode cX2_isSpelled 52 = .ok (.goto (-32), 3) := by decide +kernel
theorem dX2_isSpelled_55 : decode cX2_isSpelled 55 = .ok (.iconst 1, 1) := by decide +kernel
theorem dX2_isSpelled_56 : decode cX2_isSpelled 56 = .ok (.ireturn, 1) := by decide +kernel
theorem dX2_passNumber_0 : decode cX2_passNumber 0 = .ok (.aload_n 0, 1) := by decide +kernel
theorem dX2_passNumber_1 : decode cX2_passNumber 1 = .ok (.iconst 0, 1) := by decide +kernel
theorem dX2_passNumber_2 : decode cX2_passNumber 2 = .ok (.putfield 37, 3) := by decide +kernel
theorem dX2_passNumber_5 : decode cX2_passNumber 5 = .ok (.aload_n 0, 1) := by decide +kernel
theorem dX2_passNumber_6 : decode cX2_passNumber 6 = .ok (.getfield 26, 3) := by decide +kernel
theorem dX2_passNumber_9 : decode cX2_passNumber 9 = .ok (.aload_n 0, 1) := by decide +kernel
theorem dX2_passNumber_10 : decode cX2_passNumber 10 = .ok (.getfield 22, 3) := by decide +kernel
theorem dX2_passNumber_13 : decode cX2_passNumber 13 = .ok (.if_icmp .ge 55, 3) := by decide +kernel
theorem dX2_passNumber_16 : decode cX2_passNumber 16 = .ok (.aload_n 0, 1) := by decide +kernel
theorem dX2_passNumber_17 : decode cX2_passNumber 17 = .ok (.getfield 9, 3) := by decide +kernel
theorem dX2_passNumber_20 : decode cX2_passNumber 20 = .ok (.aload_n 0, 1) := by decide +kernel
theorem dX2_passNumber_21 : decode cX2_passNumber 21 = .ok (.getfield 26, 3) := by decide +kernel
theorem dX2_passNumber_24 : decode cX2_passNumber 24 = .ok (.iaload, 1) := by decide +kernel
theorem dX2_passNumber_25 : decode cX2_passNumber 25 = .ok (.invokestatic 96, 3) := by decide +kernel
theorem dX2_passNumber_28 : decode cX2_passNumber 28 = .ok (.ifCond .eq 40, 3) := by decide +kernel
theorem dX2_passNumber_31 : decode cX2_passNumber 31 = .ok (.aload_n 0, 1) := by decide +kernel
theorem dX2_passNumber_32 : decode cX2_passNumber 32 = .ok (.aload_n 0, 1) := by decide +kernel
theorem dX2_passNumber_33 : decode cX2_passNumber 33 = .ok (.getfield 37, 3) := by decide +kernel
theorem dX2_passNumber_36 : decode cX2_passNumber 36 = .ok (.bipush 10, 2) := by decide +kernel
theorem dX2_passNumber_38 : decode cX2_passNumber 38 = .ok (.imul, 1) := by decide +kernel
theorem dX2_passNumber_39 : decode cX2_passNumber 39 = .ok (.aload_n 0, 1) := by decide +kernel
theorem dX2_passNumber_40 : decode cX2_passNumber 40 = .ok (.getfield 9, 3) := by decide +kernel
theorem dX2_passNumber_43 : decode cX2_passNumber 43 = .ok (.aload_n 0, 1) := by decide +kernel
theorem dX2_passNumber_44 : decode cX2_passNumber 44 = .ok (.getfield 26, 3) := by decide +kernel
theorem dX2_passNumber_47 : decode cX2_passNumber 47 = .ok (.iaload, 1) := by decide +kernel
theorem dX2_passNumber_48 : decode cX2_passNumber 48 = .ok (.bipush 48, 2) := by decide +kernel
theorem dX2_passNumber_50 : decode cX2_passNumber 50 = .ok (.isub, 1) := by decide +kernel
theorem dX2_passNumber_51 : decode cX2_passNumber 51 = .ok (.iadd, 1) := by decide +kernel
theorem dX2_passNumber_52 : decode cX2_passNumber 52 = .ok (.putfield 37, 3) := by decide +kernel
theorem dX2_passNumber_55 : decode cX2_passNumber 55 = .ok (.aload_n 0, 1) := by decide +kernel
theorem dX2_passNumber_56 : decode cX2_passNumber 56 = .ok (.dup, 1) := by decide +kernel
theorem dX2_passNumber_57 : decode cX2_passNumber 57 = .ok (.getfield 26, 3) := by decide +kernel
theorem dX2_passNumber_60 : decode cX2_passNumber 60 = .ok (.iconst 1, 1) := by decide +kernel
theorem dX2_passNumber_61 : decode cX2_passNumber 61 = .ok (.iadd, 1) := by decide +kernel
theorem dX2_passNumber_62 : decode cX2_passNumber 62 = .ok (.putfield 26, 3) := by decide +kernel
theorem dX2_passNumber_65 : decode cX2_passNumber 65 = .ok (.goto (-60), 3) := by decide +kernel
theorem dX2_passNumber_68 : decode cX2_passNumber 68 = .ok (.aload_n 0, 1) := by decide +kernel
theorem dX2_passNumber_69 : decode cX2_passNumber 69 = .ok (.getfield 26, 3) := by decide +kernel
theorem dX2_passNumber_72 : decode cX2_passNumber 72 = .ok (.aload_n 0, 1) := by decide +kernel
theorem dX2_passNumber_73 : decode cX2_passNumber 73 = .ok (.getfield 34, 3) := by decide +kernel
theorem dX2_passNumber_76 : decode cX2_passNumber 76 = .ok (.isub, 1) := by decide +kernel
theorem dX2_passNumber_77 : decode cX2_passNumber 77 = .ok (.iconst 4, 1) := by decide +kernel
theorem dX2_passNumber_78 : decode cX2_passNumber 78 = .ok (.if_icmp .le 8, 3) := by decide +kernel
theorem dX2_passNumber_81 : decode cX2_passNumber 81 = .ok (.bipush 23, 2) := by decide +kernel
theorem dX2_passNumber_83 : decode cX2_passNumber 83 = .ok (.goto 5, 3) := by decide +kernel
theorem dX2_passNumber_86 : decode cX2_passNumber 86 = .ok (.bipush 21, 2) := by decide +kernel
theorem dX2_passNumber_88 : decode cX2_passNumber 88 = .ok (.ireturn, 1) := by decide +kernel
theorem dX2_isLetter_0 : decode cX2_isLetter 0 = .ok (.iload_n 0, 1) := by decide +kernel
theorem dX2_isLetter_1 : decode cX2_isLetter 1 = .ok (.bipush 97, 2) := by decide +kernel
theorem dX2_isLetter_3 : decode cX2_isLetter 3 = .ok (.if_icmp .lt 13, 3) := by decide +kernel
theorem dX2_isLetter_6 : decode cX2_isLetter 6 = .ok (.iload_n 0, 1) := by decide +kernel
theorem dX2_isLetter_7 : decode cX2_isLetter 7 = .ok (.bipush 122, 2) := by decide +kernel
theorem dX2_isLetter_9 : decode cX2_isLetter 9 = .ok (.if_icmp .gt 7, 3) := by decide +kernel
theorem dX2_isLetter_12 : decode cX2_isLetter 12 = .ok (.iconst 1, 1) := by decide +kernel
theorem dX2_isLetter_13 : decode cX2_isLetter 13 = .ok (.goto 4, 3) := by decide +kernel
theorem dX2_isLetter_16 : decode cX2_isLetter 16 = .ok (.iconst 0, 1) := by decide +kernel
theorem dX2_isLetter_17 : decode cX2_isLetter 17 = .ok (.ireturn, 1) := by decide +kernel
theorem dX2_isDigit_0 : decode cX2_isDigit 0 = .ok (.iload_n 0, 1) := by decide +kernel
theorem dX2_isDigit_1 : decode cX2_isDigit 1 = .ok (.bipush 48, 2) := by decide +kernel
theorem dX2_isDigit_3 : decode cX2_isDigit 3 = .ok (.if_icmp .lt 13, 3) := by decide +kernel
theorem dX2_isDigit_6 : decode cX2_isDigit 6 = .ok (.iload_n 0, 1) := by decide +kernel
theorem dX2_isDigit_7 : decode cX2_isDigit 7 = .ok (.bipush 57, 2) := by decide +kernel
theorem dX2_isDigit_9 : decode cX2_isDigit 9 = .ok (.if_icmp .gt 7, 3) := by decide +kernel
theorem dX2_isDigit_12 : decode cX2_isDigit 12 = .ok (.iconst 1, 1) := by decide +kernel
theorem dX2_isDigit_13 : decode cX2_isDigit 13 = .ok (.goto 4, 3) := by decide +kernel
theorem dX2_isDigit_16 : decode cX2_isDigit 16 = .ok (.iconst 0, 1) := by decide +kernel
theorem dX2_isDigit_17 : decode cX2_isDigit 17 = .ok (.ireturn, 1) := by decide +kernel
end
section
theorem dX7_init_0 : decode cX7_init 0 = .ok (.aload_n 0, 1) := by decide +kernel
theorem dX7_init_1 : decode cX7_init 1 = .ok (.invokespecial 1, 3) := by decide +kernel
theorem dX7_init_4 : decode cX7_init 4 = .ok (.aload_n 0, 1) := by decide +kernel
theorem dX7_init_5 : decode cX7_init 5 = .ok (.new 7, 3) := by decide +kernel
theorem dX7_init_8 : decode cX7_init 8 = .ok (.dup, 1) := by decide +kernel
theorem dX7_init_9 : decode cX7_init 9 = .ok (.invokespecial 9, 3) := by decide +kernel
theorem dX7_init_12 : decode cX7_init 12 = .ok (.putfield 10, 3) := by decide +kernel
theorem dX7_init_15 : decode cX7_init 15 = .ok (.aload_n 0, 1) := by decide +kernel
theorem dX7_init_16 : decode cX7_init 16 = .ok (.new 7, 3) := by decide +kernel
theorem dX7_init_19 : decode cX7_init 19 = .ok (.dup, 1) := by decide +kernel
theorem dX7_init_20 : decode cX7_init 20 = .ok (.invokespecial 9, 3) := by decide +kernel
theorem dX7_init_23 : decode cX7_init 23 = .ok (.putfield 16, 3) := by decide +kernel
theorem dX7_init_26 : decode cX7_init 26 = .ok (.aload_n 0, 1) := by decide +kernel
theorem dX7_init_27 : decode cX7_init 27 = .ok (.iconst 0, 1) := by decide +kernel
theorem dX7_init_28 : decode cX7_init 28 = .ok (.putfield 19, 3) := by decide +kernel
theorem dX7_init_31 : decode cX7_init 31 = .ok (.aload_n 0, 1) := by decide +kernel
theorem dX7_init_32 : decode cX7_init 32 = .ok (.new 23, 3) := by decide +kernel
theorem dX7_init_35 : decode cX7_init 35 = .ok (.dup, 1) := by decide +kernel
theorem dX7_init_36 : decode cX7_init 36 = .ok (.invokespecial 25, 3) := by decide +kernel
theorem dX7_init_39 : decode cX7_init 39 = .ok (.putfield 26, 3) := by decide +kernel
theorem dX7_init_42 : decode cX7_init 42 = .ok (.aload_n 0, 1) := by decide +kernel
theorem dX7_init_43 : decode cX7_init 43 = .ok (.new 23, 3) := by decide +kernel
theorem dX7_init_46 : decode cX7_init 46 = .ok (.dup, 1) := by decide +kernel
theorem dX7_init_47 : decode cX7_init 47 = .ok (.invokespecial 25, 3) := by decide +kernel
theorem dX7_init_50 : decode cX7_init 50 = .ok (.putfield 30, 3) := by decide +kernel
theorem dX7_init_53 : decode cX7_init 53 = .ok (.aload_n 0, 1) := by decide +kernel
theorem dX7_init_54 : decode cX7_init 54 = .ok (.new 33, 3) := by decide +kernel
theorem dX7_init_57 : decode cX7_init 57 = .ok (.dup, 1) := by decide +kernel
theorem dX7_init_58 : decode cX7_init 58 = .ok (.invokespecial 35, 3) := by decide +kernel
theorem dX7_init_61 : decode cX7_init 61 = .ok (.putfield 36, 3) := by decide +kernel
theorem dX7_init_64 : decode cX7_init 64 = .ok (.aload_n 0, 1) := by decide +kernel
theorem dX7_init_65 : decode cX7_init 65 = .ok (.new 40, 3) := by decide +kernel
theorem dX7_init_68 : decode cX7_init 68 = .ok (.dup, 1) := by decide +kernel
theorem dX7_init_69 : decode cX7_init 69 = .ok (.invokespecial 42, 3) := by decide +kernel
theorem dX7_init_72 : decode cX7_init 72 = .ok (.putfield 43, 3) := by decide +kernel
theorem dX7_init_75 : decode cX7_init 75 = .ok (.aload_n 0, 1) := by decide +kernel
theorem dX7_init_76 : decode cX7_init 76 = .ok (.bipush 6, 2) := by decide +kernel
theorem dX7_init_78 : decode cX7_init 78 = .ok (.anewarray 47, 3) := by decide +kernel
theorem dX7_init_81 : decode cX7_init 81 = .ok (.putfield 49, 3) := by decide +kernel
theorem dX7_init_84 : decode cX7_init 84 = .ok (.aload_n 0, 1) := by decide +kernel
theorem dX7_init_85 : decode cX7_init 85 = .ok (.iconst 0, 1) := by decide +kernel
theorem dX7_init_86 : decode cX7_init 86 = .ok (.putfield 53, 3) := by decide +kernel
theorem dX7_init_89 : decode cX7_init 89 = .ok (.aload_n 0, 1) := by decide +kernel
theorem dX7_init_90 : decode cX7_init 90 = .ok (.bipush 6, 2) := by decide +kernel
theorem dX7_init_92 : decode cX7_init 92 = .ok (.newarray .int, 2) := by decide +kernel
theorem dX7_init_94 : decode cX7_init 94 = .ok (.putfield 59, 3) := by decide +kernel
theorem dX7_init_97 : decode cX7_init 97 = .ok (.aload_n 0, 1) := by decide +kernel
theorem dX7_init_98 : decode cX7_init 98 = .ok (.iconst 4, 1) := by decide +kernel
theorem dX7_init_99 : decode cX7_init 99 = .ok (.anewarray 63, 3) := by decide +kernel
theorem dX7_init_102 : decode cX7_init 102 = .ok (.putfield 65, 3) := by decide +kernel
theorem dX7_init_105 : decode cX7_init 105 = .ok (.aload_n 0, 1) := by decide +kernel
theorem dX7_init_106 : decode cX7_init 106 = .ok (.bipush 6, 2) := by decide +kernel
theorem dX7_init_108 : decode cX7_init 108 = .ok (.newarray .int, 2) := by decide +kernel
theorem dX7_init_110 : decode cX7_init 110 = .ok (.putfield 69, 3) := by decide +kernel
theorem dX7_init_113 : decode cX7_init 113 = .ok (.aload_n 0, 1) := by decide +kernel
theorem dX7_init_114 : decode cX7_init 114 = .ok (.iconst 4, 1) := by decide +kernel
theorem dX7_init_115 : decode cX7_init 115 = .ok (.newarray .int, 2) := by decide +kernel
theorem dX7_init_117 : decode cX7_init 117 = .ok (.putfield 72, 3) := by decide +kernel
theorem dX7_init_120 : decode cX7_init 120 = .ok (.aload_n 0, 1) := by decide +kernel
theorem dX7_init_121 : decode cX7_init 121 = .ok (.bipush 36, 2) := by decide +kernel
theorem dX7_init_123 : decode cX7_init 123 = .ok (.newarray .int, 2) := by decide +kernel
theorem dX7_init_125 : decode cX7_init 125 = .ok (.putfield 75, 3) := by decide +kernel
theorem dX7_init_128 : decode cX7_init 128 = .ok (.iconst 0, 1) := by decide +kernel
theorem dX7_init_129 : decode cX7_init 129 = .ok (.istore_n 1, 1) := by decide +kernel
theorem dX7_init_130 : decode cX7_init 130 = .ok (.iload_n 1, 1) := by decide +kernel
theorem dX7_init_131 : decode cX7_init 131 = .ok (.bipush 6, 2) := by decide +kernel
theorem dX7_init_133 : decode cX7_init 133 = .ok (.if_icmp .ge 22, 3) := by decide +kernel
theorem dX7_init_136 : decode cX7_init 136 = .ok (.aload_n 0, 1) := by decide +kernel
theorem dX7_init_137 : decode cX7_init 137 = .ok (.getfield 49, 3) := by decide +kernel
theorem dX7_init_140 : decode cX7_init 140 = .ok (.iload_n 1, 1) := by decide +kernel
theorem dX7_init_141 : decode cX7_init 141 = .ok (.new 47, 3) := by decide +kernel
theorem dX7_init_144 : decode cX7_init 144 = .ok (.dup, 1) := by decide +kernel
theorem dX7_init_145 : decode cX7_init 145 = .ok (.invokespecial 78, 3) := by decide +kernel
theorem dX7_init_148 : decode cX7_init 148 = .ok (.aastore, 1) := by decide +kernel
theorem dX7_init_149 : decode cX7_init 149 = .ok (.iinc 1 1, 3) := by decide +kernel
theorem dX7_init_152 : decode cX7_init 152 = .ok (.goto (-22), 3) := by decide +kernel
theorem dX7_init_155 : decode cX7_init 155 = .ok (.iconst 0, 1) := by decide +kernel
theorem dX7_init_156 : decode cX7_init 156 = .ok (.istore_n 1, 1) := by decide +kernel
theorem dX7_init_157 : decode cX7_init 157 = .ok (.iload_n 1, 1) := by decide +kernel
theorem dX7_init_158 : decode cX7_init 158 = .ok (.iconst 4, 1) := by decide +kernel
theorem dX7_init_159 : decode cX7_init 159 = .ok (.if_icmp .ge 22, 3) := by decide +kernel
theorem dX7_init_162 : decode cX7_init 162 = .ok (.aload_n 0, 1) := by decide +kernel
theorem dX7_init_163 : decode cX7_init 163 = .ok (.getfield 65, 3) := by decide +kernel
theorem dX7_init_166 : decode cX7_init 166 = .ok (.iload_n 1, 1) := by decide +kernel
theorem dX7_init_167 : decode cX7_init 167 = .ok (.new 63, 3) := by decide +kernel
theorem dX7_init_170 : decode cX7_init 170 = .ok (.dup, 1) := by decide +kernel
theorem dX7_init_171 : decode cX7_init 171 = .ok (.invokespecial 79, 3) := by decide +kernel
theorem dX7_init_174 : decode cX7_init 174 = .ok (.aastore, 1) := by decide +kernel
theorem dX7_init_175 : decode cX7_init 175 = .ok (.iinc 1 1, 3) := by decide +kernel
theorem dX7_init_178 : decode cX7_init 178 = .ok (.goto (-21), 3) := by decide +kernel
theorem dX7_init_181 : decode cX7_init 181 = .ok (.iconst 0, 1) := by decide +kernel
theorem dX7_init_182 : decode cX7_init 182 = .ok (.istore_n 1, 1) := by decide +kernel
theorem dX7_init_183 : decode cX7_init 183 = .ok (.iload_n 1, 1) := by decide +kernel
theorem dX7_init_184 : decode cX7_init 184 = .ok (.ldc 80, 2) := by decide +kernel
theorem dX7_init_186 : decode cX7_init 186 = .ok (.invokevirtual 82, 3) := by decide +kernel
theorem dX7_init_189 : decode cX7_init 189 = .ok (.if_icmp .ge 22, 3) := by decide +kernel
theorem dX7_init_192 : decode cX7_init 192 = .ok (.aload_n 0, 1) := by decide +kernel
theorem dX7_init_193 : decode cX7_init 193 = .ok (.getfield 43, 3) := by decide +kernel
theorem dX7_init_196 : decode cX7_init 196 = .ok (.ldc 80, 2) := by decide +kernel
theorem dX7_init_198 : decode cX7_init 198 = .ok (.iload_n 1, 1) := by decide +kernel
theorem dX7_init_199 : decode cX7_init 199 = .ok (.invokevirtual 88, 3) := by decide +kernel
theorem dX7_init_202 : decode cX7_init 202 = .ok (.invokevirtual 92, 3) := by decide +kernel
theorem dX7_init_205 : decode cX7_init 205 = .ok (.iinc 1 1, 3) := by decide +kernel
theorem dX7_init_208 : decode cX7_init 208 = .ok (.goto (-25), 3) := by decide +kernel
theorem dX7_init_211 : decode cX7_init 211 = .ok (.aload_n 0, 1) := by decide +kernel
theorem dX7_init_212 : decode cX7_init 212 = .ok (.getfield 43, 3) := by decide +kernel
theorem dX7_init_215 : decode cX7_init 215 = .ok (.aload_n 0, 1) := by decide +kernel
theorem dX7_init_216 : decode cX7_init 216 = .ok (.getfield 49, 3) := by decide +kernel
theorem dX7_init_219 : decode cX7_init 219 = .ok (.iconst 0, 1) := by decide +kernel
theorem dX7_init_220 : decode cX7_init 220 = .ok (.aaload, 1) := by decide +kernel
theorem dX7_init_221 : decode cX7_init 221 = .ok (.invokevirtual 96, 3) := by decide +kernel
theorem dX7_init_224 : decode cX7_init 224 = .ok (.pop, 1) := by decide +kernel
theorem dX7_init_225 : decode cX7_init 225 = .ok (.aload_n 0, 1) := by decide +kernel
theorem dX7_init_226 : decode cX7_init 226 = .ok (.iconst 1, 1) := by decide +kernel
theorem dX7_init_227 : decode cX7_init 227 = .ok (.putfield 53, 3) := by decide +kernel
theorem dX7_init_230 : decode cX7_init 230 = .ok (.return_, 1) := by decide +kernel
theorem dX7_dog_0 : decode cX7_dog 0 = .ok (.iload_n 1, 1) := by decide +kernel
theorem dX7_dog_1 : decode cX7_dog 1 = .ok (.iconst 0, 1) := by decide +kernel
theorem dX7_dog_2 : decode cX7_dog 2 = .ok (.iconst 5, 1) := by decide +kernel
theorem dX7_dog_3 : decode cX7_dog 3 = .ok (.invokestatic 100, 3) := by decide +kernel
theorem dX7_dog_6 : decode cX7_dog 6 = .ok (.ifCond .eq 24, 3) := by decide +kernel
theorem dX7_dog_9 : decode cX7_dog 9 = .ok (.iload_n 2, 1) := by decide +kernel
theorem dX7_dog_10 : decode cX7_dog 10 = .ok (.bipush 10, 2) := by decide +kernel
theorem dX7_dog_12 : decode cX7_dog 12 = .ok (.bipush 99, 2) := by decide +kernel
theorem dX7_dog_14 : decode cX7_dog 14 = .ok (.invokestatic 100, 3) := by decide +kernel
theorem dX7_dog_17 : decode cX7_dog 17 = .ok (.ifCond .eq 13, 3) := by decide +kernel
theorem dX7_dog_20 : decode cX7_dog 20 = .ok (.iload_n 3, 1) := by decide +kernel
theorem dX7_dog_21 : decode cX7_dog 21 = .ok (.iconst 0, 1) := by decide +kernel
theorem dX7_dog_22 : decode cX7_dog 22 = .ok (.bipush 99, 2) := by decide +kernel
theorem dX7_dog_24 : decode cX7_dog 24 = .ok (.invokestatic 100, 3) := by decide +kernel
theorem dX7_dog_27 : decode cX7_dog 27 = .ok (.ifCond .ne 6, 3) := by decide +kernel
theorem dX7_dog_30 : decode cX7_dog 30 = .ok (.bipush (-2), 2) := by decide +kernel
theorem dX7_dog_32 : decode cX7_dog 32 = .ok (.ireturn, 1) := by decide +kernel
theorem dX7_dog_33 : decode cX7_dog 33 = .ok (.aload_n 0, 1) := by decide +kernel
theorem dX7_dog_34 : decode cX7_dog 34 = .ok (.getfield 10, 3) := by decide +kernel
theorem dX7_dog_37 : decode cX7_dog 37 = .ok (.getfield 104, 3) := by decide +kernel
theorem dX7_dog_40 : decode cX7_dog 40 = .ok (.getfield 107, 3) := by decide +kernel
theorem dX7_dog_43 : decode cX7_dog 43 = .ok (.ifCond .le 6, 3) := by decide +kernel
theorem dX7_dog_46 : decode cX7_dog 46 = .ok (.bipush (-3), 2) := by decide +kernel
theorem dX7_dog_48 : decode cX7_dog 48 = .ok (.ireturn, 1) := by decide +kernel
theorem dX7_dog_49 : decode cX7_dog 49 = .ok (.aload_n 0, 1) := by decide +kernel
theorem dX7_dog_50 : decode cX7_dog 50 = .ok (.getfield 10, 3) := by decide +kernel
theorem dX7_dog_53 : decode cX7_dog 53 = .ok (.getfield 110, 3) := by decide +kernel
theorem dX7_dog_56 : decode cX7_dog 56 = .ok (.bipush 6, 2) := by decide +kernel
theorem dX7_dog_58 : decode cX7_dog 58 = .ok (.if_icmp .lt 6, 3) := by decide +kernel
theorem dX7_dog_61 : decode cX7_dog 61 = .ok (.bipush (-4), 2) := by decide +kernel
theorem dX7_dog_63 : decode cX7_dog 63 = .ok (.ireturn, 1) := by decide +kernel
theorem dX7_dog_64 : decode cX7_dog 64 = .ok (.aload_n 0, 1) := by decide +kernel
theorem dX7_dog_65 : decode cX7_dog 65 = .ok (.getfield 10, 3) := by decide +kernel
theorem dX7_dog_68 : decode cX7_dog 68 = .ok (.iload_n 1, 1) := by decide +kernel
theorem dX7_dog_69 : decode cX7_dog 69 = .ok (.iload_n 2, 1) := by decide +kernel
theorem dX7_dog_70 : decode cX7_dog 70 = .ok (.bipush 10, 2) := by decide +kernel
theorem dX7_dog_72 : decode cX7_dog 72 = .ok (.idiv, 1) := by decide +kernel
theorem dX7_dog_73 : decode cX7_dog 73 = .ok (.iload_n 2, 1) := by decide +kernel
theorem dX7_dog_74 : decode cX7_dog 74 = .ok (.bipush 10, 2) := by decide +kernel
theorem dX7_dog_76 : decode cX7_dog 76 = .ok (.irem, 1) := by decide +kernel
theorem dX7_dog_77 : decode cX7_dog 77 = .ok (.iload_n 3, 1) := by decide +kernel
theorem dX7_dog_78 : decode cX7_dog 78 = .ok (.invokevirtual 111, 3) := by decide +kernel
theorem dX7_dog_81 : decode cX7_dog 81 = .ok (.ireturn, 1) := by decide +kernel
theorem dX7_set_0 : decode cX7_set 0 = .ok (.aload_n 0, 1) := by decide +kernel
theorem dX7_set_1 : decode cX7_set 1 = .ok (.iload_n 1, 1) := by decide +kernel
theorem dX7_set_2 : decode cX7_set 2 = .ok (.invokevirtual 115, 3) := by decide +kernel
theorem dX7_set_5 : decode cX7_set 5 = .ok (.ifCond .ne 6, 3) := by decide +kernel
theorem dX7_set_8 : decode cX7_set 8 = .ok (.bipush (-2), 2) := by decide +kernel
theorem dX7_set_10 : decode cX7_set 10 = .ok (.ireturn, 1) := by decide +kernel
theorem dX7_set_11 : decode cX7_set 11 = .ok (.iload_n 2, 1) := by decide +kernel
theorem dX7_set_12 : decode cX7_set 12 = .ok (.tableswitch 112 0 2 #[28, 56, 84], 28) := by decide +kernel
theorem dX7_set_40 : decode cX7_set 40 = .ok (.iload_n 3, 1) := by decide +kernel
theorem dX7_set_41 : decode cX7_set 41 = .ok (.iconst 1, 1) := by decide +kernel
theorem dX7_set_42 : decode cX7_set 42 = .ok (.bipush 9, 2) := by decide +kernel
theorem dX7_set_44 : decode cX7_set 44 = .ok (.invokestatic 100, 3) := by decide +kernel
theorem dX7_set_47 : decode cX7_set 47 = .ok (.ifCond .eq 18, 3) := by decide +kernel
theorem dX7_set_50 : decode cX7_set 50 = .ok (.aload_n 0, 1) := by decide +kernel
theorem dX7_set_51 : decode cX7_set 51 = .ok (.getfield 10, 3) := by decide +kernel
theorem dX7_set_54 : decode cX7_set 54 = .ok (.getfield 119, 3) := by decide +kernel
theorem dX7_set_57 : decode cX7_set 57 = .ok (.iload_n 1, 1) := by decide +kernel
theorem dX7_set_58 : decode cX7_set 58 = .ok (.iload_n 3, 1) := by decide +kernel
theorem dX7_set_59 : decode cX7_set 59 = .ok (.invokestatic 122, 3) := by decide +kernel
theorem dX7_set_62 : decode cX7_set 62 = .ok (.goto 5, 3) := by decide +kernel
theorem dX7_set_65 : decode cX7_set 65 = .ok (.bipush (-2), 2) := by decide +kernel
theorem dX7_set_67 : decode cX7_set 67 = .ok (.ireturn, 1) := by decide +kernel
theorem dX7_set_68 : decode cX7_set 68 = .ok (.iload_n 3, 1) := by decide +kernel
theorem dX7_set_69 : decode cX7_set 69 = .ok (.iconst 0, 1) := by decide +kernel
theorem dX7_set_70 : decode cX7_set 70 = .ok (.bipush 9, 2) := by decide +kernel
theorem dX7_set_72 : decode cX7_set 72 = .ok (.invokestatic 100, 3) := by decide +kernel
theorem dX7_set_75 : decode cX7_set 75 = .ok (.ifCond .eq 18, 3) := by decide +kernel
theorem dX7_set_78 : decode cX7_set 78 = .ok (.aload_n 0, 1) := by decide +kernel
theorem dX7_set_79 : decode cX7_set 79 = .ok (.getfield 10, 3) := by decide +kernel
theorem dX7_set_82 : decode cX7_set 82 = .ok (.getfield 126, 3) := by decide +kernel
theorem dX7_set_85 : decode cX7_set 85 = .ok (.iload_n 1, 1) := by decide +kernel
theorem dX7_set_86 : decode cX7_set 86 = .ok (.iload_n 3, 1) := by decide +kernel
theorem dX7_set_87 : decode cX7_set 87 = .ok (.invokestatic 122, 3) := by decide +kernel
theorem dX7_set_90 : decode cX7_set 90 = .ok (.goto 5, 3) := by decide +kernel
theorem dX7_set_93 : decode cX7_set 93 = .ok (.bipush (-2), 2) := by decide +kernel
theorem dX7_set_95 : decode cX7_set 95 = .ok (.ireturn, 1) := by decide +kernel
theorem dX7_set_96 : decode cX7_set 96 = .ok (.iload_n 3, 1) := by decide +kernel
theorem dX7_set_97 : decode cX7_set 97 = .ok (.iconst 0, 1) := by decide +kernel
theorem dX7_set_98 : decode cX7_set 98 = .ok (.bipush 99, 2) := by decide +kernel
theorem dX7_set_100 : decode cX7_set 100 = .ok (.invokestatic 100, 3) := by decide +kernel
theorem dX7_set_103 : decode cX7_set 103 = .ok (.ifCond .eq 18, 3) := by decide +kernel
theorem dX7_set_106 : decode cX7_set 106 = .ok (.aload_n 0, 1) := by decide +kernel
theorem dX7_set_107 : decode cX7_set 107 = .ok (.getfield 10, 3) := by decide +kernel
theorem dX7_set_110 : decode cX7_set 110 = .ok (.getfield 129, 3) := by decide +kernel
theorem dX7_set_113 : decode cX7_set 113 = .ok (.iload_n 1, 1) := by decide +kernel
theorem dX7_set_114 : decode cX7_set 114 = .ok (.iload_n 3, 1) := by decide +kernel
theorem dX7_set_115 : decode cX7_set 115 = .ok (.invokestatic 122, 3) := by decide +kernel
theorem dX7_set_118 : decode cX7_set 118 = .ok (.goto 5, 3) := by decide +kernel
theorem dX7_set_121 : decode cX7_set 121 = .ok (.bipush (-2), 2) := by decide +kernel
theorem dX7_set_123 : decode cX7_set 123 = .ok (.ireturn, 1) := by decide +kernel
theorem dX7_set_124 : decode cX7_set 124 = .ok (.bipush (-2), 2) := by decide +kernel
theorem dX7_set_126 : decode cX7_set 126 = .ok (.ireturn, 1) := by decide +kernel
theorem dX7_told_0 : decode cX7_told 0 = .ok (.aload_n 0, 1) := by decide +kernel
theorem dX7_told_1 : decode cX7_told 1 = .ok (.iload_n 1, 1) := by decide +kernel
theorem dX7_told_2 : decode cX7_told 2 = .ok (.invokevirtual 115, 3) := by decide +kernel
theorem dX7_told_5 : decode cX7_told 5 = .ok (.ifCond .ne 6, 3) := by decide +kernel
theorem dX7_told_8 : decode cX7_told 8 = .ok (.bipush (-2), 2) := by decide +kernel
theorem dX7_told_10 : decode cX7_told 10 = .ok (.ireturn, 1) := by decide +kernel
theorem dX7_told_11 : decode cX7_told 11 = .ok (.iload_n 2, 1) := by decide +kernel
theorem dX7_told_12 : decode cX7_told 12 = .ok (.tableswitch 106 0 5 #[40, 50, 60, 70, 80, 89], 40) := by decide +kernel
theorem dX7_told_52 : decode cX7_told 52 = .ok (.aload_n 0, 1) := by decide +kernel
theorem dX7_told_53 : decode cX7_told 53 = .ok (.getfield 10, 3) := by decide +kernel
theorem dX7_told_56 : decode cX7_told 56 = .ok (.getfield 119, 3) := by decide +kernel
theorem dX7_told_59 : decode cX7_told 59 = .ok (.iload_n 1, 1) := by decide +kernel
theorem dX7_told_60 : decode cX7_told 60 = .ok (.iaload, 1) := by decide +kernel
theorem dX7_told_61 : decode cX7_told 61 = .ok (.ireturn, 1) := by decide +kernel
theorem dX7_told_62 : decode cX7_told 62 = .ok (.aload_n 0, 1) := by decide +kernel
theorem dX7_told_63 : decode cX7_told 63 = .ok (.getfield 10, 3) := by decide +kernel
theorem dX7_told_66 : decode cX7_told 66 = .ok (.getfield 126, 3) := by decide +kernel
theorem dX7_told_69 : decode cX7_told 69 = .ok (.iload_n 1, 1) := by decide +kernel
theorem dX7_told_70 : decode cX7_told 70 = .ok (.iaload, 1) := by decide +kernel
theorem dX7_told_71 : decode cX7_told 71 = .ok (.ireturn, 1) := by decide +kernel
theorem dX7_told_72 : decode cX7_told 72 = .ok (.aload_n 0, 1) := by decide +kernel
theorem dX7_told_73 : decode cX7_told 73 = .ok (.getfield 10, 3) := by decide +kernel
theorem dX7_told_76 : decode cX7_told 76 = .ok (.getfield 129, 3) := by decide +kernel
theorem dX7_told_79 : decode cX7_told 79 = .ok (.iload_n 1, 1) := by decide +kernel
theorem dX7_told_80 : decode cX7_told 80 = .ok (.iaload, 1) := by decide +kernel
theorem dX7_told_81 : decode cX7_told 81 = .ok (.ireturn, 1) := by decide +kernel
theorem dX7_told_82 : decode cX7_told 82 = .ok (.aload_n 0, 1) := by decide +kernel
theorem dX7_told_83 : decode cX7_told 83 = .ok (.getfield 10, 3) := by decide +kernel
theorem dX7_told_86 : decode cX7_told 86 = .ok (.getfield 132, 3) := by decide +kernel
theorem dX7_told_89 : decode cX7_told 89 = .ok (.iload_n 1, 1) := by decide +kernel
theorem dX7_told_90 : decode cX7_told 90 = .ok (.iaload, 1) := by decide +kernel
theorem dX7_told_91 : decode cX7_told 91 = .ok (.ireturn, 1) := by decide +kernel
theorem dX7_told_92 : decode cX7_told 92 = .ok (.aload_n 0, 1) := by decide +kernel
theorem dX7_told_93 : decode cX7_told 93 = .ok (.getfield 10, 3) := by decide +kernel
theorem dX7_told_96 : decode cX7_told 96 = .ok (.iload_n 1, 1) := by decide +kernel
theorem dX7_told_97 : decode cX7_told 97 = .ok (.invokevirtual 135, 3) := by decide +kernel
theorem dX7_told_100 : decode cX7_told 100 = .ok (.ireturn, 1) := by decide +kernel
theorem dX7_told_101 : decode cX7_told 101 = .ok (.aload_n 0, 1) := by decide +kernel
theorem dX7_told_102 : decode cX7_told 102 = .ok (.getfield 10, 3) := by decide +kernel
theorem dX7_told_105 : decode cX7_told 105 = .ok (.iload_n 1, 1) := by decide +kernel
theorem dX7_told_106 : decode cX7_told 106 = .ok (.aload_n 0, 1) := by decide +kernel
theorem dX7_told_107 : decode cX7_told 107 = .ok (.getfield 10, 3) := by decide +kernel
theorem dX7_told_110 : decode cX7_told 110 = .ok (.iload_n 1, 1) := by decide +kernel
theorem dX7_told_111 : decode cX7_told 111 = .ok (.invokevirtual 135, 3) := by decide +kernel
theorem dX7_told_114 : decode cX7_told 114 = .ok (.invokevirtual 139, 3) := by decide +kernel
theorem dX7_told_117 : decode cX7_told 117 = .ok (.ireturn, 1) := by decide +kernel
theorem dX7_told_118 : decode cX7_told 118 = .ok (.bipush (-2), 2) := by decide +kernel
theorem dX7_told_120 : decode cX7_told 120 = .ok (.ireturn, 1) := by decide +kernel
theorem dX7_asks_0 : decode cX7_asks 0 = .ok (.aload_n 0, 1) := by decide +kernel
theorem dX7_asks_1 : decode cX7_asks 1 = .ok (.iload_n 1, 1) := by decide +kernel
theorem dX7_asks_2 : decode cX7_asks 2 = .ok (.invokevirtual 115, 3) := by decide +kernel
theorem dX7_asks_5 : decode cX7_asks 5 = .ok (.ifCond .eq 25, 3) := by decide +kernel
theorem dX7_asks_8 : decode cX7_asks 8 = .ok (.aload_n 0, 1) := by decide +kernel
theorem dX7_asks_9 : decode cX7_asks 9 = .ok (.iload_n 2, 1) := by decide +kernel
theorem dX7_asks_10 : decode cX7_asks 10 = .ok (.invokevirtual 115, 3) := by decide +kernel
theorem dX7_asks_13 : decode cX7_asks 13 = .ok (.ifCond .eq 17, 3) := by decide +kernel
theorem dX7_asks_16 : decode cX7_asks 16 = .ok (.iload_n 1, 1) := by decide +kernel
theorem dX7_asks_17 : decode cX7_asks 17 = .ok (.iload_n 2, 1) := by decide +kernel
theorem dX7_asks_18 : decode cX7_asks 18 = .ok (.if_icmp .eq 12, 3) := by decide +kernel
theorem dX7_asks_21 : decode cX7_asks 21 = .ok (.iload_n 3, 1) := by decide +kernel
theorem dX7_asks_22 : decode cX7_asks 22 = .ok (.iconst 0, 1) := by decide +kernel
theorem dX7_asks_23 : decode cX7_asks 23 = .ok (.iconst 2, 1) := by decide +kernel
theorem dX7_asks_24 : decode cX7_asks 24 = .ok (.invokestatic 100, 3) := by decide +kernel
theorem dX7_asks_27 : decode cX7_asks 27 = .ok (.ifCond .ne 6, 3) := by decide +kernel
theorem dX7_asks_30 : decode cX7_asks 30 = .ok (.ldc 143, 2) := by decide +kernel
theorem dX7_asks_32 : decode cX7_asks 32 = .ok (.ireturn, 1) := by decide +kernel
theorem dX7_asks_33 : decode cX7_asks 33 = .ok (.aload_n 0, 1) := by decide +kernel
theorem dX7_asks_34 : decode cX7_asks 34 = .ok (.iload_n 3, 1) := by decide +kernel
theorem dX7_asks_35 : decode cX7_asks 35 = .ok (.iload_n 1, 1) := by decide +kernel
theorem dX7_asks_36 : decode cX7_asks 36 = .ok (.iload_n 2, 1) := by decide +kernel
theorem dX7_asks_37 : decode cX7_asks 37 = .ok (.invokevirtual 144, 3) := by decide +kernel
theorem dX7_asks_40 : decode cX7_asks 40 = .ok (.ireturn, 1) := by decide +kernel
theorem dX7_feed_0 : decode cX7_feed 0 = .ok (.iload_n 1, 1) := by decide +kernel
theorem dX7_feed_1 : decode cX7_feed 1 = .ok (.iconst 0, 1) := by decide +kernel
theorem dX7_feed_2 : decode cX7_feed 2 = .ok (.sipush 255, 3) := by decide +kernel
theorem dX7_feed_5 : decode cX7_feed 5 = .ok (.invokestatic 100, 3) := by decide +kernel
theorem dX7_feed_8 : decode cX7_feed 8 = .ok (.ifCond .ne 6, 3) := by decide +kernel
theorem dX7_feed_11 : decode cX7_feed 11 = .ok (.bipush (-2), 2) := by decide +kernel
theorem dX7_feed_13 : decode cX7_feed 13 = .ok (.ireturn, 1) := by decide +kernel
theorem dX7_feed_14 : decode cX7_feed 14 = .ok (.aload_n 0, 1) := by decide +kernel
theorem dX7_feed_15 : decode cX7_feed 15 = .ok (.getfield 43, 3) := by decide +kernel
theorem dX7_feed_18 : decode cX7_feed 18 = .ok (.getfield 148, 3) := by decide +kernel
theorem dX7_feed_21 : decode cX7_feed 21 = .ok (.sipush 160, 3) := by decide +kernel
theorem dX7_feed_24 : decode cX7_feed 24 = .ok (.if_icmp .lt 6, 3) := by decide +kernel
theorem dX7_feed_27 : decode cX7_feed 27 = .ok (.bipush (-4), 2) := by decide +kernel
theorem dX7_feed_29 : decode cX7_feed 29 = .ok (.ireturn, 1) := by decide +kernel
theorem dX7_feed_30 : decode cX7_feed 30 = .ok (.aload_n 0, 1) := by decide +kernel
theorem dX7_feed_31 : decode cX7_feed 31 = .ok (.getfield 43, 3) := by decide +kernel
theorem dX7_feed_34 : decode cX7_feed 34 = .ok (.iload_n 1, 1) := by decide +kernel
theorem dX7_feed_35 : decode cX7_feed 35 = .ok (.invokevirtual 92, 3) := by decide +kernel
theorem dX7_feed_38 : decode cX7_feed 38 = .ok (.aload_n 0, 1) := by decide +kernel
theorem dX7_feed_39 : decode cX7_feed 39 = .ok (.getfield 43, 3) := by decide +kernel
theorem dX7_feed_42 : decode cX7_feed 42 = .ok (.getfield 148, 3) := by decide +kernel
theorem dX7_feed_45 : decode cX7_feed 45 = .ok (.ireturn, 1) := by decide +kernel
theorem dX7_text_0 : decode cX7_text 0 = .ok (.aload_n 0, 1) := by decide +kernel
theorem dX7_text_1 : decode cX7_text 1 = .ok (.getfield 53, 3) := by decide +kernel
theorem dX7_text_4 : decode cX7_text 4 = .ok (.bipush 6, 2) := by decide +kernel
theorem dX7_text_6 : decode cX7_text 6 = .ok (.if_icmp .lt 6, 3) := by decide +kernel
theorem dX7_text_9 : decode cX7_text 9 = .ok (.bipush (-4), 2) := by decide +kernel
theorem dX7_text_11 : decode cX7_text 11 = .ok (.ireturn, 1) := by decide +kernel
theorem dX7_text_12 : decode cX7_text 12 = .ok (.aload_n 0, 1) := by decide +kernel
theorem dX7_text_13 : decode cX7_text 13 = .ok (.getfield 43, 3) := by decide +kernel
theorem dX7_text_16 : decode cX7_text 16 = .ok (.aload_n 0, 1) := by decide +kernel
theorem dX7_text_17 : decode cX7_text 17 = .ok (.getfield 49, 3) := by decide +kernel
theorem dX7_text_20 : decode cX7_text 20 = .ok (.aload_n 0, 1) := by decide +kernel
theorem dX7_text_21 : decode cX7_text 21 = .ok (.getfield 53, 3) := by decide +kernel
theorem dX7_text_24 : decode cX7_text 24 = .ok (.aaload, 1) := by decide +kernel
theorem dX7_text_25 : decode cX7_text 25 = .ok (.invokevirtual 96, 3) := by decide +kernel
theorem dX7_text_28 : decode cX7_text 28 = .ok (.istore_n 1, 1) := by decide +kernel
theorem dX7_text_29 : decode cX7_text 29 = .ok (.iload_n 1, 1) := by decide +kernel
theorem dX7_text_30 : decode cX7_text 30 = .ok (.ifCond .lt 8, 3) := by decide +kernel
theorem dX7_text_33 : decode cX7_text 33 = .ok (.bipush (-100), 2) := by decide +kernel
theorem dX7_text_35 : decode cX7_text 35 = .ok (.iload_n 1, 1) := by decide +kernel
theorem dX7_text_36 : decode cX7_text 36 = .ok (.isub, 1) := by decide +kernel
theorem dX7_text_37 : decode cX7_text 37 = .ok (.ireturn, 1) := by decide +kernel
theorem dX7_text_38 : decode cX7_text 38 = .ok (.aload_n 0, 1) := by decide +kernel
theorem dX7_text_39 : decode cX7_text 39 = .ok (.dup, 1) := by decide +kernel
theorem dX7_text_40 : decode cX7_text 40 = .ok (.getfield 53, 3) := by decide +kernel
theorem dX7_text_43 : decode cX7_text 43 = .ok (.iconst 1, 1) := by decide +kernel
theorem dX7_text_44 : decode cX7_text 44 = .ok (.iadd, 1) := by decide +kernel
theorem dX7_text_45 : decode cX7_text 45 = .ok (.putfield 53, 3) := by decide +kernel
theorem dX7_text_48 : decode cX7_text 48 = .ok (.aload_n 0, 1) := by decide +kernel
theorem dX7_text_49 : decode cX7_text 49 = .ok (.getfield 53, 3) := by decide +kernel
theorem dX7_text_52 : decode cX7_text 52 = .ok (.iconst 1, 1) := by decide +kernel
theorem dX7_text_53 : decode cX7_text 53 = .ok (.isub, 1) := by decide +kernel
theorem dX7_text_54 : decode cX7_text 54 = .ok (.ireturn, 1) := by decide +kernel
theorem dX7_force_0 : decode cX7_force 0 = .ok (.iload_n 1, 1) := by decide +kernel
theorem dX7_force_1 : decode cX7_force 1 = .ok (.iconst 0, 1) := by decide +kernel
theorem dX7_force_2 : decode cX7_force 2 = .ok (.aload_n 0, 1) := by decide +kernel
theorem dX7_force_3 : decode cX7_force 3 = .ok (.getfield 53, 3) := by decide +kernel
theorem dX7_force_6 : decode cX7_force 6 = .ok (.iconst 1, 1) := by decide +kernel
theorem dX7_force_7 : decode cX7_force 7 = .ok (.isub, 1) := by decide +kernel
theorem dX7_force_8 : decode cX7_force 8 = .ok (.invokestatic 100, 3) := by decide +kernel
theorem dX7_force_11 : decode cX7_force 11 = .ok (.ifCond .ne 6, 3) := by decide +kernel
theorem dX7_force_14 : decode cX7_force 14 = .ok (.bipush (-2), 2) := by decide +kernel
theorem dX7_force_16 : decode cX7_force 16 = .ok (.ireturn, 1) := by decide +kernel
theorem dX7_force_17 : decode cX7_force 17 = .ok (.aload_n 0, 1) := by decide +kernel
theorem dX7_force_18 : decode cX7_force 18 = .ok (.getfield 10, 3) := by decide +kernel
theorem dX7_force_21 : decode cX7_force 21 = .ok (.getfield 149, 3) := by decide +kernel
theorem dX7_force_24 : decode cX7_force 24 = .ok (.istore_n 2, 1) := by decide +kernel
theorem dX7_force_25 : decode cX7_force 25 = .ok (.aload_n 0, 1) := by decide +kernel
theorem dX7_force_26 : decode cX7_force 26 = .ok (.getfield 10, 3) := by decide +kernel
theorem dX7_force_29 : decode cX7_force 29 = .ok (.iload_n 1, 1) := by decide +kernel
theorem dX7_force_30 : decode cX7_force 30 = .ok (.putfield 149, 3) := by decide +kernel
theorem dX7_force_33 : decode cX7_force 33 = .ok (.iload_n 2, 1) := by decide +kernel
theorem dX7_force_34 : decode cX7_force 34 = .ok (.ireturn, 1) := by decide +kernel
theorem dX7_cross_0 : decode cX7_cross 0 = .ok (.iload_n 1, 1) := by decide +kernel
theorem dX7_cross_1 : decode cX7_cross 1 = .ok (.iconst 0, 1) := by decide +kernel
theorem dX7_cross_2 : decode cX7_cross 2 = .ok (.aload_n 0, 1) := by decide +kernel
theorem dX7_cross_3 : decode cX7_cross 3 = .ok (.getfield 10, 3) := by decide +kernel
theorem dX7_cross_6 : decode cX7_cross 6 = .ok (.getfield 110, 3) := by decide +kernel
theorem dX7_cross_9 : decode cX7_cross 9 = .ok (.iconst 2, 1) := by decide +kernel
theorem dX7_cross_10 : decode cX7_cross 10 = .ok (.isub, 1) := by decide +kernel
theorem dX7_cross_11 : decode cX7_cross 11 = .ok (.invokestatic 100, 3) := by decide +kernel
theorem dX7_cross_14 : decode cX7_cross 14 = .ok (.ifCond .eq 12, 3) := by decide +kernel
theorem dX7_cross_17 : decode cX7_cross 17 = .ok (.iload_n 2, 1) := by decide +kernel
theorem dX7_cross_18 : decode cX7_cross 18 = .ok (.iconst 0, 1) := by decide +kernel
theorem dX7_cross_19 : decode cX7_cross 19 = .ok (.iconst 1, 1) := by decide +kernel
theorem dX7_cross_20 : decode cX7_cross 20 = .ok (.invokestatic 100, 3) := by decide +kernel
theorem dX7_cross_23 : decode cX7_cross 23 = .ok (.ifCond .ne 6, 3) := by decide +kernel
theorem dX7_cross_26 : decode cX7_cross 26 = .ok (.bipush (-2), 2) := by decide +kernel
theorem dX7_cross_28 : decode cX7_cross 28 = .ok (.ireturn, 1) := by decide +kernel
theorem dX7_cross_29 : decode cX7_cross 29 = .ok (.aload_n 0, 1) := by decide +kernel
theorem dX7_cross_30 : decode cX7_cross 30 = .ok (.getfield 10, 3) := by decide +kernel
theorem dX7_cross_33 : decode cX7_cross 33 = .ok (.getfield 104, 3) := by decide +kernel
theorem dX7_cross_36 : decode cX7_cross 36 = .ok (.getfield 107, 3) := by decide +kernel
theorem dX7_cross_39 : decode cX7_cross 39 = .ok (.bipush 40, 2) := by decide +kernel
theorem dX7_cross_41 : decode cX7_cross 41 = .ok (.if_icmp .lt 6, 3) := by decide +kernel
theorem dX7_cross_44 : decode cX7_cross 44 = .ok (.bipush (-4), 2) := by decide +kernel
theorem dX7_cross_46 : decode cX7_cross 46 = .ok (.ireturn, 1) := by decide +kernel
theorem dX7_cross_47 : decode cX7_cross 47 = .ok (.aload_n 0, 1) := by decide +kernel
theorem dX7_cross_48 : decode cX7_cross 48 = .ok (.getfield 10, 3) := by decide +kernel
theorem dX7_cross_51 : decode cX7_cross 51 = .ok (.getfield 104, 3) := by decide +kernel
theorem dX7_cross_54 : decode cX7_cross 54 = .ok (.iload_n 1, 1) := by decide +kernel
theorem dX7_cross_55 : decode cX7_cross 55 = .ok (.iload_n 2, 1) := by decide +kernel
theorem dX7_cross_56 : decode cX7_cross 56 = .ok (.aload_n 0, 1) := by decide +kernel
theorem dX7_cross_57 : decode cX7_cross 57 = .ok (.getfield 10, 3) := by decide +kernel
theorem dX7_cross_60 : decode cX7_cross 60 = .ok (.getfield 152, 3) := by decide +kernel
theorem dX7_cross_63 : decode cX7_cross 63 = .ok (.iload_n 1, 1) := by decide +kernel
theorem dX7_cross_64 : decode cX7_cross 64 = .ok (.iaload, 1) := by decide +kernel
theorem dX7_cross_65 : decode cX7_cross 65 = .ok (.aload_n 0, 1) := by decide +kernel
theorem dX7_cross_66 : decode cX7_cross 66 = .ok (.getfield 10, 3) := by decide +kernel
theorem dX7_cross_69 : decode cX7_cross 69 = .ok (.getfield 152, 3) := by decide +kernel
theorem dX7_cross_72 : decode cX7_cross 72 = .ok (.iload_n 1, 1) := by decide +kernel
theorem dX7_cross_73 : decode cX7_cross 73 = .ok (.iconst 1, 1) := by decide +kernel
theorem dX7_cross_74 : decode cX7_cross 74 = .ok (.iadd, 1) := by decide +kernel
theorem dX7_cross_75 : decode cX7_cross 75 = .ok (.iaload, 1) := by decide +kernel
theorem dX7_cross_76 : decode cX7_cross 76 = .ok (.aload_n 0, 1) := by decide +kernel
theorem dX7_cross_77 : decode cX7_cross 77 = .ok (.getfield 10, 3) := by decide +kernel
theorem dX7_cross_80 : decode cX7_cross 80 = .ok (.iload_n 1, 1) := by decide +kernel
theorem dX7_cross_81 : decode cX7_cross 81 = .ok (.invokevirtual 155, 3) := by decide +kernel
theorem dX7_cross_84 : decode cX7_cross 84 = .ok (.invokevirtual 158, 3) := by decide +kernel
theorem dX7_cross_87 : decode cX7_cross 87 = .ok (.aload_n 0, 1) := by decide +kernel
theorem dX7_cross_88 : decode cX7_cross 88 = .ok (.getfield 10, 3) := by decide +kernel
theorem dX7_cross_91 : decode cX7_cross 91 = .ok (.iload_n 1, 1) := by decide +kernel
theorem dX7_cross_92 : decode cX7_cross 92 = .ok (.invokevirtual 162, 3) := by decide +kernel
theorem dX7_cross_95 : decode cX7_cross 95 = .ok (.aload_n 0, 1) := by decide +kernel
theorem dX7_cross_96 : decode cX7_cross 96 = .ok (.getfield 10, 3) := by decide +kernel
theorem dX7_cross_99 : decode cX7_cross 99 = .ok (.getfield 104, 3) := by decide +kernel
theorem dX7_cross_102 : decode cX7_cross 102 = .ok (.getfield 107, 3) := by decide +kernel
theorem dX7_cross_105 : decode cX7_cross 105 = .ok (.ireturn, 1) := by decide +kernel
theorem dX7_undo_0 : decode cX7_undo 0 = .ok (.aload_n 0, 1) := by decide +kernel
theorem dX7_undo_1 : decode cX7_undo 1 = .ok (.getfield 10, 3) := by decide +kernel
theorem dX7_undo_4 : decode cX7_undo 4 = .ok (.getfield 104, 3) := by decide +kernel
theorem dX7_undo_7 : decode cX7_undo 7 = .ok (.astore_n 1, 1) := by decide +kernel
theorem dX7_undo_8 : decode cX7_undo 8 = .ok (.aload_n 1, 1) := by decide +kernel
theorem dX7_undo_9 : decode cX7_undo 9 = .ok (.getfield 107, 3) := by decide +kernel
theorem dX7_undo_12 : decode cX7_undo 12 = .ok (.ifCond .gt 6, 3) := by decide +kernel
theorem dX7_undo_15 : decode cX7_undo 15 = .ok (.bipush (-3), 2) := by decide +kernel
theorem dX7_undo_17 : decode cX7_undo 17 = .ok (.ireturn, 1) := by decide +kernel
theorem dX7_undo_18 : decode cX7_undo 18 = .ok (.aload_n 0, 1) := by decide +kernel
theorem dX7_undo_19 : decode cX7_undo 19 = .ok (.getfield 10, 3) := by decide +kernel
theorem dX7_undo_22 : decode cX7_undo 22 = .ok (.aload_n 1, 1) := by decide +kernel
theorem dX7_undo_23 : decode cX7_undo 23 = .ok (.getfield 165, 3) := by decide +kernel
theorem dX7_undo_26 : decode cX7_undo 26 = .ok (.aload_n 1, 1) := by decide +kernel
theorem dX7_undo_27 : decode cX7_undo 27 = .ok (.getfield 107, 3) := by decide +kernel
theorem dX7_undo_30 : decode cX7_undo 30 = .ok (.iconst 1, 1) := by decide +kernel
theorem dX7_undo_31 : decode cX7_undo 31 = .ok (.isub, 1) := by decide +kernel
theorem dX7_undo_32 : decode cX7_undo 32 = .ok (.iaload, 1) := by decide +kernel
theorem dX7_undo_33 : decode cX7_undo 33 = .ok (.invokevirtual 162, 3) := by decide +kernel
theorem dX7_undo_36 : decode cX7_undo 36 = .ok (.aload_n 1, 1) := by decide +kernel
theorem dX7_undo_37 : decode cX7_undo 37 = .ok (.dup, 1) := by decide +kernel
theorem dX7_undo_38 : decode cX7_undo 38 = .ok (.getfield 107, 3) := by decide +kernel
theorem dX7_undo_41 : decode cX7_undo 41 = .ok (.iconst 1, 1) := by decide +kernel
theorem dX7_undo_42 : decode cX7_undo 42 = .ok (.isub, 1) := by decide +kernel
theorem dX7_undo_43 : decode cX7_undo 43 = .ok (.putfield 107, 3) := by decide +kernel
theorem dX7_undo_46 : decode cX7_undo 46 = .ok (.aload_n 1, 1) := by decide +kernel
theorem dX7_undo_47 : decode cX7_undo 47 = .ok (.getfield 107, 3) := by decide +kernel
theorem dX7_undo_50 : decode cX7_undo 50 = .ok (.ireturn, 1) := by decide +kernel
theorem dX7_comb_0 : decode cX7_comb 0 = .ok (.aload_n 0, 1) := by decide +kernel
theorem dX7_comb_1 : decode cX7_comb 1 = .ok (.getfield 10, 3) := by decide +kernel
theorem dX7_comb_4 : decode cX7_comb 4 = .ok (.getfield 104, 3) := by decide +kernel
theorem dX7_comb_7 : decode cX7_comb 7 = .ok (.getfield 107, 3) := by decide +kernel
theorem dX7_comb_10 : decode cX7_comb 10 = .ok (.istore_n 1, 1) := by decide +kernel
theorem dX7_comb_11 : decode cX7_comb 11 = .ok (.aload_n 0, 1) := by decide +kernel
theorem dX7_comb_12 : decode cX7_comb 12 = .ok (.invokevirtual 168, 3) := by decide +kernel
theorem dX7_comb_15 : decode cX7_comb 15 = .ok (.aload_n 0, 1) := by decide +kernel
theorem dX7_comb_16 : decode cX7_comb 16 = .ok (.getfield 10, 3) := by decide +kernel
theorem dX7_comb_19 : decode cX7_comb 19 = .ok (.getfield 104, 3) := by decide +kernel
theorem dX7_comb_22 : decode cX7_comb 22 = .ok (.aload_n 0, 1) := by decide +kernel
theorem dX7_comb_23 : decode cX7_comb 23 = .ok (.getfield 26, 3) := by decide +kernel
theorem dX7_comb_26 : decode cX7_comb 26 = .ok (.invokevirtual 171, 3) := by decide +kernel
theorem dX7_comb_29 : decode cX7_comb 29 = .ok (.iload_n 1, 1) := by decide +kernel
theorem dX7_comb_30 : decode cX7_comb 30 = .ok (.aload_n 0, 1) := by decide +kernel
theorem dX7_comb_31 : decode cX7_comb 31 = .ok (.getfield 26, 3) := by decide +kernel
theorem dX7_comb_34 : decode cX7_comb 34 = .ok (.getfield 107, 3) := by decide +kernel
theorem dX7_comb_37 : decode cX7_comb 37 = .ok (.isub, 1) := by decide +kernel
theorem dX7_comb_38 : decode cX7_comb 38 = .ok (.ireturn, 1) := by decide +kernel
theorem dX7_at_0 : decode cX7_at 0 = .ok (.iload_n 1, 1) := by decide +kernel
theorem dX7_at_1 : decode cX7_at 1 = .ok (.iconst 0, 1) := by decide +kernel
theorem dX7_at_2 : decode cX7_at 2 = .ok (.aload_n 0, 1) := by decide +kernel
theorem dX7_at_3 : decode cX7_at 3 = .ok (.getfield 10, 3) := by decide +kernel
theorem dX7_at_6 : decode cX7_at 6 = .ok (.getfield 110, 3) := by decide +kernel
theorem dX7_at_9 : decode cX7_at 9 = .ok (.iconst 1, 1) := by decide +kernel
theorem dX7_at_10 : decode cX7_at 10 = .ok (.isub, 1) := by decide +kernel
theorem dX7_at_11 : decode cX7_at 11 = .ok (.invokestatic 100, 3) := by decide +kernel
theorem dX7_at_14 : decode cX7_at 14 = .ok (.ifCond .eq 15, 3) := by decide +kernel
theorem dX7_at_17 : decode cX7_at 17 = .ok (.aload_n 0, 1) := by decide +kernel
theorem dX7_at_18 : decode cX7_at 18 = .ok (.getfield 10, 3) := by decide +kernel
theorem dX7_at_21 : decode cX7_at 21 = .ok (.getfield 152, 3) := by decide +kernel
theorem dX7_at_24 : decode cX7_at 24 = .ok (.iload_n 1, 1) := by decide +kernel
theorem dX7_at_25 : decode cX7_at 25 = .ok (.iaload, 1) := by decide +kernel
theorem dX7_at_26 : decode cX7_at 26 = .ok (.goto 5, 3) := by decide +kernel
theorem dX7_at_29 : decode cX7_at 29 = .ok (.bipush (-2), 2) := by decide +kernel
theorem dX7_at_31 : decode cX7_at 31 = .ok (.ireturn, 1) := by decide +kernel
theorem dX7_left_0 : decode cX7_left 0 = .ok (.aload_n 0, 1) := by decide +kernel
theorem dX7_left_1 : decode cX7_left 1 = .ok (.invokevirtual 168, 3) := by decide +kernel
theorem dX7_left_4 : decode cX7_left 4 = .ok (.iload_n 1, 1) := by decide +kernel
theorem dX7_left_5 : decode cX7_left 5 = .ok (.iconst 0, 1) := by decide +kernel
theorem dX7_left_6 : decode cX7_left 6 = .ok (.aload_n 0, 1) := by decide +kernel
theorem dX7_left_7 : decode cX7_left 7 = .ok (.getfield 26, 3) := by decide +kernel
theorem dX7_left_10 : decode cX7_left 10 = .ok (.getfield 107, 3) := by decide +kernel
theorem dX7_left_13 : decode cX7_left 13 = .ok (.iconst 1, 1) := by decide +kernel
theorem dX7_left_14 : decode cX7_left 14 = .ok (.isub, 1) := by decide +kernel
theorem dX7_left_15 : decode cX7_left 15 = .ok (.invokestatic 100, 3) := by decide +kernel
theorem dX7_left_18 : decode cX7_left 18 = .ok (.ifCond .ne 5, 3) := by decide +kernel
theorem dX7_left_21 : decode cX7_left 21 = .ok (.iconst (-1), 1) := by decide +kernel
theorem dX7_left_22 : decode cX7_left 22 = .ok (.ireturn, 1) := by decide +kernel
theorem dX7_left_23 : decode cX7_left 23 = .ok (.bipush 10, 2) := by decide +kernel
theorem dX7_left_25 : decode cX7_left 25 = .ok (.aload_n 0, 1) := by decide +kernel
theorem dX7_left_26 : decode cX7_left 26 = .ok (.getfield 26, 3) := by decide +kernel
theorem dX7_left_29 : decode cX7_left 29 = .ok (.getfield 165, 3) := by decide +kernel
theorem dX7_left_32 : decode cX7_left 32 = .ok (.iload_n 1, 1) := by decide +kernel
theorem dX7_left_33 : decode cX7_left 33 = .ok (.iaload, 1) := by decide +kernel
theorem dX7_left_34 : decode cX7_left 34 = .ok (.imul, 1) := by decide +kernel
theorem dX7_left_35 : decode cX7_left 35 = .ok (.aload_n 0, 1) := by decide +kernel
theorem dX7_left_36 : decode cX7_left 36 = .ok (.getfield 26, 3) := by decide +kernel
theorem dX7_left_39 : decode cX7_left 39 = .ok (.getfield 175, 3) := by decide +kernel
theorem dX7_left_42 : decode cX7_left 42 = .ok (.iload_n 1, 1) := by decide +kernel
theorem dX7_left_43 : decode cX7_left 43 = .ok (.iaload, 1) := by decide +kernel
theorem dX7_left_44 : decode cX7_left 44 = .ok (.iadd, 1) := by decide +kernel
theorem dX7_left_45 : decode cX7_left 45 = .ok (.ireturn, 1) := by decide +kernel
theorem dX7_who_0 : decode cX7_who 0 = .ok (.aload_n 0, 1) := by decide +kernel
theorem dX7_who_1 : decode cX7_who 1 = .ok (.iload_n 1, 1) := by decide +kernel
theorem dX7_who_2 : decode cX7_who 2 = .ok (.invokevirtual 115, 3) := by decide +kernel
theorem dX7_who_5 : decode cX7_who 5 = .ok (.ifCond .eq 11, 3) := by decide +kernel
theorem dX7_who_8 : decode cX7_who 8 = .ok (.aload_n 0, 1) := by decide +kernel
theorem dX7_who_9 : decode cX7_who 9 = .ok (.iload_n 2, 1) := by decide +kernel
theorem dX7_who_10 : decode cX7_who 10 = .ok (.invokevirtual 115, 3) := by decide +kernel
theorem dX7_who_13 : decode cX7_who 13 = .ok (.ifCond .ne 6, 3) := by decide +kernel
theorem dX7_who_16 : decode cX7_who 16 = .ok (.bipush (-2), 2) := by decide +kernel
theorem dX7_who_18 : decode cX7_who 18 = .ok (.ireturn, 1) := by decide +kernel
theorem dX7_who_19 : decode cX7_who 19 = .ok (.aload_n 0, 1) := by decide +kernel
theorem dX7_who_20 : decode cX7_who 20 = .ok (.invokevirtual 168, 3) := by decide +kernel
theorem dX7_who_23 : decode cX7_who 23 = .ok (.iload_n 1, 1) := by decide +kernel
theorem dX7_who_24 : decode cX7_who 24 = .ok (.invokestatic 178, 3) := by decide +kernel
theorem dX7_who_27 : decode cX7_who 27 = .ok (.iload_n 2, 1) := by decide +kernel
theorem dX7_who_28 : decode cX7_who 28 = .ok (.invokestatic 178, 3) := by decide +kernel
theorem dX7_who_31 : decode cX7_who 31 = .ok (.ior, 1) := by decide +kernel
theorem dX7_who_32 : decode cX7_who 32 = .ok (.istore_n 3, 1) := by decide +kernel
theorem dX7_who_33 : decode cX7_who 33 = .ok (.iconst 0, 1) := by decide +kernel
theorem dX7_who_34 : decode cX7_who 34 = .ok (.istore 4, 2) := by decide +kernel
theorem dX7_who_36 : decode cX7_who 36 = .ok (.iconst 0, 1) := by decide +kernel
theorem dX7_who_37 : decode cX7_who 37 = .ok (.istore 5, 2) := by decide +kernel
theorem dX7_who_39 : decode cX7_who 39 = .ok (.iload 5, 2) := by decide +kernel
theorem dX7_who_41 : decode cX7_who 41 = .ok (.aload_n 0, 1) := by decide +kernel
theorem dX7_who_42 : decode cX7_who 42 = .ok (.getfield 26, 3) := by decide +kernel
theorem dX7_who_45 : decode cX7_who 45 = .ok (.getfield 107, 3) := by decide +kernel
theorem dX7_who_48 : decode cX7_who 48 = .ok (.if_icmp .ge 27, 3) := by decide +kernel
theorem dX7_who_51 : decode cX7_who 51 = .ok (.aload_n 0, 1) := by decide +kernel
theorem dX7_who_52 : decode cX7_who 52 = .ok (.getfield 26, 3) := by decide +kernel
theorem dX7_who_55 : decode cX7_who 55 = .ok (.iload 5, 2) := by decide +kernel
theorem dX7_who_57 : decode cX7_who 57 = .ok (.invokevirtual 181, 3) := by decide +kernel
theorem dX7_who_60 : decode cX7_who 60 = .ok (.iload_n 3, 1) := by decide +kernel
theorem dX7_who_61 : decode cX7_who 61 = .ok (.iand, 1) := by decide +kernel
theorem dX7_who_62 : decode cX7_who 62 = .ok (.iload_n 3, 1) := by decide +kernel
theorem dX7_who_63 : decode cX7_who 63 = .ok (.if_icmp .ne 6, 3) := by decide +kernel
theorem dX7_who_66 : decode cX7_who 66 = .ok (.iinc 4 1, 3) := by decide +kernel
theorem dX7_who_69 : decode cX7_who 69 = .ok (.iinc 5 1, 3) := by decide +kernel
theorem dX7_who_72 : decode cX7_who 72 = .ok (.goto (-33), 3) := by decide +kernel
theorem dX7_who_75 : decode cX7_who 75 = .ok (.iload_n 1, 1) := by decide +kernel
theorem dX7_who_76 : decode cX7_who 76 = .ok (.iload_n 2, 1) := by decide +kernel
theorem dX7_who_77 : decode cX7_who 77 = .ok (.if_icmp .ne 12, 3) := by decide +kernel
theorem dX7_who_80 : decode cX7_who 80 = .ok (.iload 4, 2) := by decide +kernel
theorem dX7_who_82 : decode cX7_who 82 = .ok (.iconst 1, 1) := by decide +kernel
theorem dX7_who_83 : decode cX7_who 83 = .ok (.invokestatic 184, 3) := by decide +kernel
theorem dX7_who_86 : decode cX7_who 86 = .ok (.goto 5, 3) := by decide +kernel
theorem dX7_who_89 : decode cX7_who 89 = .ok (.iload 4, 2) := by decide +kernel
theorem dX7_who_91 : decode cX7_who 91 = .ok (.ireturn, 1) := by decide +kernel
theorem dX7_without_0 : decode cX7_without 0 = .ok (.iload_n 1, 1) := by decide +kernel
theorem dX7_without_1 : decode cX7_without 1 = .ok (.iconst 0, 1) := by decide +kernel
theorem dX7_without_2 : decode cX7_without 2 = .ok (.aload_n 0, 1) := by decide +kernel
theorem dX7_without_3 : decode cX7_without 3 = .ok (.invokevirtual 189, 3) := by decide +kernel
theorem dX7_without_6 : decode cX7_without 6 = .ok (.invokestatic 100, 3) := by decide +kernel
theorem dX7_without_9 : decode cX7_without 9 = .ok (.ifCond .ne 6, 3) := by decide +kernel
theorem dX7_without_12 : decode cX7_without 12 = .ok (.bipush (-2), 2) := by decide +kernel
theorem dX7_without_14 : decode cX7_without 14 = .ok (.ireturn, 1) := by decide +kernel
theorem dX7_without_15 : decode cX7_without 15 = .ok (.aload_n 0, 1) := by decide +kernel
theorem dX7_without_16 : decode cX7_without 16 = .ok (.iload_n 1, 1) := by decide +kernel
theorem dX7_without_17 : decode cX7_without 17 = .ok (.invokevirtual 192, 3) := by decide +kernel
theorem dX7_without_20 : decode cX7_without 20 = .ok (.ireturn, 1) := by decide +kernel
theorem dX7_unclip_0 : decode cX7_unclip 0 = .ok (.iload_n 1, 1) := by decide +kernel
theorem dX7_unclip_1 : decode cX7_unclip 1 = .ok (.iconst 0, 1) := by decide +kernel
theorem dX7_unclip_2 : decode cX7_unclip 2 = .ok (.iconst 1, 1) := by decide +kernel
theorem dX7_unclip_3 : decode cX7_unclip 3 = .ok (.invokestatic 100, 3) := by decide +kernel
theorem dX7_unclip_6 : decode cX7_unclip 6 = .ok (.ifCond .ne 6, 3) := by decide +kernel
theorem dX7_unclip_9 : decode cX7_unclip 9 = .ok (.bipush (-2), 2) := by decide +kernel
theorem dX7_unclip_11 : decode cX7_unclip 11 = .ok (.ireturn, 1) := by decide +kernel
theorem dX7_unclip_12 : decode cX7_unclip 12 = .ok (.aload_n 0, 1) := by decide +kernel
theorem dX7_unclip_13 : decode cX7_unclip 13 = .ok (.invokevirtual 189, 3) := by decide +kernel
theorem dX7_unclip_16 : decode cX7_unclip 16 = .ok (.istore_n 2, 1) := by decide +kernel
theorem dX7_unclip_17 : decode cX7_unclip 17 = .ok (.iconst 0, 1) := by decide +kernel
theorem dX7_unclip_18 : decode cX7_unclip 18 = .ok (.istore_n 3, 1) := by decide +kernel
theorem dX7_unclip_19 : decode cX7_unclip 19 = .ok (.iload_n 3, 1) := by decide +kernel
theorem dX7_unclip_20 : decode cX7_unclip 20 = .ok (.aload_n 0, 1) := by decide +kernel
theorem dX7_unclip_21 : decode cX7_unclip 21 = .ok (.invokevirtual 189, 3) := by decide +kernel
theorem dX7_unclip_24 : decode cX7_unclip 24 = .ok (.if_icmp .ge 30, 3) := by decide +kernel
theorem dX7_unclip_27 : decode cX7_unclip 27 = .ok (.iload_n 3, 1) := by decide +kernel
theorem dX7_unclip_28 : decode cX7_unclip 28 = .ok (.invokestatic 195, 3) := by decide +kernel
theorem dX7_unclip_31 : decode cX7_unclip 31 = .ok (.iload_n 2, 1) := by decide +kernel
theorem dX7_unclip_32 : decode cX7_unclip 32 = .ok (.invokestatic 195, 3) := by decide +kernel
theorem dX7_unclip_35 : decode cX7_unclip 35 = .ok (.if_icmp .ge 13, 3) := by decide +kernel
theorem dX7_unclip_38 : decode cX7_unclip 38 = .ok (.aload_n 0, 1) := by decide +kernel
theorem dX7_unclip_39 : decode cX7_unclip 39 = .ok (.iload_n 3, 1) := by decide +kernel
theorem dX7_unclip_40 : decode cX7_unclip 40 = .ok (.invokevirtual 192, 3) := by decide +kernel
theorem dX7_unclip_43 : decode cX7_unclip 43 = .ok (.ifCond .ne 5, 3) := by decide +kernel
theorem dX7_unclip_46 : decode cX7_unclip 46 = .ok (.iload_n 3, 1) := by decide +kernel
theorem dX7_unclip_47 : decode cX7_unclip 47 = .ok (.istore_n 2, 1) := by decide +kernel
theorem dX7_unclip_48 : decode cX7_unclip 48 = .ok (.iinc 3 1, 3) := by decide +kernel
theorem dX7_unclip_51 : decode cX7_unclip 51 = .ok (.goto (-32), 3) := by decide +kernel
theorem dX7_unclip_54 : decode cX7_unclip 54 = .ok (.iload_n 1, 1) := by decide +kernel
theorem dX7_unclip_55 : decode cX7_unclip 55 = .ok (.ifCond .ne 7, 3) := by decide +kernel
theorem dX7_unclip_58 : decode cX7_unclip 58 = .ok (.iload_n 2, 1) := by decide +kernel
theorem dX7_unclip_59 : decode cX7_unclip 59 = .ok (.goto 7, 3) := by decide +kernel
theorem dX7_unclip_62 : decode cX7_unclip 62 = .ok (.iload_n 2, 1) := by decide +kernel
theorem dX7_unclip_63 : decode cX7_unclip 63 = .ok (.invokestatic 195, 3) := by decide +kernel
theorem dX7_unclip_66 : decode cX7_unclip 66 = .ok (.ireturn, 1) := by decide +kernel
theorem dX7_cost_0 : decode cX7_cost 0 = .ok (.aload_n 0, 1) := by decide +kernel
theorem dX7_cost_1 : decode cX7_cost 1 = .ok (.invokevirtual 168, 3) := by decide +kernel
theorem dX7_cost_4 : decode cX7_cost 4 = .ok (.iconst 0, 1) := by decide +kernel
theorem dX7_cost_5 : decode cX7_cost 5 = .ok (.istore_n 1, 1) := by decide +kernel
theorem dX7_cost_6 : decode cX7_cost 6 = .ok (.iconst 0, 1) := by decide +kernel
theorem dX7_cost_7 : decode cX7_cost 7 = .ok (.istore_n 2, 1) := by decide +kernel
theorem dX7_cost_8 : decode cX7_cost 8 = .ok (.iload_n 2, 1) := by decide +kernel
theorem dX7_cost_9 : decode cX7_cost 9 = .ok (.aload_n 0, 1) := by decide +kernel
theorem dX7_cost_10 : decode cX7_cost 10 = .ok (.getfield 26, 3) := by decide +kernel
theorem dX7_cost_13 : decode cX7_cost 13 = .ok (.getfield 107, 3) := by decide +kernel
theorem dX7_cost_16 : decode cX7_cost 16 = .ok (.if_icmp .ge 35, 3) := by decide +kernel
theorem dX7_cost_19 : decode cX7_cost 19 = .ok (.iload_n 1, 1) := by decide +kernel
theorem dX7_cost_20 : decode cX7_cost 20 = .ok (.aload_n 0, 1) := by decide +kernel
theorem dX7_cost_21 : decode cX7_cost 21 = .ok (.iconst 2, 1) := by decide +kernel
theorem dX7_cost_22 : decode cX7_cost 22 = .ok (.aload_n 0, 1) := by decide +kernel
theorem dX7_cost_23 : decode cX7_cost 23 = .ok (.getfield 26, 3) := by decide +kernel
theorem dX7_cost_26 : decode cX7_cost 26 = .ok (.getfield 200, 3) := by decide +kernel
theorem dX7_cost_29 : decode cX7_cost 29 = .ok (.iload_n 2, 1) := by decide +kernel
theorem dX7_cost_30 : decode cX7_cost 30 = .ok (.iaload, 1) := by decide +kernel
theorem dX7_cost_31 : decode cX7_cost 31 = .ok (.aload_n 0, 1) := by decide +kernel
theorem dX7_cost_32 : decode cX7_cost 32 = .ok (.getfield 26, 3) := by decide +kernel
theorem dX7_cost_35 : decode cX7_cost 35 = .ok (.getfield 203, 3) := by decide +kernel
theorem dX7_cost_38 : decode cX7_cost 38 = .ok (.iload_n 2, 1) := by decide +kernel
theorem dX7_cost_39 : decode cX7_cost 39 = .ok (.iaload, 1) := by decide +kernel
theorem dX7_cost_40 : decode cX7_cost 40 = .ok (.invokevirtual 144, 3) := by decide +kernel
theorem dX7_cost_43 : decode cX7_cost 43 = .ok (.iadd, 1) := by decide +kernel
theorem dX7_cost_44 : decode cX7_cost 44 = .ok (.istore_n 1, 1) := by decide +kernel
theorem dX7_cost_45 : decode cX7_cost 45 = .ok (.iinc 2 1, 3) := by decide +kernel
theorem dX7_cost_48 : decode cX7_cost 48 = .ok (.goto (-40), 3) := by decide +kernel
theorem dX7_cost_51 : decode cX7_cost 51 = .ok (.iload_n 1, 1) := by decide +kernel
theorem dX7_cost_52 : decode cX7_cost 52 = .ok (.ireturn, 1) := by decide +kernel
theorem dX7_atOdds_0 : decode cX7_atOdds 0 = .ok (.iload_n 1, 1) := by decide +kernel
theorem dX7_atOdds_1 : decode cX7_atOdds 1 = .ok (.iconst 0, 1) := by decide +kernel
theorem dX7_atOdds_2 : decode cX7_atOdds 2 = .ok (.iconst 1, 1) := by decide +kernel
theorem dX7_atOdds_3 : decode cX7_atOdds 3 = .ok (.invokestatic 100, 3) := by decide +kernel
theorem dX7_atOdds_6 : decode cX7_atOdds 6 = .ok (.ifCond .ne 6, 3) := by decide +kernel
theorem dX7_atOdds_9 : decode cX7_atOdds 9 = .ok (.bipush (-2), 2) := by decide +kernel
theorem dX7_atOdds_11 : decode cX7_atOdds 11 = .ok (.ireturn, 1) := by decide +kernel
theorem dX7_atOdds_12 : decode cX7_atOdds 12 = .ok (.iload_n 1, 1) := by decide +kernel
theorem dX7_atOdds_13 : decode cX7_atOdds 13 = .ok (.ifCond .ne 10, 3) := by decide +kernel
theorem dX7_atOdds_16 : decode cX7_atOdds 16 = .ok (.aload_n 0, 1) := by decide +kernel
theorem dX7_atOdds_17 : decode cX7_atOdds 17 = .ok (.invokevirtual 206, 3) := by decide +kernel
theorem dX7_atOdds_20 : decode cX7_atOdds 20 = .ok (.goto 7, 3) := by decide +kernel
theorem dX7_atOdds_23 : decode cX7_atOdds 23 = .ok (.aload_n 0, 1) := by decide +kernel
theorem dX7_atOdds_24 : decode cX7_atOdds 24 = .ok (.invokevirtual 209, 3) := by decide +kernel
theorem dX7_atOdds_27 : decode cX7_atOdds 27 = .ok (.ireturn, 1) := by decide +kernel
theorem dX7_best_0 : decode cX7_best 0 = .ok (.iload_n 1, 1) := by decide +kernel
theorem dX7_best_1 : decode cX7_best 1 = .ok (.iconst 0, 1) := by decide +kernel
theorem dX7_best_2 : decode cX7_best 2 = .ok (.aload_n 0, 1) := by decide +kernel
theorem dX7_best_3 : decode cX7_best 3 = .ok (.getfield 10, 3) := by decide +kernel
theorem dX7_best_6 : decode cX7_best 6 = .ok (.getfield 110, 3) := by decide +kernel
theorem dX7_best_9 : decode cX7_best 9 = .ok (.iconst 1, 1) := by decide +kernel
theorem dX7_best_10 : decode cX7_best 10 = .ok (.isub, 1) := by decide +kernel
theorem dX7_best_11 : decode cX7_best 11 = .ok (.invokestatic 100, 3) := by decide +kernel
theorem dX7_best_14 : decode cX7_best 14 = .ok (.ifCond .ne 6, 3) := by decide +kernel
theorem dX7_best_17 : decode cX7_best 17 = .ok (.bipush (-2), 2) := by decide +kernel
theorem dX7_best_19 : decode cX7_best 19 = .ok (.ireturn, 1) := by decide +kernel
theorem dX7_best_20 : decode cX7_best 20 = .ok (.aload_n 0, 1) := by decide +kernel
theorem dX7_best_21 : decode cX7_best 21 = .ok (.invokevirtual 209, 3) := by decide +kernel
theorem dX7_best_24 : decode cX7_best 24 = .ok (.pop, 1) := by decide +kernel
theorem dX7_best_25 : decode cX7_best 25 = .ok (.aload_n 0, 1) := by decide +kernel
theorem dX7_best_26 : decode cX7_best 26 = .ok (.getfield 36, 3) := by decide +kernel
theorem dX7_best_29 : decode cX7_best 29 = .ok (.getfield 212, 3) := by decide +kernel
theorem dX7_best_32 : decode cX7_best 32 = .ok (.iload_n 1, 1) := by decide +kernel
theorem dX7_best_33 : decode cX7_best 33 = .ok (.iaload, 1) := by decide +kernel
theorem dX7_best_34 : decode cX7_best 34 = .ok (.ireturn, 1) := by decide +kernel
theorem dX7_swaps_0 : decode cX7_swaps 0 = .ok (.aload_n 0, 1) := by decide +kernel
theorem dX7_swaps_1 : decode cX7_swaps 1 = .ok (.iload_n 1, 1) := by decide +kernel
theorem dX7_swaps_2 : decode cX7_swaps 2 = .ok (.invokevirtual 215, 3) := by decide +kernel
theorem dX7_swaps_5 : decode cX7_swaps 5 = .ok (.istore_n 2, 1) := by decide +kernel
theorem dX7_swaps_6 : decode cX7_swaps 6 = .ok (.iload_n 2, 1) := by decide +kernel
theorem dX7_swaps_7 : decode cX7_swaps 7 = .ok (.ifCond .eq 5, 3) := by decide +kernel
theorem dX7_swaps_10 : decode cX7_swaps 10 = .ok (.iload_n 2, 1) := by decide +kernel
theorem dX7_swaps_11 : decode cX7_swaps 11 = .ok (.ireturn, 1) := by decide +kernel
theorem dX7_swaps_12 : decode cX7_swaps 12 = .ok (.aload_n 0, 1) := by decide +kernel
theorem dX7_swaps_13 : decode cX7_swaps 13 = .ok (.getfield 65, 3) := by decide +kernel
theorem dX7_swaps_16 : decode cX7_swaps 16 = .ok (.iload_n 1, 1) := by decide +kernel
theorem dX7_swaps_17 : decode cX7_swaps 17 = .ok (.aaload, 1) := by decide +kernel
theorem dX7_swaps_18 : decode cX7_swaps 18 = .ok (.astore_n 3, 1) := by decide +kernel
theorem dX7_swaps_19 : decode cX7_swaps 19 = .ok (.iconst 0, 1) := by decide +kernel
theorem dX7_swaps_20 : decode cX7_swaps 20 = .ok (.istore 4, 2) := by decide +kernel
theorem dX7_swaps_22 : decode cX7_swaps 22 = .ok (.iconst 0, 1) := by decide +kernel
theorem dX7_swaps_23 : decode cX7_swaps 23 = .ok (.istore 5, 2) := by decide +kernel
theorem dX7_swaps_25 : decode cX7_swaps 25 = .ok (.iload 5, 2) := by decide +kernel
theorem dX7_swaps_27 : decode cX7_swaps 27 = .ok (.aload_n 3, 1) := by decide +kernel
theorem dX7_swaps_28 : decode cX7_swaps 28 = .ok (.getfield 218, 3) := by decide +kernel
theorem dX7_swaps_31 : decode cX7_swaps 31 = .ok (.if_icmp .ge 64, 3) := by decide +kernel
theorem dX7_swaps_34 : decode cX7_swaps 34 = .ok (.iload 5, 2) := by decide +kernel
theorem dX7_swaps_36 : decode cX7_swaps 36 = .ok (.iconst 1, 1) := by decide +kernel
theorem dX7_swaps_37 : decode cX7_swaps 37 = .ok (.iadd, 1) := by decide +kernel
theorem dX7_swaps_38 : decode cX7_swaps 38 = .ok (.istore 6, 2) := by decide +kernel
theorem dX7_swaps_40 : decode cX7_swaps 40 = .ok (.iload 6, 2) := by decide +kernel
theorem dX7_swaps_42 : decode cX7_swaps 42 = .ok (.aload_n 3, 1) := by decide +kernel
theorem dX7_swaps_43 : decode cX7_swaps 43 = .ok (.getfield 218, 3) := by decide +kernel
theorem dX7_swaps_46 : decode cX7_swaps 46 = .ok (.if_icmp .ge 43, 3) := by decide +kernel
theorem dX7_swaps_49 : decode cX7_swaps 49 = .ok (.aload_n 0, 1) := by decide +kernel
theorem dX7_swaps_50 : decode cX7_swaps 50 = .ok (.getfield 10, 3) := by decide +kernel
theorem dX7_swaps_53 : decode cX7_swaps 53 = .ok (.aload_n 3, 1) := by decide +kernel
theorem dX7_swaps_54 : decode cX7_swaps 54 = .ok (.getfield 219, 3) := by decide +kernel
theorem dX7_swaps_57 : decode cX7_swaps 57 = .ok (.iload 5, 2) := by decide +kernel
theorem dX7_swaps_59 : decode cX7_swaps 59 = .ok (.iaload, 1) := by decide +kernel
theorem dX7_swaps_60 : decode cX7_swaps 60 = .ok (.invokevirtual 135, 3) := by decide +kernel
theorem dX7_swaps_63 : decode cX7_swaps 63 = .ok (.aload_n 0, 1) := by decide +kernel
theorem dX7_swaps_64 : decode cX7_swaps 64 = .ok (.getfield 10, 3) := by decide +kernel
theorem dX7_swaps_67 : decode cX7_swaps 67 = .ok (.aload_n 3, 1) := by decide +kernel
theorem dX7_swaps_68 : decode cX7_swaps 68 = .ok (.getfield 219, 3) := by decide +kernel
theorem dX7_swaps_71 : decode cX7_swaps 71 = .ok (.iload 6, 2) := by decide +kernel
theorem dX7_swaps_73 : decode cX7_swaps 73 = .ok (.iaload, 1) := by decide +kernel
theorem dX7_swaps_74 : decode cX7_swaps 74 = .ok (.invokevirtual 135, 3) := by decide +kernel
theorem dX7_swaps_77 : decode cX7_swaps 77 = .ok (.if_icmp .le 6, 3) := by decide +kernel
theorem dX7_swaps_80 : decode cX7_swaps 80 = .ok (.iinc 4 1, 3) := by decide +kernel
theorem dX7_swaps_83 : decode cX7_swaps 83 = .ok (.iinc 6 1, 3) := by decide +kernel
theorem dX7_swaps_86 : decode cX7_swaps 86 = .ok (.goto (-46), 3) := by decide +kernel
theorem dX7_swaps_89 : decode cX7_swaps 89 = .ok (.iinc 5 1, 3) := by decide +kernel
theorem dX7_swaps_92 : decode cX7_swaps 92 = .ok (.goto (-67), 3) := by decide +kernel
theorem dX7_swaps_95 : decode cX7_swaps 95 = .ok (.iload 4, 2) := by decide +kernel
theorem dX7_swaps_97 : decode cX7_swaps 97 = .ok (.ireturn, 1) := by decide +kernel
theorem dX7_post_0 : decode cX7_post 0 = .ok (.iload_n 1, 1) := by decide +kernel
theorem dX7_post_1 : decode cX7_post 1 = .ok (.iconst 0, 1) := by decide +kernel
theorem dX7_post_2 : decode cX7_post 2 = .ok (.aload_n 0, 1) := by decide +kernel
theorem dX7_post_3 : decode cX7_post 3 = .ok (.getfield 10, 3) := by decide +kernel
theorem dX7_post_6 : decode cX7_post 6 = .ok (.getfield 110, 3) := by decide +kernel
theorem dX7_post_9 : decode cX7_post 9 = .ok (.invokestatic 100, 3) := by decide +kernel
theorem dX7_post_12 : decode cX7_post 12 = .ok (.ifCond .ne 6, 3) := by decide +kernel
theorem dX7_post_15 : decode cX7_post 15 = .ok (.ldc 143, 2) := by decide +kernel
theorem dX7_post_17 : decode cX7_post 17 = .ok (.ireturn, 1) := by decide +kernel
theorem dX7_post_18 : decode cX7_post 18 = .ok (.iload_n 2, 1) := by decide +kernel
theorem dX7_post_19 : decode cX7_post 19 = .ok (.tableswitch 43 0 2 #[25, 31, 37], 25) := by decide +kernel
theorem dX7_post_44 : decode cX7_post 44 = .ok (.aload_n 0, 1) := by decide +kernel
theorem dX7_post_45 : decode cX7_post 45 = .ok (.iload_n 1, 1) := by decide +kernel
theorem dX7_post_46 : decode cX7_post 46 = .ok (.invokevirtual 222, 3) := by decide +kernel
theorem dX7_post_49 : decode cX7_post 49 = .ok (.ireturn, 1) := by decide +kernel
theorem dX7_post_50 : decode cX7_post 50 = .ok (.aload_n 0, 1) := by decide +kernel
theorem dX7_post_51 : decode cX7_post 51 = .ok (.iload_n 1, 1) := by decide +kernel
theorem dX7_post_52 : decode cX7_post 52 = .ok (.invokevirtual 225, 3) := by decide +kernel
theorem dX7_post_55 : decode cX7_post 55 = .ok (.ireturn, 1) := by decide +kernel
theorem dX7_post_56 : decode cX7_post 56 = .ok (.aload_n 0, 1) := by decide +kernel
theorem dX7_post_57 : decode cX7_post 57 = .ok (.iload_n 1, 1) := by decide +kernel
theorem dX7_post_58 : decode cX7_post 58 = .ok (.invokevirtual 228, 3) := by decide +kernel
theorem dX7_post_61 : decode cX7_post 61 = .ok (.ireturn, 1) := by decide +kernel
theorem dX7_post_62 : decode cX7_post 62 = .ok (.ldc 143, 2) := by decide +kernel
theorem dX7_post_64 : decode cX7_post 64 = .ok (.ireturn, 1) := by decide +kernel
theorem dX7_bestPost_0 : decode cX7_bestPost 0 = .ok (.iload_n 1, 1) := by decide +kernel
theorem dX7_bestPost_1 : decode cX7_bestPost 1 = .ok (.iconst 0, 1) := by decide +kernel
theorem dX7_bestPost_2 : decode cX7_bestPost 2 = .ok (.iconst 1, 1) := by decide +kernel
theorem dX7_bestPost_3 : decode cX7_bestPost 3 = .ok (.invokestatic 100, 3) := by decide +kernel
theorem dX7_bestPost_6 : decode cX7_bestPost 6 = .ok (.ifCond .ne 6, 3) := by decide +kernel
theorem dX7_bestPost_9 : decode cX7_bestPost 9 = .ok (.bipush (-2), 2) := by decide +kernel
theorem dX7_bestPost_11 : decode cX7_bestPost 11 = .ok (.ireturn, 1) := by decide +kernel
theorem dX7_bestPost_12 : decode cX7_bestPost 12 = .ok (.iconst 0, 1) := by decide +kernel
theorem dX7_bestPost_13 : decode cX7_bestPost 13 = .ok (.istore_n 2, 1) := by decide +kernel
theorem dX7_bestPost_14 : decode cX7_bestPost 14 = .ok (.aload_n 0, 1) := by decide +kernel
theorem dX7_bestPost_15 : decode cX7_bestPost 15 = .ok (.iconst 0, 1) := by decide +kernel
theorem dX7_bestPost_16 : decode cX7_bestPost 16 = .ok (.invokevirtual 225, 3) := by decide +kernel
theorem dX7_bestPost_19 : decode cX7_bestPost 19 = .ok (.istore_n 3, 1) := by decide +kernel
theorem dX7_bestPost_20 : decode cX7_bestPost 20 = .ok (.iconst 1, 1) := by decide +kernel
theorem dX7_bestPost_21 : decode cX7_bestPost 21 = .ok (.istore 4, 2) := by decide +kernel
theorem dX7_bestPost_23 : decode cX7_bestPost 23 = .ok (.iload 4, 2) := by decide +kernel
theorem dX7_bestPost_25 : decode cX7_bestPost 25 = .ok (.aload_n 0, 1) := by decide +kernel
theorem dX7_bestPost_26 : decode cX7_bestPost 26 = .ok (.getfield 10, 3) := by decide +kernel
theorem dX7_bestPost_29 : decode cX7_bestPost 29 = .ok (.getfield 110, 3) := by decide +kernel
theorem dX7_bestPost_32 : decode cX7_bestPost 32 = .ok (.if_icmp .gt 29, 3) := by decide +kernel
theorem dX7_bestPost_35 : decode cX7_bestPost 35 = .ok (.aload_n 0, 1) := by decide +kernel
theorem dX7_bestPost_36 : decode cX7_bestPost 36 = .ok (.iload 4, 2) := by decide +kernel
theorem dX7_bestPost_38 : decode cX7_bestPost 38 = .ok (.invokevirtual 225, 3) := by decide +kernel
theorem dX7_bestPost_41 : decode cX7_bestPost 41 = .ok (.istore 5, 2) := by decide +kernel
theorem dX7_bestPost_43 : decode cX7_bestPost 43 = .ok (.iload 5, 2) := by decide +kernel
theorem dX7_bestPost_45 : decode cX7_bestPost 45 = .ok (.iload_n 3, 1) := by decide +kernel
theorem dX7_bestPost_46 : decode cX7_bestPost 46 = .ok (.if_icmp .ge 9, 3) := by decide +kernel
theorem dX7_bestPost_49 : decode cX7_bestPost 49 = .ok (.iload 5, 2) := by decide +kernel
theorem dX7_bestPost_51 : decode cX7_bestPost 51 = .ok (.istore_n 3, 1) := by decide +kernel
theorem dX7_bestPost_52 : decode cX7_bestPost 52 = .ok (.iload 4, 2) := by decide +kernel
theorem dX7_bestPost_54 : decode cX7_bestPost 54 = .ok (.istore_n 2, 1) := by decide +kernel
theorem dX7_bestPost_55 : decode cX7_bestPost 55 = .ok (.iinc 4 1, 3) := by decide +kernel
theorem dX7_bestPost_58 : decode cX7_bestPost 58 = .ok (.goto (-35), 3) := by decide +kernel
theorem dX7_bestPost_61 : decode cX7_bestPost 61 = .ok (.iload_n 1, 1) := by decide +kernel
theorem dX7_bestPost_62 : decode cX7_bestPost 62 = .ok (.ifCond .ne 7, 3) := by decide +kernel
theorem dX7_bestPost_65 : decode cX7_bestPost 65 = .ok (.iload_n 2, 1) := by decide +kernel
theorem dX7_bestPost_66 : decode cX7_bestPost 66 = .ok (.goto 4, 3) := by decide +kernel
theorem dX7_bestPost_69 : decode cX7_bestPost 69 = .ok (.iload_n 3, 1) := by decide +kernel
theorem dX7_bestPost_70 : decode cX7_bestPost 70 = .ok (.ireturn, 1) := by decide +kernel
theorem dX7_seen_0 : decode cX7_seen 0 = .ok (.aload_n 0, 1) := by decide +kernel
theorem dX7_seen_1 : decode cX7_seen 1 = .ok (.iload_n 1, 1) := by decide +kernel
theorem dX7_seen_2 : decode cX7_seen 2 = .ok (.invokevirtual 215, 3) := by decide +kernel
theorem dX7_seen_5 : decode cX7_seen 5 = .ok (.istore 4, 2) := by decide +kernel
theorem dX7_seen_7 : decode cX7_seen 7 = .ok (.iload 4, 2) := by decide +kernel
theorem dX7_seen_9 : decode cX7_seen 9 = .ok (.ifCond .eq 6, 3) := by decide +kernel
theorem dX7_seen_12 : decode cX7_seen 12 = .ok (.iload 4, 2) := by decide +kernel
theorem dX7_seen_14 : decode cX7_seen 14 = .ok (.ireturn, 1) := by decide +kernel
theorem dX7_seen_15 : decode cX7_seen 15 = .ok (.iload_n 2, 1) := by decide +kernel
theorem dX7_seen_16 : decode cX7_seen 16 = .ok (.iconst 0, 1) := by decide +kernel
theorem dX7_seen_17 : decode cX7_seen 17 = .ok (.iconst 4, 1) := by decide +kernel
theorem dX7_seen_18 : decode cX7_seen 18 = .ok (.invokestatic 100, 3) := by decide +kernel
theorem dX7_seen_21 : decode cX7_seen 21 = .ok (.ifCond .eq 12, 3) := by decide +kernel
theorem dX7_seen_24 : decode cX7_seen 24 = .ok (.iload_n 3, 1) := by decide +kernel
theorem dX7_seen_25 : decode cX7_seen 25 = .ok (.iconst 0, 1) := by decide +kernel
theorem dX7_seen_26 : decode cX7_seen 26 = .ok (.iconst 1, 1) := by decide +kernel
theorem dX7_seen_27 : decode cX7_seen 27 = .ok (.invokestatic 100, 3) := by decide +kernel
theorem dX7_seen_30 : decode cX7_seen 30 = .ok (.ifCond .ne 6, 3) := by decide +kernel
theorem dX7_seen_33 : decode cX7_seen 33 = .ok (.bipush (-2), 2) := by decide +kernel
theorem dX7_seen_35 : decode cX7_seen 35 = .ok (.ireturn, 1) := by decide +kernel
theorem dX7_seen_36 : decode cX7_seen 36 = .ok (.iconst 0, 1) := by decide +kernel
theorem dX7_seen_37 : decode cX7_seen 37 = .ok (.istore 5, 2) := by decide +kernel
theorem dX7_seen_39 : decode cX7_seen 39 = .ok (.iload 5, 2) := by decide +kernel
theorem dX7_seen_41 : decode cX7_seen 41 = .ok (.aload_n 0, 1) := by decide +kernel
theorem dX7_seen_42 : decode cX7_seen 42 = .ok (.getfield 10, 3) := by decide +kernel
theorem dX7_seen_45 : decode cX7_seen 45 = .ok (.getfield 110, 3) := by decide +kernel
theorem dX7_seen_48 : decode cX7_seen 48 = .ok (.if_icmp .ge 26, 3) := by decide +kernel
theorem dX7_seen_51 : decode cX7_seen 51 = .ok (.aload_n 0, 1) := by decide +kernel
theorem dX7_seen_52 : decode cX7_seen 52 = .ok (.getfield 69, 3) := by decide +kernel
theorem dX7_seen_55 : decode cX7_seen 55 = .ok (.iload 5, 2) := by decide +kernel
theorem dX7_seen_57 : decode cX7_seen 57 = .ok (.aload_n 0, 1) := by decide +kernel
theorem dX7_seen_58 : decode cX7_seen 58 = .ok (.getfield 10, 3) := by decide +kernel
theorem dX7_seen_61 : decode cX7_seen 61 = .ok (.getfield 152, 3) := by decide +kernel
theorem dX7_seen_64 : decode cX7_seen 64 = .ok (.iload 5, 2) := by decide +kernel
theorem dX7_seen_66 : decode cX7_seen 66 = .ok (.iaload, 1) := by decide +kernel
theorem dX7_seen_67 : decode cX7_seen 67 = .ok (.iastore, 1) := by decide +kernel
theorem dX7_seen_68 : decode cX7_seen 68 = .ok (.iinc 5 1, 3) := by decide +kernel
theorem dX7_seen_71 : decode cX7_seen 71 = .ok (.goto (-32), 3) := by decide +kernel
theorem dX7_seen_74 : decode cX7_seen 74 = .ok (.aload_n 0, 1) := by decide +kernel
theorem dX7_seen_75 : decode cX7_seen 75 = .ok (.aload_n 0, 1) := by decide +kernel
theorem dX7_seen_76 : decode cX7_seen 76 = .ok (.getfield 65, 3) := by decide +kernel
theorem dX7_seen_79 : decode cX7_seen 79 = .ok (.iload_n 1, 1) := by decide +kernel
theorem dX7_seen_80 : decode cX7_seen 80 = .ok (.aaload, 1) := by decide +kernel
theorem dX7_seen_81 : decode cX7_seen 81 = .ok (.iconst 0, 1) := by decide +kernel
theorem dX7_seen_82 : decode cX7_seen 82 = .ok (.iload_n 2, 1) := by decide +kernel
theorem dX7_seen_83 : decode cX7_seen 83 = .ok (.iload_n 3, 1) := by decide +kernel
theorem dX7_seen_84 : decode cX7_seen 84 = .ok (.iconst 1, 1) := by decide +kernel
theorem dX7_seen_85 : decode cX7_seen 85 = .ok (.if_icmp .ne 7, 3) := by decide +kernel
theorem dX7_seen_88 : decode cX7_seen 88 = .ok (.iconst 1, 1) := by decide +kernel
theorem dX7_seen_89 : decode cX7_seen 89 = .ok (.goto 4, 3) := by decide +kernel
theorem dX7_seen_92 : decode cX7_seen 92 = .ok (.iconst 0, 1) := by decide +kernel
theorem dX7_seen_93 : decode cX7_seen 93 = .ok (.invokevirtual 231, 3) := by decide +kernel
theorem dX7_seen_96 : decode cX7_seen 96 = .ok (.ireturn, 1) := by decide +kernel
theorem dX7_fetch_0 : decode cX7_fetch 0 = .ok (.aload_n 0, 1) := by decide +kernel
theorem dX7_fetch_1 : decode cX7_fetch 1 = .ok (.invokevirtual 235, 3) := by decide +kernel
theorem dX7_fetch_4 : decode cX7_fetch 4 = .ok (.ireturn, 1) := by decide +kernel
theorem dX7_fetched_0 : decode cX7_fetched 0 = .ok (.iload_n 1, 1) := by decide +kernel
theorem dX7_fetched_1 : decode cX7_fetched 1 = .ok (.iconst 0, 1) := by decide +kernel
theorem dX7_fetched_2 : decode cX7_fetched 2 = .ok (.aload_n 0, 1) := by decide +kernel
theorem dX7_fetched_3 : decode cX7_fetched 3 = .ok (.getfield 10, 3) := by decide +kernel
theorem dX7_fetched_6 : decode cX7_fetched 6 = .ok (.getfield 110, 3) := by decide +kernel
theorem dX7_fetched_9 : decode cX7_fetched 9 = .ok (.iconst 1, 1) := by decide +kernel
theorem dX7_fetched_10 : decode cX7_fetched 10 = .ok (.isub, 1) := by decide +kernel
theorem dX7_fetched_11 : decode cX7_fetched 11 = .ok (.invokestatic 100, 3) := by decide +kernel
theorem dX7_fetched_14 : decode cX7_fetched 14 = .ok (.ifCond .ne 6, 3) := by decide +kernel
theorem dX7_fetched_17 : decode cX7_fetched 17 = .ok (.bipush (-2), 2) := by decide +kernel
theorem dX7_fetched_19 : decode cX7_fetched 19 = .ok (.ireturn, 1) := by decide +kernel
theorem dX7_fetched_20 : decode cX7_fetched 20 = .ok (.aload_n 0, 1) := by decide +kernel
theorem dX7_fetched_21 : decode cX7_fetched 21 = .ok (.invokevirtual 235, 3) := by decide +kernel
theorem dX7_fetched_24 : decode cX7_fetched 24 = .ok (.pop, 1) := by decide +kernel
theorem dX7_fetched_25 : decode cX7_fetched 25 = .ok (.aload_n 0, 1) := by decide +kernel
theorem dX7_fetched_26 : decode cX7_fetched 26 = .ok (.getfield 36, 3) := by decide +kernel
theorem dX7_fetched_29 : decode cX7_fetched 29 = .ok (.getfield 212, 3) := by decide +kernel
theorem dX7_fetched_32 : decode cX7_fetched 32 = .ok (.iload_n 1, 1) := by decide +kernel
theorem dX7_fetched_33 : decode cX7_fetched 33 = .ok (.iaload, 1) := by decide +kernel
theorem dX7_fetched_34 : decode cX7_fetched 34 = .ok (.ireturn, 1) := by decide +kernel
theorem dX7_walk_0 : decode cX7_walk 0 = .ok (.aload_n 0, 1) := by decide +kernel
theorem dX7_walk_1 : decode cX7_walk 1 = .ok (.getfield 36, 3) := by decide +kernel
theorem dX7_walk_4 : decode cX7_walk 4 = .ok (.aload_n 0, 1) := by decide +kernel
theorem dX7_walk_5 : decode cX7_walk 5 = .ok (.getfield 10, 3) := by decide +kernel
theorem dX7_walk_8 : decode cX7_walk 8 = .ok (.getfield 110, 3) := by decide +kernel
theorem dX7_walk_11 : decode cX7_walk 11 = .ok (.invokevirtual 238, 3) := by decide +kernel
theorem dX7_walk_14 : decode cX7_walk 14 = .ok (.iconst 0, 1) := by decide +kernel
theorem dX7_walk_15 : decode cX7_walk 15 = .ok (.istore_n 1, 1) := by decide +kernel
theorem dX7_walk_16 : decode cX7_walk 16 = .ok (.iload_n 1, 1) := by decide +kernel
theorem dX7_walk_17 : decode cX7_walk 17 = .ok (.aload_n 0, 1) := by decide +kernel
theorem dX7_walk_18 : decode cX7_walk 18 = .ok (.getfield 10, 3) := by decide +kernel
theorem dX7_walk_21 : decode cX7_walk 21 = .ok (.getfield 110, 3) := by decide +kernel
theorem dX7_walk_24 : decode cX7_walk 24 = .ok (.if_icmp .ge 67, 3) := by decide +kernel
theorem dX7_walk_27 : decode cX7_walk 27 = .ok (.iload_n 1, 1) := by decide +kernel
theorem dX7_walk_28 : decode cX7_walk 28 = .ok (.iconst 1, 1) := by decide +kernel
theorem dX7_walk_29 : decode cX7_walk 29 = .ok (.iadd, 1) := by decide +kernel
theorem dX7_walk_30 : decode cX7_walk 30 = .ok (.istore_n 2, 1) := by decide +kernel
theorem dX7_walk_31 : decode cX7_walk 31 = .ok (.iload_n 2, 1) := by decide +kernel
theorem dX7_walk_32 : decode cX7_walk 32 = .ok (.aload_n 0, 1) := by decide +kernel
theorem dX7_walk_33 : decode cX7_walk 33 = .ok (.getfield 10, 3) := by decide +kernel
theorem dX7_walk_36 : decode cX7_walk 36 = .ok (.getfield 110, 3) := by decide +kernel
theorem dX7_walk_39 : decode cX7_walk 39 = .ok (.if_icmp .ge 46, 3) := by decide +kernel
theorem dX7_walk_42 : decode cX7_walk 42 = .ok (.aload_n 0, 1) := by decide +kernel
theorem dX7_walk_43 : decode cX7_walk 43 = .ok (.iconst 0, 1) := by decide +kernel
theorem dX7_walk_44 : decode cX7_walk 44 = .ok (.iload_n 1, 1) := by decide +kernel
theorem dX7_walk_45 : decode cX7_walk 45 = .ok (.iload_n 2, 1) := by decide +kernel
theorem dX7_walk_46 : decode cX7_walk 46 = .ok (.iconst 1, 1) := by decide +kernel
theorem dX7_walk_47 : decode cX7_walk 47 = .ok (.aload_n 0, 1) := by decide +kernel
theorem dX7_walk_48 : decode cX7_walk 48 = .ok (.getfield 10, 3) := by decide +kernel
theorem dX7_walk_51 : decode cX7_walk 51 = .ok (.iload_n 1, 1) := by decide +kernel
theorem dX7_walk_52 : decode cX7_walk 52 = .ok (.invokevirtual 135, 3) := by decide +kernel
theorem dX7_walk_55 : decode cX7_walk 55 = .ok (.invokevirtual 241, 3) := by decide +kernel
theorem dX7_walk_58 : decode cX7_walk 58 = .ok (.istore_n 3, 1) := by decide +kernel
theorem dX7_walk_59 : decode cX7_walk 59 = .ok (.aload_n 0, 1) := by decide +kernel
theorem dX7_walk_60 : decode cX7_walk 60 = .ok (.getfield 36, 3) := by decide +kernel
theorem dX7_walk_63 : decode cX7_walk 63 = .ok (.iload_n 1, 1) := by decide +kernel
theorem dX7_walk_64 : decode cX7_walk 64 = .ok (.iload_n 2, 1) := by decide +kernel
theorem dX7_walk_65 : decode cX7_walk 65 = .ok (.iload_n 3, 1) := by decide +kernel
theorem dX7_walk_66 : decode cX7_walk 66 = .ok (.invokevirtual 245, 3) := by decide +kernel
theorem dX7_walk_69 : decode cX7_walk 69 = .ok (.aload_n 0, 1) := by decide +kernel
theorem dX7_walk_70 : decode cX7_walk 70 = .ok (.getfield 36, 3) := by decide +kernel
theorem dX7_walk_73 : decode cX7_walk 73 = .ok (.iload_n 2, 1) := by decide +kernel
theorem dX7_walk_74 : decode cX7_walk 74 = .ok (.iload_n 1, 1) := by decide +kernel
theorem dX7_walk_75 : decode cX7_walk 75 = .ok (.iload_n 3, 1) := by decide +kernel
theorem dX7_walk_76 : decode cX7_walk 76 = .ok (.invokevirtual 245, 3) := by decide +kernel
theorem dX7_walk_79 : decode cX7_walk 79 = .ok (.iinc 2 1, 3) := by decide +kernel
theorem dX7_walk_82 : decode cX7_walk 82 = .ok (.goto (-51), 3) := by decide +kernel
theorem dX7_walk_85 : decode cX7_walk 85 = .ok (.iinc 1 1, 3) := by decide +kernel
theorem dX7_walk_88 : decode cX7_walk 88 = .ok (.goto (-72), 3) := by decide +kernel
theorem dX7_walk_91 : decode cX7_walk 91 = .ok (.aload_n 0, 1) := by decide +kernel
theorem dX7_walk_92 : decode cX7_walk 92 = .ok (.getfield 36, 3) := by decide +kernel
theorem dX7_walk_95 : decode cX7_walk 95 = .ok (.invokevirtual 249, 3) := by decide +kernel
theorem dX7_walk_98 : decode cX7_walk 98 = .ok (.ireturn, 1) := by decide +kernel
theorem dX7_take_0 : decode cX7_take 0 = .ok (.iload_n 1, 1) := by decide +kernel
theorem dX7_take_1 : decode cX7_take 1 = .ok (.iconst 0, 1) := by decide +kernel
theorem dX7_take_2 : decode cX7_take 2 = .ok (.iconst 1, 1) := by decide +kernel
theorem dX7_take_3 : decode cX7_take 3 = .ok (.invokestatic 100, 3) := by decide +kernel
theorem dX7_take_6 : decode cX7_take 6 = .ok (.ifCond .ne 6, 3) := by decide +kernel
theorem dX7_take_9 : decode cX7_take 9 = .ok (.ldc 143, 2) := by decide +kernel
theorem dX7_take_11 : decode cX7_take 11 = .ok (.ireturn, 1) := by decide +kernel
theorem dX7_take_12 : decode cX7_take 12 = .ok (.aload_n 0, 1) := by decide +kernel
theorem dX7_take_13 : decode cX7_take 13 = .ok (.invokevirtual 252, 3) := by decide +kernel
theorem dX7_take_16 : decode cX7_take 16 = .ok (.iconst 0, 1) := by decide +kernel
theorem dX7_take_17 : decode cX7_take 17 = .ok (.istore_n 2, 1) := by decide +kernel
theorem dX7_take_18 : decode cX7_take 18 = .ok (.iconst 0, 1) := by decide +kernel
theorem dX7_take_19 : decode cX7_take 19 = .ok (.istore_n 3, 1) := by decide +kernel
theorem dX7_take_20 : decode cX7_take 20 = .ok (.iconst 1, 1) := by decide +kernel
theorem dX7_take_21 : decode cX7_take 21 = .ok (.istore 4, 2) := by decide +kernel
theorem dX7_take_23 : decode cX7_take 23 = .ok (.iload 4, 2) := by decide +kernel
theorem dX7_take_25 : decode cX7_take 25 = .ok (.aload_n 0, 1) := by decide +kernel
theorem dX7_take_26 : decode cX7_take 26 = .ok (.invokevirtual 189, 3) := by decide +kernel
theorem dX7_take_29 : decode cX7_take 29 = .ok (.if_icmp .gt 29, 3) := by decide +kernel
theorem dX7_take_32 : decode cX7_take 32 = .ok (.aload_n 0, 1) := by decide +kernel
theorem dX7_take_33 : decode cX7_take 33 = .ok (.iload 4, 2) := by decide +kernel
theorem dX7_take_35 : decode cX7_take 35 = .ok (.invokevirtual 255, 3) := by decide +kernel
theorem dX7_take_38 : decode cX7_take 38 = .ok (.istore 5, 2) := by decide +kernel
theorem dX7_take_40 : decode cX7_take 40 = .ok (.iload 5, 2) := by decide +kernel
theorem dX7_take_42 : decode cX7_take 42 = .ok (.iload_n 3, 1) := by decide +kernel
theorem dX7_take_43 : decode cX7_take 43 = .ok (.if_icmp .le 9, 3) := by decide +kernel
theorem dX7_take_46 : decode cX7_take 46 = .ok (.iload 5, 2) := by decide +kernel
theorem dX7_take_48 : decode cX7_take 48 = .ok (.istore_n 3, 1) := by decide +kernel
theorem dX7_take_49 : decode cX7_take 49 = .ok (.iload 4, 2) := by decide +kernel
theorem dX7_take_51 : decode cX7_take 51 = .ok (.istore_n 2, 1) := by decide +kernel
theorem dX7_take_52 : decode cX7_take 52 = .ok (.iinc 4 1, 3) := by decide +kernel
theorem dX7_take_55 : decode cX7_take 55 = .ok (.goto (-32), 3) := by decide +kernel
theorem dX7_take_58 : decode cX7_take 58 = .ok (.iload_n 1, 1) := by decide +kernel
theorem dX7_take_59 : decode cX7_take 59 = .ok (.ifCond .ne 7, 3) := by decide +kernel
theorem dX7_take_62 : decode cX7_take 62 = .ok (.iload_n 2, 1) := by decide +kernel
theorem dX7_take_63 : decode cX7_take 63 = .ok (.goto 4, 3) := by decide +kernel
theorem dX7_take_66 : decode cX7_take 66 = .ok (.iload_n 3, 1) := by decide +kernel
theorem dX7_take_67 : decode cX7_take 67 = .ok (.ireturn, 1) := by decide +kernel
theorem dX7_drawn_0 : decode cX7_drawn 0 = .ok (.iload_n 2, 1) := by decide +kernel
theorem dX7_drawn_1 : decode cX7_drawn 1 = .ok (.iconst 0, 1) := by decide +kernel
theorem dX7_drawn_2 : decode cX7_drawn 2 = .ok (.bipush 40, 2) := by decide +kernel
theorem dX7_drawn_4 : decode cX7_drawn 4 = .ok (.invokestatic 100, 3) := by decide +kernel
theorem dX7_drawn_7 : decode cX7_drawn 7 = .ok (.ifCond .eq 12, 3) := by decide +kernel
theorem dX7_drawn_10 : decode cX7_drawn 10 = .ok (.aload_n 0, 1) := by decide +kernel
theorem dX7_drawn_11 : decode cX7_drawn 11 = .ok (.iload_n 1, 1) := by decide +kernel
theorem dX7_drawn_12 : decode cX7_drawn 12 = .ok (.iload_n 2, 1) := by decide +kernel
theorem dX7_drawn_13 : decode cX7_drawn 13 = .ok (.invokevirtual 258, 3) := by decide +kernel
theorem dX7_drawn_16 : decode cX7_drawn 16 = .ok (.goto 5, 3) := by decide +kernel
theorem dX7_drawn_19 : decode cX7_drawn 19 = .ok (.bipush (-2), 2) := by decide +kernel
theorem dX7_drawn_21 : decode cX7_drawn 21 = .ok (.ireturn, 1) := by decide +kernel
theorem dX7_chance_0 : decode cX7_chance 0 = .ok (.iload_n 2, 1) := by decide +kernel
theorem dX7_chance_1 : decode cX7_chance 1 = .ok (.iconst 1, 1) := by decide +kernel
theorem dX7_chance_2 : decode cX7_chance 2 = .ok (.bipush 20, 2) := by decide +kernel
theorem dX7_chance_4 : decode cX7_chance 4 = .ok (.invokestatic 100, 3) := by decide +kernel
theorem dX7_chance_7 : decode cX7_chance 7 = .ok (.ifCond .eq 34, 3) := by decide +kernel
theorem dX7_chance_10 : decode cX7_chance 10 = .ok (.iload_n 3, 1) := by decide +kernel
theorem dX7_chance_11 : decode cX7_chance 11 = .ok (.iconst 0, 1) := by decide +kernel
theorem dX7_chance_12 : decode cX7_chance 12 = .ok (.bipush 40, 2) := by decide +kernel
theorem dX7_chance_14 : decode cX7_chance 14 = .ok (.invokestatic 100, 3) := by decide +kernel
theorem dX7_chance_17 : decode cX7_chance 17 = .ok (.ifCond .eq 24, 3) := by decide +kernel
theorem dX7_chance_20 : decode cX7_chance 20 = .ok (.iload 4, 2) := by decide +kernel
theorem dX7_chance_22 : decode cX7_chance 22 = .ok (.iconst 0, 1) := by decide +kernel
theorem dX7_chance_23 : decode cX7_chance 23 = .ok (.bipush 40, 2) := by decide +kernel
theorem dX7_chance_25 : decode cX7_chance 25 = .ok (.invokestatic 100, 3) := by decide +kernel
theorem dX7_chance_28 : decode cX7_chance 28 = .ok (.ifCond .eq 13, 3) := by decide +kernel
theorem dX7_chance_31 : decode cX7_chance 31 = .ok (.iload 5, 2) := by decide +kernel
theorem dX7_chance_33 : decode cX7_chance 33 = .ok (.iconst 0, 1) := by decide +kernel
theorem dX7_chance_34 : decode cX7_chance 34 = .ok (.iconst 1, 1) := by decide +kernel
theorem dX7_chance_35 : decode cX7_chance 35 = .ok (.invokestatic 100, 3) := by decide +kernel
theorem dX7_chance_38 : decode cX7_chance 38 = .ok (.ifCond .ne 7, 3) := by decide +kernel
theorem dX7_chance_41 : decode cX7_chance 41 = .ok (.ldc2_w 261, 3) := by decide +kernel
theorem dX7_chance_44 : decode cX7_chance 44 = .ok (.lreturn, 1) := by decide +kernel
theorem dX7_chance_45 : decode cX7_chance 45 = .ok (.iconst 0, 1) := by decide +kernel
theorem dX7_chance_46 : decode cX7_chance 46 = .ok (.istore 6, 2) := by decide +kernel
theorem dX7_chance_48 : decode cX7_chance 48 = .ok (.iconst 0, 1) := by decide +kernel
theorem dX7_chance_49 : decode cX7_chance 49 = .ok (.istore 7, 2) := by decide +kernel
theorem dX7_chance_51 : decode cX7_chance 51 = .ok (.iload 7, 2) := by decide +kernel
theorem dX7_chance_53 : decode cX7_chance 53 = .ok (.iload_n 2, 1) := by decide +kernel
theorem dX7_chance_54 : decode cX7_chance 54 = .ok (.if_icmp .ge 26, 3) := by decide +kernel
theorem dX7_chance_57 : decode cX7_chance 57 = .ok (.aload_n 0, 1) := by decide +kernel
theorem dX7_chance_58 : decode cX7_chance 58 = .ok (.iload_n 1, 1) := by decide +kernel
theorem dX7_chance_59 : decode cX7_chance 59 = .ok (.iload 7, 2) := by decide +kernel
theorem dX7_chance_61 : decode cX7_chance 61 = .ok (.iadd, 1) := by decide +kernel
theorem dX7_chance_62 : decode cX7_chance 62 = .ok (.iload_n 3, 1) := by decide +kernel
theorem dX7_chance_63 : decode cX7_chance 63 = .ok (.invokevirtual 258, 3) := by decide +kernel
theorem dX7_chance_66 : decode cX7_chance 66 = .ok (.iload 4, 2) := by decide +kernel
theorem dX7_chance_68 : decode cX7_chance 68 = .ok (.if_icmp .gt 6, 3) := by decide +kernel
theorem dX7_chance_71 : decode cX7_chance 71 = .ok (.iinc 6 1, 3) := by decide +kernel
theorem dX7_chance_74 : decode cX7_chance 74 = .ok (.iinc 7 1, 3) := by decide +kernel
theorem dX7_chance_77 : decode cX7_chance 77 = .ok (.goto (-26), 3) := by decide +kernel
theorem dX7_chance_80 : decode cX7_chance 80 = .ok (.iload 6, 2) := by decide +kernel
theorem dX7_chance_82 : decode cX7_chance 82 = .ok (.iload_n 2, 1) := by decide +kernel
theorem dX7_chance_83 : decode cX7_chance 83 = .ok (.invokestatic 263, 3) := by decide +kernel
theorem dX7_chance_86 : decode cX7_chance 86 = .ok (.istore 7, 2) := by decide +kernel
theorem dX7_chance_88 : decode cX7_chance 88 = .ok (.iload 5, 2) := by decide +kernel
theorem dX7_chance_90 : decode cX7_chance 90 = .ok (.ifCond .ne 8, 3) := by decide +kernel
theorem dX7_chance_93 : decode cX7_chance 93 = .ok (.iload 6, 2) := by decide +kernel
theorem dX7_chance_95 : decode cX7_chance 95 = .ok (.goto 4, 3) := by decide +kernel
theorem dX7_chance_98 : decode cX7_chance 98 = .ok (.iload_n 2, 1) := by decide +kernel
theorem dX7_chance_99 : decode cX7_chance 99 = .ok (.iload 7, 2) := by decide +kernel
theorem dX7_chance_101 : decode cX7_chance 101 = .ok (.idiv, 1) := by decide +kernel
theorem dX7_chance_102 : decode cX7_chance 102 = .ok (.i2l, 1) := by decide +kernel
theorem dX7_chance_103 : decode cX7_chance 103 = .ok (.lreturn, 1) := by decide +kernel
theorem dX7_image_0 : decode cX7_image 0 = .ok (.aload_n 0, 1) := by decide +kernel
theorem dX7_image_1 : decode cX7_image 1 = .ok (.getfield 16, 3) := by decide +kernel
theorem dX7_image_4 : decode cX7_image 4 = .ok (.aload_n 0, 1) := by decide +kernel
theorem dX7_image_5 : decode cX7_image 5 = .ok (.getfield 10, 3) := by decide +kernel
theorem dX7_image_8 : decode cX7_image 8 = .ok (.invokevirtual 266, 3) := by decide +kernel
theorem dX7_image_11 : decode cX7_image 11 = .ok (.aload_n 0, 1) := by decide +kernel
theorem dX7_image_12 : decode cX7_image 12 = .ok (.iconst 1, 1) := by decide +kernel
theorem dX7_image_13 : decode cX7_image 13 = .ok (.putfield 19, 3) := by decide +kernel
theorem dX7_image_16 : decode cX7_image 16 = .ok (.aload_n 0, 1) := by decide +kernel
theorem dX7_image_17 : decode cX7_image 17 = .ok (.getfield 10, 3) := by decide +kernel
theorem dX7_image_20 : decode cX7_image 20 = .ok (.getfield 110, 3) := by decide +kernel
theorem dX7_image_23 : decode cX7_image 23 = .ok (.ireturn, 1) := by decide +kernel
theorem dX7_back_0 : decode cX7_back 0 = .ok (.aload_n 0, 1) := by decide +kernel
theorem dX7_back_1 : decode cX7_back 1 = .ok (.getfield 19, 3) := by decide +kernel
theorem dX7_back_4 : decode cX7_back 4 = .ok (.ifCond .ne 6, 3) := by decide +kernel
theorem dX7_back_7 : decode cX7_back 7 = .ok (.bipush (-3), 2) := by decide +kernel
theorem dX7_back_9 : decode cX7_back 9 = .ok (.ireturn, 1) := by decide +kernel
theorem dX7_back_10 : decode cX7_back 10 = .ok (.aload_n 0, 1) := by decide +kernel
theorem dX7_back_11 : decode cX7_back 11 = .ok (.getfield 10, 3) := by decide +kernel
theorem dX7_back_14 : decode cX7_back 14 = .ok (.aload_n 0, 1) := by decide +kernel
theorem dX7_back_15 : decode cX7_back 15 = .ok (.getfield 16, 3) := by decide +kernel
theorem dX7_back_18 : decode cX7_back 18 = .ok (.invokevirtual 266, 3) := by decide +kernel
theorem dX7_back_21 : decode cX7_back 21 = .ok (.aload_n 0, 1) := by decide +kernel
theorem dX7_back_22 : decode cX7_back 22 = .ok (.getfield 10, 3) := by decide +kernel
theorem dX7_back_25 : decode cX7_back 25 = .ok (.getfield 110, 3) := by decide +kernel
theorem dX7_back_28 : decode cX7_back 28 = .ok (.ireturn, 1) := by decide +kernel
theorem dX7_count_0 : decode cX7_count 0 = .ok (.iload_n 1, 1) := by decide +kernel
theorem dX7_count_1 : decode cX7_count 1 = .ok (.tableswitch 91 0 5 #[39, 47, 58, 70, 75, 83], 39) := by decide +kernel
theorem dX7_count_40 : decode cX7_count 40 = .ok (.aload_n 0, 1) := by decide +kernel
theorem dX7_count_41 : decode cX7_count 41 = .ok (.getfield 10, 3) := by decide +kernel
theorem dX7_count_44 : decode cX7_count 44 = .ok (.getfield 110, 3) := by decide +kernel
theorem dX7_count_47 : decode cX7_count 47 = .ok (.ireturn, 1) := by decide +kernel
theorem dX7_count_48 : decode cX7_count 48 = .ok (.aload_n 0, 1) := by decide +kernel
theorem dX7_count_49 : decode cX7_count 49 = .ok (.getfield 10, 3) := by decide +kernel
theorem dX7_count_52 : decode cX7_count 52 = .ok (.getfield 104, 3) := by decide +kernel
theorem dX7_count_55 : decode cX7_count 55 = .ok (.getfield 107, 3) := by decide +kernel
theorem dX7_count_58 : decode cX7_count 58 = .ok (.ireturn, 1) := by decide +kernel
theorem dX7_count_59 : decode cX7_count 59 = .ok (.aload_n 0, 1) := by decide +kernel
theorem dX7_count_60 : decode cX7_count 60 = .ok (.invokevirtual 168, 3) := by decide +kernel
theorem dX7_count_63 : decode cX7_count 63 = .ok (.aload_n 0, 1) := by decide +kernel
theorem dX7_count_64 : decode cX7_count 64 = .ok (.getfield 26, 3) := by decide +kernel
theorem dX7_count_67 : decode cX7_count 67 = .ok (.getfield 107, 3) := by decide +kernel
theorem dX7_count_70 : decode cX7_count 70 = .ok (.ireturn, 1) := by decide +kernel
theorem dX7_count_71 : decode cX7_count 71 = .ok (.aload_n 0, 1) := by decide +kernel
theorem dX7_count_72 : decode cX7_count 72 = .ok (.getfield 53, 3) := by decide +kernel
theorem dX7_count_75 : decode cX7_count 75 = .ok (.ireturn, 1) := by decide +kernel
theorem dX7_count_76 : decode cX7_count 76 = .ok (.aload_n 0, 1) := by decide +kernel
theorem dX7_count_77 : decode cX7_count 77 = .ok (.getfield 43, 3) := by decide +kernel
theorem dX7_count_80 : decode cX7_count 80 = .ok (.getfield 148, 3) := by decide +kernel
theorem dX7_count_83 : decode cX7_count 83 = .ok (.ireturn, 1) := by decide +kernel
theorem dX7_count_84 : decode cX7_count 84 = .ok (.aload_n 0, 1) := by decide +kernel
theorem dX7_count_85 : decode cX7_count 85 = .ok (.getfield 10, 3) := by decide +kernel
theorem dX7_count_88 : decode cX7_count 88 = .ok (.getfield 149, 3) := by decide +kernel
theorem dX7_count_91 : decode cX7_count 91 = .ok (.ireturn, 1) := by decide +kernel
theorem dX7_count_92 : decode cX7_count 92 = .ok (.bipush (-2), 2) := by decide +kernel
theorem dX7_count_94 : decode cX7_count 94 = .ok (.ireturn, 1) := by decide +kernel
theorem dX7_sheet_0 : decode cX7_sheet 0 = .ok (.iload_n 1, 1) := by decide +kernel
theorem dX7_sheet_1 : decode cX7_sheet 1 = .ok (.invokestatic 269, 3) := by decide +kernel
theorem dX7_sheet_4 : decode cX7_sheet 4 = .ok (.ifCond .eq 12, 3) := by decide +kernel
theorem dX7_sheet_7 : decode cX7_sheet 7 = .ok (.iload_n 2, 1) := by decide +kernel
theorem dX7_sheet_8 : decode cX7_sheet 8 = .ok (.iconst (-1), 1) := by decide +kernel
theorem dX7_sheet_9 : decode cX7_sheet 9 = .ok (.iconst 2, 1) := by decide +kernel
theorem dX7_sheet_10 : decode cX7_sheet 10 = .ok (.invokestatic 100, 3) := by decide +kernel
theorem dX7_sheet_13 : decode cX7_sheet 13 = .ok (.ifCond .ne 6, 3) := by decide +kernel
theorem dX7_sheet_16 : decode cX7_sheet 16 = .ok (.bipush (-2), 2) := by decide +kernel
theorem dX7_sheet_18 : decode cX7_sheet 18 = .ok (.ireturn, 1) := by decide +kernel
theorem dX7_sheet_19 : decode cX7_sheet 19 = .ok (.iload_n 2, 1) := by decide +kernel
theorem dX7_sheet_20 : decode cX7_sheet 20 = .ok (.iconst (-1), 1) := by decide +kernel
theorem dX7_sheet_21 : decode cX7_sheet 21 = .ok (.if_icmp .ne 16, 3) := by decide +kernel
theorem dX7_sheet_24 : decode cX7_sheet 24 = .ok (.aload_n 0, 1) := by decide +kernel
theorem dX7_sheet_25 : decode cX7_sheet 25 = .ok (.getfield 65, 3) := by decide +kernel
theorem dX7_sheet_28 : decode cX7_sheet 28 = .ok (.iload_n 1, 1) := by decide +kernel
theorem dX7_sheet_29 : decode cX7_sheet 29 = .ok (.aaload, 1) := by decide +kernel
theorem dX7_sheet_30 : decode cX7_sheet 30 = .ok (.iconst (-1), 1) := by decide +kernel
theorem dX7_sheet_31 : decode cX7_sheet 31 = .ok (.iconst 0, 1) := by decide +kernel
theorem dX7_sheet_32 : decode cX7_sheet 32 = .ok (.invokevirtual 272, 3) := by decide +kernel
theorem dX7_sheet_35 : decode cX7_sheet 35 = .ok (.iconst 1, 1) := by decide +kernel
theorem dX7_sheet_36 : decode cX7_sheet 36 = .ok (.ireturn, 1) := by decide +kernel
theorem dX7_sheet_37 : decode cX7_sheet 37 = .ok (.iload_n 3, 1) := by decide +kernel
theorem dX7_sheet_38 : decode cX7_sheet 38 = .ok (.bipush 40, 2) := by decide +kernel
theorem dX7_sheet_40 : decode cX7_sheet 40 = .ok (.if_icmp .le 6, 3) := by decide +kernel
theorem dX7_sheet_43 : decode cX7_sheet 43 = .ok (.bipush (-2), 2) := by decide +kernel
theorem dX7_sheet_45 : decode cX7_sheet 45 = .ok (.ireturn, 1) := by decide +kernel
theorem dX7_sheet_46 : decode cX7_sheet 46 = .ok (.iload_n 3, 1) := by decide +kernel
theorem dX7_sheet_47 : decode cX7_sheet 47 = .ok (.ifCond .ge 6, 3) := by decide +kernel
theorem dX7_sheet_50 : decode cX7_sheet 50 = .ok (.bipush (-14), 2) := by decide +kernel
theorem dX7_sheet_52 : decode cX7_sheet 52 = .ok (.ireturn, 1) := by decide +kernel
theorem dX7_sheet_53 : decode cX7_sheet 53 = .ok (.aload_n 0, 1) := by decide +kernel
theorem dX7_sheet_54 : decode cX7_sheet 54 = .ok (.getfield 65, 3) := by decide +kernel
theorem dX7_sheet_57 : decode cX7_sheet 57 = .ok (.iload_n 1, 1) := by decide +kernel
theorem dX7_sheet_58 : decode cX7_sheet 58 = .ok (.aaload, 1) := by decide +kernel
theorem dX7_sheet_59 : decode cX7_sheet 59 = .ok (.iload_n 2, 1) := by decide +kernel
theorem dX7_sheet_60 : decode cX7_sheet 60 = .ok (.iload_n 3, 1) := by decide +kernel
theorem dX7_sheet_61 : decode cX7_sheet 61 = .ok (.invokevirtual 272, 3) := by decide +kernel
theorem dX7_sheet_64 : decode cX7_sheet 64 = .ok (.iconst 1, 1) := by decide +kernel
theorem dX7_sheet_65 : decode cX7_sheet 65 = .ok (.ireturn, 1) := by decide +kernel
theorem dX7_cell_0 : decode cX7_cell 0 = .ok (.iload_n 1, 1) := by decide +kernel
theorem dX7_cell_1 : decode cX7_cell 1 = .ok (.invokestatic 269, 3) := by decide +kernel
theorem dX7_cell_4 : decode cX7_cell 4 = .ok (.ifCond .ne 6, 3) := by decide +kernel
theorem dX7_cell_7 : decode cX7_cell 7 = .ok (.bipush (-2), 2) := by decide +kernel
theorem dX7_cell_9 : decode cX7_cell 9 = .ok (.ireturn, 1) := by decide +kernel
theorem dX7_cell_10 : decode cX7_cell 10 = .ok (.aload_n 0, 1) := by decide +kernel
theorem dX7_cell_11 : decode cX7_cell 11 = .ok (.getfield 65, 3) := by decide +kernel
theorem dX7_cell_14 : decode cX7_cell 14 = .ok (.iload_n 1, 1) := by decide +kernel
theorem dX7_cell_15 : decode cX7_cell 15 = .ok (.aaload, 1) := by decide +kernel
theorem dX7_cell_16 : decode cX7_cell 16 = .ok (.astore 4, 2) := by decide +kernel
theorem dX7_cell_18 : decode cX7_cell 18 = .ok (.aload 4, 2) := by decide +kernel
theorem dX7_cell_20 : decode cX7_cell 20 = .ok (.getfield 275, 3) := by decide +kernel
theorem dX7_cell_23 : decode cX7_cell 23 = .ok (.iconst (-1), 1) := by decide +kernel
theorem dX7_cell_24 : decode cX7_cell 24 = .ok (.if_icmp .ne 6, 3) := by decide +kernel
theorem dX7_cell_27 : decode cX7_cell 27 = .ok (.bipush (-11), 2) := by decide +kernel
theorem dX7_cell_29 : decode cX7_cell 29 = .ok (.ireturn, 1) := by decide +kernel
theorem dX7_cell_30 : decode cX7_cell 30 = .ok (.aload 4, 2) := by decide +kernel
theorem dX7_cell_32 : decode cX7_cell 32 = .ok (.iload_n 2, 1) := by decide +kernel
theorem dX7_cell_33 : decode cX7_cell 33 = .ok (.invokevirtual 278, 3) := by decide +kernel
theorem dX7_cell_36 : decode cX7_cell 36 = .ok (.ifCond .ne 6, 3) := by decide +kernel
theorem dX7_cell_39 : decode cX7_cell 39 = .ok (.bipush (-12), 2) := by decide +kernel
theorem dX7_cell_41 : decode cX7_cell 41 = .ok (.ireturn, 1) := by decide +kernel
theorem dX7_cell_42 : decode cX7_cell 42 = .ok (.aload 4, 2) := by decide +kernel
theorem dX7_cell_44 : decode cX7_cell 44 = .ok (.iload_n 2, 1) := by decide +kernel
theorem dX7_cell_45 : decode cX7_cell 45 = .ok (.iload_n 3, 1) := by decide +kernel
theorem dX7_cell_46 : decode cX7_cell 46 = .ok (.invokevirtual 281, 3) := by decide +kernel
theorem dX7_cell_49 : decode cX7_cell 49 = .ok (.iconst 1, 1) := by decide +kernel
theorem dX7_cell_50 : decode cX7_cell 50 = .ok (.ireturn, 1) := by decide +kernel
theorem dX7_copy_0 : decode cX7_copy 0 = .ok (.iload_n 1, 1) := by decide +kernel
theorem dX7_copy_1 : decode cX7_copy 1 = .ok (.invokestatic 269, 3) := by decide +kernel
theorem dX7_copy_4 : decode cX7_copy 4 = .ok (.ifCond .eq 10, 3) := by decide +kernel
theorem dX7_copy_7 : decode cX7_copy 7 = .ok (.iload_n 3, 1) := by decide +kernel
theorem dX7_copy_8 : decode cX7_copy 8 = .ok (.invokestatic 269, 3) := by decide +kernel
theorem dX7_copy_11 : decode cX7_copy 11 = .ok (.ifCond .ne 6, 3) := by decide +kernel
theorem dX7_copy_14 : decode cX7_copy 14 = .ok (.bipush (-2), 2) := by decide +kernel
theorem dX7_copy_16 : decode cX7_copy 16 = .ok (.ireturn, 1) := by decide +kernel
theorem dX7_copy_17 : decode cX7_copy 17 = .ok (.aload_n 0, 1) := by decide +kernel
theorem dX7_copy_18 : decode cX7_copy 18 = .ok (.getfield 65, 3) := by decide +kernel
theorem dX7_copy_21 : decode cX7_copy 21 = .ok (.iload_n 1, 1) := by decide +kernel
theorem dX7_copy_22 : decode cX7_copy 22 = .ok (.aaload, 1) := by decide +kernel
theorem dX7_copy_23 : decode cX7_copy 23 = .ok (.astore 6, 2) := by decide +kernel
theorem dX7_copy_25 : decode cX7_copy 25 = .ok (.aload_n 0, 1) := by decide +kernel
theorem dX7_copy_26 : decode cX7_copy 26 = .ok (.getfield 65, 3) := by decide +kernel
theorem dX7_copy_29 : decode cX7_copy 29 = .ok (.iload_n 3, 1) := by decide +kernel
theorem dX7_copy_30 : decode cX7_copy 30 = .ok (.aaload, 1) := by decide +kernel
theorem dX7_copy_31 : decode cX7_copy 31 = .ok (.astore 7, 2) := by decide +kernel
theorem dX7_copy_33 : decode cX7_copy 33 = .ok (.aload 6, 2) := by decide +kernel
theorem dX7_copy_35 : decode cX7_copy 35 = .ok (.getfield 275, 3) := by decide +kernel
theorem dX7_copy_38 : decode cX7_copy 38 = .ok (.iconst (-1), 1) := by decide +kernel
theorem dX7_copy_39 : decode cX7_copy 39 = .ok (.if_icmp .eq 12, 3) := by decide +kernel
theorem dX7_copy_42 : decode cX7_copy 42 = .ok (.aload 7, 2) := by decide +kernel
theorem dX7_copy_44 : decode cX7_copy 44 = .ok (.getfield 275, 3) := by decide +kernel
theorem dX7_copy_47 : decode cX7_copy 47 = .ok (.iconst (-1), 1) := by decide +kernel
theorem dX7_copy_48 : decode cX7_copy 48 = .ok (.if_icmp .ne 6, 3) := by decide +kernel
theorem dX7_copy_51 : decode cX7_copy 51 = .ok (.bipush (-11), 2) := by decide +kernel
theorem dX7_copy_53 : decode cX7_copy 53 = .ok (.ireturn, 1) := by decide +kernel
theorem dX7_copy_54 : decode cX7_copy 54 = .ok (.aload 6, 2) := by decide +kernel
theorem dX7_copy_56 : decode cX7_copy 56 = .ok (.getfield 275, 3) := by decide +kernel
theorem dX7_copy_59 : decode cX7_copy 59 = .ok (.aload 7, 2) := by decide +kernel
theorem dX7_copy_61 : decode cX7_copy 61 = .ok (.getfield 275, 3) := by decide +kernel
theorem dX7_copy_64 : decode cX7_copy 64 = .ok (.if_icmp .eq 6, 3) := by decide +kernel
theorem dX7_copy_67 : decode cX7_copy 67 = .ok (.bipush (-13), 2) := by decide +kernel
theorem dX7_copy_69 : decode cX7_copy 69 = .ok (.ireturn, 1) := by decide +kernel
theorem dX7_copy_70 : decode cX7_copy 70 = .ok (.aload 6, 2) := by decide +kernel
theorem dX7_copy_72 : decode cX7_copy 72 = .ok (.iload_n 2, 1) := by decide +kernel
theorem dX7_copy_73 : decode cX7_copy 73 = .ok (.iload 5, 2) := by decide +kernel
theorem dX7_copy_75 : decode cX7_copy 75 = .ok (.invokevirtual 284, 3) := by decide +kernel
theorem dX7_copy_78 : decode cX7_copy 78 = .ok (.ifCond .eq 15, 3) := by decide +kernel
theorem dX7_copy_81 : decode cX7_copy 81 = .ok (.aload 7, 2) := by decide +kernel
theorem dX7_copy_83 : decode cX7_copy 83 = .ok (.iload 4, 2) := by decide +kernel
theorem dX7_copy_85 : decode cX7_copy 85 = .ok (.iload 5, 2) := by decide +kernel
theorem dX7_copy_87 : decode cX7_copy 87 = .ok (.invokevirtual 284, 3) := by decide +kernel
theorem dX7_copy_90 : decode cX7_copy 90 = .ok (.ifCond .ne 6, 3) := by decide +kernel
theorem dX7_copy_93 : decode cX7_copy 93 = .ok (.bipush (-12), 2) := by decide +kernel
theorem dX7_copy_95 : decode cX7_copy 95 = .ok (.ireturn, 1) := by decide +kernel
theorem dX7_copy_96 : decode cX7_copy 96 = .ok (.aload 6, 2) := by decide +kernel
theorem dX7_copy_98 : decode cX7_copy 98 = .ok (.getfield 219, 3) := by decide +kernel
theorem dX7_copy_101 : decode cX7_copy 101 = .ok (.iload_n 2, 1) := by decide +kernel
theorem dX7_copy_102 : decode cX7_copy 102 = .ok (.aload 7, 2) := by decide +kernel
theorem dX7_copy_104 : decode cX7_copy 104 = .ok (.getfield 219, 3) := by decide +kernel
theorem dX7_copy_107 : decode cX7_copy 107 = .ok (.iload 4, 2) := by decide +kernel
theorem dX7_copy_109 : decode cX7_copy 109 = .ok (.iload 5, 2) := by decide +kernel
theorem dX7_copy_111 : decode cX7_copy 111 = .ok (.invokestatic 288, 3) := by decide +kernel
theorem dX7_copy_114 : decode cX7_copy 114 = .ok (.iload 5, 2) := by decide +kernel
theorem dX7_copy_116 : decode cX7_copy 116 = .ok (.ireturn, 1) := by decide +kernel
theorem dX7_crossings_0 : decode cX7_crossings 0 = .ok (.iload_n 1, 1) := by decide +kernel
theorem dX7_crossings_1 : decode cX7_crossings 1 = .ok (.invokestatic 269, 3) := by decide +kernel
theorem dX7_crossings_4 : decode cX7_crossings 4 = .ok (.ifCond .eq 23, 3) := by decide +kernel
theorem dX7_crossings_7 : decode cX7_crossings 7 = .ok (.iload_n 2, 1) := by decide +kernel
theorem dX7_crossings_8 : decode cX7_crossings 8 = .ok (.iconst 0, 1) := by decide +kernel
theorem dX7_crossings_9 : decode cX7_crossings 9 = .ok (.iconst 2, 1) := by decide +kernel
theorem dX7_crossings_10 : decode cX7_crossings 10 = .ok (.invokestatic 100, 3) := by decide +kernel
theorem dX7_crossings_13 : decode cX7_crossings 13 = .ok (.ifCond .eq 14, 3) := by decide +kernel
theorem dX7_crossings_16 : decode cX7_crossings 16 = .ok (.iload 4, 2) := by decide +kernel
theorem dX7_crossings_18 : decode cX7_crossings 18 = .ok (.iconst 0, 1) := by decide +kernel
theorem dX7_crossings_19 : decode cX7_crossings 19 = .ok (.bipush 20, 2) := by decide +kernel
theorem dX7_crossings_21 : decode cX7_crossings 21 = .ok (.invokestatic 100, 3) := by decide +kernel
theorem dX7_crossings_24 : decode cX7_crossings 24 = .ok (.ifCond .ne 6, 3) := by decide +kernel
theorem dX7_crossings_27 : decode cX7_crossings 27 = .ok (.bipush (-2), 2) := by decide +kernel
theorem dX7_crossings_29 : decode cX7_crossings 29 = .ok (.ireturn, 1) := by decide +kernel
theorem dX7_crossings_30 : decode cX7_crossings 30 = .ok (.aload_n 0, 1) := by decide +kernel
theorem dX7_crossings_31 : decode cX7_crossings 31 = .ok (.getfield 65, 3) := by decide +kernel
theorem dX7_crossings_34 : decode cX7_crossings 34 = .ok (.iload_n 1, 1) := by decide +kernel
theorem dX7_crossings_35 : decode cX7_crossings 35 = .ok (.aaload, 1) := by decide +kernel
theorem dX7_crossings_36 : decode cX7_crossings 36 = .ok (.astore 5, 2) := by decide +kernel
theorem dX7_crossings_38 : decode cX7_crossings 38 = .ok (.aload 5, 2) := by decide +kernel
theorem dX7_crossings_40 : decode cX7_crossings 40 = .ok (.getfield 275, 3) := by decide +kernel
theorem dX7_crossings_43 : decode cX7_crossings 43 = .ok (.iconst (-1), 1) := by decide +kernel
theorem dX7_crossings_44 : decode cX7_crossings 44 = .ok (.if_icmp .eq 15, 3) := by decide +kernel
theorem dX7_crossings_47 : decode cX7_crossings 47 = .ok (.aload 5, 2) := by decide +kernel
theorem dX7_crossings_49 : decode cX7_crossings 49 = .ok (.getfield 275, 3) := by decide +kernel
theorem dX7_crossings_52 : decode cX7_crossings 52 = .ok (.iload_n 2, 1) := by decide +kernel
theorem dX7_crossings_53 : decode cX7_crossings 53 = .ok (.if_icmp .eq 6, 3) := by decide +kernel
theorem dX7_crossings_56 : decode cX7_crossings 56 = .ok (.bipush (-13), 2) := by decide +kernel
theorem dX7_crossings_58 : decode cX7_crossings 58 = .ok (.ireturn, 1) := by decide +kernel
theorem dX7_crossings_59 : decode cX7_crossings 59 = .ok (.aload 5, 2) := by decide +kernel
theorem dX7_crossings_61 : decode cX7_crossings 61 = .ok (.getfield 275, 3) := by decide +kernel
theorem dX7_crossings_64 : decode cX7_crossings 64 = .ok (.iconst (-1), 1) := by decide +kernel
theorem dX7_crossings_65 : decode cX7_crossings 65 = .ok (.if_icmp .ne 6, 3) := by decide +kernel
theorem dX7_crossings_68 : decode cX7_crossings 68 = .ok (.bipush (-11), 2) := by decide +kernel
theorem dX7_crossings_70 : decode cX7_crossings 70 = .ok (.ireturn, 1) := by decide +kernel
theorem dX7_crossings_71 : decode cX7_crossings 71 = .ok (.iconst 0, 1) := by decide +kernel
theorem dX7_crossings_72 : decode cX7_crossings 72 = .ok (.istore 6, 2) := by decide +kernel
theorem dX7_crossings_74 : decode cX7_crossings 74 = .ok (.iconst 0, 1) := by decide +kernel
theorem dX7_crossings_75 : decode cX7_crossings 75 = .ok (.istore 7, 2) := by decide +kernel
theorem dX7_crossings_77 : decode cX7_crossings 77 = .ok (.iload 7, 2) := by decide +kernel
theorem dX7_crossings_79 : decode cX7_crossings 79 = .ok (.iload 4, 2) := by decide +kernel
theorem dX7_crossings_81 : decode cX7_crossings 81 = .ok (.if_icmp .ge 70, 3) := by decide +kernel
theorem dX7_crossings_84 : decode cX7_crossings 84 = .ok (.iload_n 3, 1) := by decide +kernel
theorem dX7_crossings_85 : decode cX7_crossings 85 = .ok (.iconst 2, 1) := by decide +kernel
theorem dX7_crossings_86 : decode cX7_crossings 86 = .ok (.iload 7, 2) := by decide +kernel
theorem dX7_crossings_88 : decode cX7_crossings 88 = .ok (.imul, 1) := by decide +kernel
theorem dX7_crossings_89 : decode cX7_crossings 89 = .ok (.iadd, 1) := by decide +kernel
theorem dX7_crossings_90 : decode cX7_crossings 90 = .ok (.istore 8, 2) := by decide +kernel
theorem dX7_crossings_92 : decode cX7_crossings 92 = .ok (.aload 5, 2) := by decide +kernel
theorem dX7_crossings_94 : decode cX7_crossings 94 = .ok (.iload 8, 2) := by decide +kernel
theorem dX7_crossings_96 : decode cX7_crossings 96 = .ok (.invokevirtual 278, 3) := by decide +kernel
theorem dX7_crossings_99 : decode cX7_crossings 99 = .ok (.ifCond .eq 15, 3) := by decide +kernel
theorem dX7_crossings_102 : decode cX7_crossings 102 = .ok (.aload 5, 2) := by decide +kernel
theorem dX7_crossings_104 : decode cX7_crossings 104 = .ok (.iload 8, 2) := by decide +kernel
theorem dX7_crossings_106 : decode cX7_crossings 106 = .ok (.iconst 1, 1) := by decide +kernel
theorem dX7_crossings_107 : decode cX7_crossings 107 = .ok (.iadd, 1) := by decide +kernel
theorem dX7_crossings_108 : decode cX7_crossings 108 = .ok (.invokevirtual 278, 3) := by decide +kernel
theorem dX7_crossings_111 : decode cX7_crossings 111 = .ok (.ifCond .ne 6, 3) := by decide +kernel
theorem dX7_crossings_114 : decode cX7_crossings 114 = .ok (.bipush (-12), 2) := by decide +kernel
theorem dX7_crossings_116 : decode cX7_crossings 116 = .ok (.ireturn, 1) := by decide +kernel
theorem dX7_crossings_117 : decode cX7_crossings 117 = .ok (.aload_n 0, 1) := by decide +kernel
theorem dX7_crossings_118 : decode cX7_crossings 118 = .ok (.aload 5, 2) := by decide +kernel
theorem dX7_crossings_120 : decode cX7_crossings 120 = .ok (.getfield 219, 3) := by decide +kernel
theorem dX7_crossings_123 : decode cX7_crossings 123 = .ok (.iload 8, 2) := by decide +kernel
theorem dX7_crossings_125 : decode cX7_crossings 125 = .ok (.iaload, 1) := by decide +kernel
theorem dX7_crossings_126 : decode cX7_crossings 126 = .ok (.aload 5, 2) := by decide +kernel
theorem dX7_crossings_128 : decode cX7_crossings 128 = .ok (.getfield 219, 3) := by decide +kernel
theorem dX7_crossings_131 : decode cX7_crossings 131 = .ok (.iload 8, 2) := by decide +kernel
theorem dX7_crossings_133 : decode cX7_crossings 133 = .ok (.iconst 1, 1) := by decide +kernel
theorem dX7_crossings_134 : decode cX7_crossings 134 = .ok (.iadd, 1) := by decide +kernel
theorem dX7_crossings_135 : decode cX7_crossings 135 = .ok (.iaload, 1) := by decide +kernel
theorem dX7_crossings_136 : decode cX7_crossings 136 = .ok (.invokevirtual 294, 3) := by decide +kernel
theorem dX7_crossings_139 : decode cX7_crossings 139 = .ok (.ifCond .le 6, 3) := by decide +kernel
theorem dX7_crossings_142 : decode cX7_crossings 142 = .ok (.iinc 6 1, 3) := by decide +kernel
theorem dX7_crossings_145 : decode cX7_crossings 145 = .ok (.iinc 7 1, 3) := by decide +kernel
theorem dX7_crossings_148 : decode cX7_crossings 148 = .ok (.goto (-71), 3) := by decide +kernel
theorem dX7_crossings_151 : decode cX7_crossings 151 = .ok (.iload 6, 2) := by decide +kernel
theorem dX7_crossings_153 : decode cX7_crossings 153 = .ok (.ireturn, 1) := by decide +kernel
theorem dX7_taken_0 : decode cX7_taken 0 = .ok (.iload_n 2, 1) := by decide +kernel
theorem dX7_taken_1 : decode cX7_taken 1 = .ok (.iconst 0, 1) := by decide +kernel
theorem dX7_taken_2 : decode cX7_taken 2 = .ok (.iconst 5, 1) := by decide +kernel
theorem dX7_taken_3 : decode cX7_taken 3 = .ok (.invokestatic 100, 3) := by decide +kernel
theorem dX7_taken_6 : decode cX7_taken 6 = .ok (.ifCond .ne 6, 3) := by decide +kernel
theorem dX7_taken_9 : decode cX7_taken 9 = .ok (.bipush (-2), 2) := by decide +kernel
theorem dX7_taken_11 : decode cX7_taken 11 = .ok (.ireturn, 1) := by decide +kernel
theorem dX7_taken_12 : decode cX7_taken 12 = .ok (.aload_n 0, 1) := by decide +kernel
theorem dX7_taken_13 : decode cX7_taken 13 = .ok (.iload_n 1, 1) := by decide +kernel
theorem dX7_taken_14 : decode cX7_taken 14 = .ok (.invokevirtual 115, 3) := by decide +kernel
theorem dX7_taken_17 : decode cX7_taken 17 = .ok (.ifCond .ne 6, 3) := by decide +kernel
theorem dX7_taken_20 : decode cX7_taken 20 = .ok (.bipush (-11), 2) := by decide +kernel
theorem dX7_taken_22 : decode cX7_taken 22 = .ok (.ireturn, 1) := by decide +kernel
theorem dX7_taken_23 : decode cX7_taken 23 = .ok (.aload_n 0, 1) := by decide +kernel
theorem dX7_taken_24 : decode cX7_taken 24 = .ok (.getfield 10, 3) := by decide +kernel
theorem dX7_taken_27 : decode cX7_taken 27 = .ok (.getfield 132, 3) := by decide +kernel
theorem dX7_taken_30 : decode cX7_taken 30 = .ok (.iload_n 1, 1) := by decide +kernel
theorem dX7_taken_31 : decode cX7_taken 31 = .ok (.iaload, 1) := by decide +kernel
theorem dX7_taken_32 : decode cX7_taken 32 = .ok (.iload_n 2, 1) := by decide +kernel
theorem dX7_taken_33 : decode cX7_taken 33 = .ok (.invokestatic 297, 3) := by decide +kernel
theorem dX7_taken_36 : decode cX7_taken 36 = .ok (.ifCond .eq 15, 3) := by decide +kernel
theorem dX7_taken_39 : decode cX7_taken 39 = .ok (.aload_n 0, 1) := by decide +kernel
theorem dX7_taken_40 : decode cX7_taken 40 = .ok (.getfield 10, 3) := by decide +kernel
theorem dX7_taken_43 : decode cX7_taken 43 = .ok (.getfield 126, 3) := by decide +kernel
theorem dX7_taken_46 : decode cX7_taken 46 = .ok (.iload_n 1, 1) := by decide +kernel
theorem dX7_taken_47 : decode cX7_taken 47 = .ok (.iaload, 1) := by decide +kernel
theorem dX7_taken_48 : decode cX7_taken 48 = .ok (.goto 5, 3) := by decide +kernel
theorem dX7_taken_51 : decode cX7_taken 51 = .ok (.bipush (-13), 2) := by decide +kernel
theorem dX7_taken_53 : decode cX7_taken 53 = .ok (.ireturn, 1) := by decide +kernel
theorem dX7_isWithin_0 : decode cX7_isWithin 0 = .ok (.iload_n 0, 1) := by decide +kernel
theorem dX7_isWithin_1 : decode cX7_isWithin 1 = .ok (.iload_n 1, 1) := by decide +kernel
theorem dX7_isWithin_2 : decode cX7_isWithin 2 = .ok (.if_icmp .lt 12, 3) := by decide +kernel
theorem dX7_isWithin_5 : decode cX7_isWithin 5 = .ok (.iload_n 0, 1) := by decide +kernel
theorem dX7_isWithin_6 : decode cX7_isWithin 6 = .ok (.iload_n 2, 1) := by decide +kernel
theorem dX7_isWithin_7 : decode cX7_isWithin 7 = .ok (.if_icmp .gt 7, 3) := by decide +kernel
theorem dX7_isWithin_10 : decode cX7_isWithin 10 = .ok (.iconst 1, 1) := by decide +kernel
theorem dX7_isWithin_11 : decode cX7_isWithin 11 = .ok (.goto 4, 3) := by decide +kernel
theorem dX7_isWithin_14 : decode cX7_isWithin 14 = .ok (.iconst 0, 1) := by decide +kernel
theorem dX7_isWithin_15 : decode cX7_isWithin 15 = .ok (.ireturn, 1) := by decide +kernel
theorem dX7_isDog_0 : decode cX7_isDog 0 = .ok (.iload_n 1, 1) := by decide +kernel
theorem dX7_isDog_1 : decode cX7_isDog 1 = .ok (.iconst 0, 1) := by decide +kernel
theorem dX7_isDog_2 : decode cX7_isDog 2 = .ok (.aload_n 0, 1) := by decide +kernel
theorem dX7_isDog_3 : decode cX7_isDog 3 = .ok (.getfield 10, 3) := by decide +kernel
theorem dX7_isDog_6 : decode cX7_isDog 6 = .ok (.getfield 110, 3) := by decide +kernel
theorem dX7_isDog_9 : decode cX7_isDog 9 = .ok (.iconst 1, 1) := by decide +kernel
theorem dX7_isDog_10 : decode cX7_isDog 10 = .ok (.isub, 1) := by decide +kernel
theorem dX7_isDog_11 : decode cX7_isDog 11 = .ok (.invokestatic 100, 3) := by decide +kernel
theorem dX7_isDog_14 : decode cX7_isDog 14 = .ok (.ireturn, 1) := by decide +kernel
theorem dX7_isSheet_0 : decode cX7_isSheet 0 = .ok (.iload_n 0, 1) := by decide +kernel
theorem dX7_isSheet_1 : decode cX7_isSheet 1 = .ok (.iconst 0, 1) := by decide +kernel
theorem dX7_isSheet_2 : decode cX7_isSheet 2 = .ok (.iconst 3, 1) := by decide +kernel
theorem dX7_isSheet_3 : decode cX7_isSheet 3 = .ok (.invokestatic 100, 3) := by decide +kernel
theorem dX7_isSheet_6 : decode cX7_isSheet 6 = .ok (.ireturn, 1) := by decide +kernel
theorem dX7_bit_0 : decode cX7_bit 0 = .ok (.iconst 1, 1) := by decide +kernel
theorem dX7_bit_1 : decode cX7_bit 1 = .ok (.iload_n 0, 1) := by decide +kernel
theorem dX7_bit_2 : decode cX7_bit 2 = .ok (.ishl, 1) := by decide +kernel
theorem dX7_bit_3 : decode cX7_bit 3 = .ok (.ireturn, 1) := by decide +kernel
theorem dX7_allDogs_0 : decode cX7_allDogs 0 = .ok (.aload_n 0, 1) := by decide +kernel
theorem dX7_allDogs_1 : decode cX7_allDogs 1 = .ok (.getfield 10, 3) := by decide +kernel
theorem dX7_allDogs_4 : decode cX7_allDogs 4 = .ok (.getfield 110, 3) := by decide +kernel
theorem dX7_allDogs_7 : decode cX7_allDogs 7 = .ok (.invokestatic 178, 3) := by decide +kernel
theorem dX7_allDogs_10 : decode cX7_allDogs 10 = .ok (.iconst 1, 1) := by decide +kernel
theorem dX7_allDogs_11 : decode cX7_allDogs 11 = .ok (.isub, 1) := by decide +kernel
theorem dX7_allDogs_12 : decode cX7_allDogs 12 = .ok (.ireturn, 1) := by decide +kernel
theorem dX7_isUnder_0 : decode cX7_isUnder 0 = .ok (.iload_n 0, 1) := by decide +kernel
theorem dX7_isUnder_1 : decode cX7_isUnder 1 = .ok (.istore_n 2, 1) := by decide +kernel
theorem dX7_isUnder_2 : decode cX7_isUnder 2 = .ok (.iconst 0, 1) := by decide +kernel
theorem dX7_isUnder_3 : decode cX7_isUnder 3 = .ok (.istore_n 3, 1) := by decide +kernel
theorem dX7_isUnder_4 : decode cX7_isUnder 4 = .ok (.iload_n 3, 1) := by decide +kernel
theorem dX7_isUnder_5 : decode cX7_isUnder 5 = .ok (.getstatic 300, 3) := by decide +kernel
theorem dX7_isUnder_8 : decode cX7_isUnder 8 = .ok (.arraylength, 1) := by decide +kernel
theorem dX7_isUnder_9 : decode cX7_isUnder 9 = .ok (.if_icmp .ge 31, 3) := by decide +kernel
theorem dX7_isUnder_12 : decode cX7_isUnder 12 = .ok (.iload_n 2, 1) := by decide +kernel
theorem dX7_isUnder_13 : decode cX7_isUnder 13 = .ok (.iconst 0, 1) := by decide +kernel
theorem dX7_isUnder_14 : decode cX7_isUnder 14 = .ok (.iconst 5, 1) := by decide +kernel
theorem dX7_isUnder_15 : decode cX7_isUnder 15 = .ok (.invokestatic 100, 3) := by decide +kernel
theorem dX7_isUnder_18 : decode cX7_isUnder 18 = .ok (.ifCond .eq 22, 3) := by decide +kernel
theorem dX7_isUnder_21 : decode cX7_isUnder 21 = .ok (.iload_n 2, 1) := by decide +kernel
theorem dX7_isUnder_22 : decode cX7_isUnder 22 = .ok (.iload_n 1, 1) := by decide +kernel
theorem dX7_isUnder_23 : decode cX7_isUnder 23 = .ok (.if_icmp .ne 5, 3) := by decide +kernel
theorem dX7_isUnder_26 : decode cX7_isUnder 26 = .ok (.iconst 1, 1) := by decide +kernel
theorem dX7_isUnder_27 : decode cX7_isUnder 27 = .ok (.ireturn, 1) := by decide +kernel
theorem dX7_isUnder_28 : decode cX7_isUnder 28 = .ok (.getstatic 300, 3) := by decide +kernel
theorem dX7_isUnder_31 : decode cX7_isUnder 31 = .ok (.iload_n 2, 1) := by decide +kernel
theorem dX7_isUnder_32 : decode cX7_isUnder 32 = .ok (.iaload, 1) := by decide +kernel
theorem dX7_isUnder_33 : decode cX7_isUnder 33 = .ok (.istore_n 2, 1) := by decide +kernel
theorem dX7_isUnder_34 : decode cX7_isUnder 34 = .ok (.iinc 3 1, 3) := by decide +kernel
theorem dX7_isUnder_37 : decode cX7_isUnder 37 = .ok (.goto (-33), 3) := by decide +kernel
theorem dX7_isUnder_40 : decode cX7_isUnder 40 = .ok (.iconst 0, 1) := by decide +kernel
theorem dX7_isUnder_41 : decode cX7_isUnder 41 = .ok (.ireturn, 1) := by decide +kernel
theorem dX7_replace_0 : decode cX7_replace 0 = .ok (.aload_n 0, 1) := by decide +kernel
theorem dX7_replace_1 : decode cX7_replace 1 = .ok (.iload_n 1, 1) := by decide +kernel
theorem dX7_replace_2 : decode cX7_replace 2 = .ok (.iaload, 1) := by decide +kernel
theorem dX7_replace_3 : decode cX7_replace 3 = .ok (.istore_n 3, 1) := by decide +kernel
theorem dX7_replace_4 : decode cX7_replace 4 = .ok (.aload_n 0, 1) := by decide +kernel
theorem dX7_replace_5 : decode cX7_replace 5 = .ok (.iload_n 1, 1) := by decide +kernel
theorem dX7_replace_6 : decode cX7_replace 6 = .ok (.iload_n 2, 1) := by decide +kernel
theorem dX7_replace_7 : decode cX7_replace 7 = .ok (.iastore, 1) := by decide +kernel
theorem dX7_replace_8 : decode cX7_replace 8 = .ok (.iload_n 3, 1) := by decide +kernel
theorem dX7_replace_9 : decode cX7_replace 9 = .ok (.ireturn, 1) := by decide +kernel
theorem dX7_greatestDivisor_0 : decode cX7_greatestDivisor 0 = .ok (.iload_n 0, 1) := by decide +kernel
theorem dX7_greatestDivisor_1 : decode cX7_greatestDivisor 1 = .ok (.istore_n 2, 1) := by decide +kernel
theorem dX7_greatestDivisor_2 : decode cX7_greatestDivisor 2 = .ok (.iload_n 1, 1) := by decide +kernel
theorem dX7_greatestDivisor_3 : decode cX7_greatestDivisor 3 = .ok (.istore_n 3, 1) := by decide +kernel
theorem dX7_greatestDivisor_4 : decode cX7_greatestDivisor 4 = .ok (.iconst 0, 1) := by decide +kernel
theorem dX7_greatestDivisor_5 : decode cX7_greatestDivisor 5 = .ok (.istore 4, 2) := by decide +kernel
theorem dX7_greatestDivisor_7 : decode cX7_greatestDivisor 7 = .ok (.iload 4, 2) := by decide +kernel
theorem dX7_greatestDivisor_9 : decode cX7_greatestDivisor 9 = .ok (.bipush 64, 2) := by decide +kernel
theorem dX7_greatestDivisor_11 : decode cX7_greatestDivisor 11 = .ok (.if_icmp .ge 23, 3) := by decide +kernel
theorem dX7_greatestDivisor_14 : decode cX7_greatestDivisor 14 = .ok (.iload_n 3, 1) := by decide +kernel
theorem dX7_greatestDivisor_15 : decode cX7_greatestDivisor 15 = .ok (.ifCond .eq 19, 3) := by decide +kernel
theorem dX7_greatestDivisor_18 : decode cX7_greatestDivisor 18 = .ok (.iload_n 2, 1) := by decide +kernel
theorem dX7_greatestDivisor_19 : decode cX7_greatestDivisor 19 = .ok (.iload_n 3, 1) := by decide +kernel
theorem dX7_greatestDivisor_20 : decode cX7_greatestDivisor 20 = .ok (.irem, 1) := by decide +kernel
theorem dX7_greatestDivisor_21 : decode cX7_greatestDivisor 21 = .ok (.istore 5, 2) := by decide +kernel
theorem dX7_greatestDivisor_23 : decode cX7_greatestDivisor 23 = .ok (.iload_n 3, 1) := by decide +kernel
theorem dX7_greatestDivisor_24 : decode cX7_greatestDivisor 24 = .ok (.istore_n 2, 1) := by decide +kernel
theorem dX7_greatestDivisor_25 : decode cX7_greatestDivisor 25 = .ok (.iload 5, 2) := by decide +kernel
theorem dX7_greatestDivisor_27 : decode cX7_greatestDivisor 27 = .ok (.istore_n 3, 1) := by decide +kernel
theorem dX7_greatestDivisor_28 : decode cX7_greatestDivisor 28 = .ok (.iinc 4 1, 3) := by decide +kernel
theorem dX7_greatestDivisor_31 : decode cX7_greatestDivisor 31 = .ok (.goto (-24), 3) := by decide +kernel
theorem dX7_greatestDivisor_34 : decode cX7_greatestDivisor 34 = .ok (.iload_n 2, 1) := by decide +kernel
theorem dX7_greatestDivisor_35 : decode cX7_greatestDivisor 35 = .ok (.ifCond .ne 7, 3) := by decide +kernel
theorem dX7_greatestDivisor_38 : decode cX7_greatestDivisor 38 = .ok (.iconst 1, 1) := by decide +kernel
theorem dX7_greatestDivisor_39 : decode cX7_greatestDivisor 39 = .ok (.goto 4, 3) := by decide +kernel
theorem dX7_greatestDivisor_42 : decode cX7_greatestDivisor 42 = .ok (.iload_n 2, 1) := by decide +kernel
theorem dX7_greatestDivisor_43 : decode cX7_greatestDivisor 43 = .ok (.ireturn, 1) := by decide +kernel
theorem dX7_ruled_0 : decode cX7_ruled 0 = .ok (.aload_n 0, 1) := by decide +kernel
theorem dX7_ruled_1 : decode cX7_ruled 1 = .ok (.getfield 59, 3) := by decide +kernel
theorem dX7_ruled_4 : decode cX7_ruled 4 = .ok (.iconst 0, 1) := by decide +kernel
theorem dX7_ruled_5 : decode cX7_ruled 5 = .ok (.iload_n 2, 1) := by decide +kernel
theorem dX7_ruled_6 : decode cX7_ruled 6 = .ok (.iload_n 3, 1) := by decide +kernel
theorem dX7_ruled_7 : decode cX7_ruled 7 = .ok (.invokestatic 184, 3) := by decide +kernel
theorem dX7_ruled_10 : decode cX7_ruled 10 = .ok (.iastore, 1) := by decide +kernel
theorem dX7_ruled_11 : decode cX7_ruled 11 = .ok (.aload_n 0, 1) := by decide +kernel
theorem dX7_ruled_12 : decode cX7_ruled 12 = .ok (.getfield 59, 3) := by decide +kernel
theorem dX7_ruled_15 : decode cX7_ruled 15 = .ok (.iconst 1, 1) := by decide +kernel
theorem dX7_ruled_16 : decode cX7_ruled 16 = .ok (.iload_n 2, 1) := by decide +kernel
theorem dX7_ruled_17 : decode cX7_ruled 17 = .ok (.iload_n 3, 1) := by decide +kernel
theorem dX7_ruled_18 : decode cX7_ruled 18 = .ok (.invokestatic 303, 3) := by decide +kernel
theorem dX7_ruled_21 : decode cX7_ruled 21 = .ok (.iastore, 1) := by decide +kernel
theorem dX7_ruled_22 : decode cX7_ruled 22 = .ok (.aload_n 0, 1) := by decide +kernel
theorem dX7_ruled_23 : decode cX7_ruled 23 = .ok (.getfield 59, 3) := by decide +kernel
theorem dX7_ruled_26 : decode cX7_ruled 26 = .ok (.iconst 2, 1) := by decide +kernel
theorem dX7_ruled_27 : decode cX7_ruled 27 = .ok (.aload_n 0, 1) := by decide +kernel
theorem dX7_ruled_28 : decode cX7_ruled 28 = .ok (.getfield 10, 3) := by decide +kernel
theorem dX7_ruled_31 : decode cX7_ruled 31 = .ok (.getfield 119, 3) := by decide +kernel
theorem dX7_ruled_34 : decode cX7_ruled 34 = .ok (.iload_n 2, 1) := by decide +kernel
theorem dX7_ruled_35 : decode cX7_ruled 35 = .ok (.iaload, 1) := by decide +kernel
theorem dX7_ruled_36 : decode cX7_ruled 36 = .ok (.aload_n 0, 1) := by decide +kernel
theorem dX7_ruled_37 : decode cX7_ruled 37 = .ok (.getfield 10, 3) := by decide +kernel
theorem dX7_ruled_40 : decode cX7_ruled 40 = .ok (.getfield 119, 3) := by decide +kernel
theorem dX7_ruled_43 : decode cX7_ruled 43 = .ok (.iload_n 3, 1) := by decide +kernel
theorem dX7_ruled_44 : decode cX7_ruled 44 = .ok (.iaload, 1) := by decide +kernel
theorem dX7_ruled_45 : decode cX7_ruled 45 = .ok (.isub, 1) := by decide +kernel
theorem dX7_ruled_46 : decode cX7_ruled 46 = .ok (.invokestatic 306, 3) := by decide +kernel
theorem dX7_ruled_49 : decode cX7_ruled 49 = .ok (.iastore, 1) := by decide +kernel
theorem dX7_ruled_50 : decode cX7_ruled 50 = .ok (.aload_n 0, 1) := by decide +kernel
theorem dX7_ruled_51 : decode cX7_ruled 51 = .ok (.getfield 59, 3) := by decide +kernel
theorem dX7_ruled_54 : decode cX7_ruled 54 = .ok (.iconst 3, 1) := by decide +kernel
theorem dX7_ruled_55 : decode cX7_ruled 55 = .ok (.iload 4, 2) := by decide +kernel
theorem dX7_ruled_57 : decode cX7_ruled 57 = .ok (.iastore, 1) := by decide +kernel
theorem dX7_ruled_58 : decode cX7_ruled 58 = .ok (.aload_n 0, 1) := by decide +kernel
theorem dX7_ruled_59 : decode cX7_ruled 59 = .ok (.getfield 59, 3) := by decide +kernel
theorem dX7_ruled_62 : decode cX7_ruled 62 = .ok (.iconst 4, 1) := by decide +kernel
theorem dX7_ruled_63 : decode cX7_ruled 63 = .ok (.aload_n 0, 1) := by decide +kernel
theorem dX7_ruled_64 : decode cX7_ruled 64 = .ok (.getfield 10, 3) := by decide +kernel
theorem dX7_ruled_67 : decode cX7_ruled 67 = .ok (.getfield 110, 3) := by decide +kernel
theorem dX7_ruled_70 : decode cX7_ruled 70 = .ok (.iastore, 1) := by decide +kernel
theorem dX7_ruled_71 : decode cX7_ruled 71 = .ok (.aload_n 0, 1) := by decide +kernel
theorem dX7_ruled_72 : decode cX7_ruled 72 = .ok (.getfield 59, 3) := by decide +kernel
theorem dX7_ruled_75 : decode cX7_ruled 75 = .ok (.iconst 5, 1) := by decide +kernel
theorem dX7_ruled_76 : decode cX7_ruled 76 = .ok (.iload 5, 2) := by decide +kernel
theorem dX7_ruled_78 : decode cX7_ruled 78 = .ok (.iastore, 1) := by decide +kernel
theorem dX7_ruled_79 : decode cX7_ruled 79 = .ok (.aload_n 0, 1) := by decide +kernel
theorem dX7_ruled_80 : decode cX7_ruled 80 = .ok (.getfield 49, 3) := by decide +kernel
theorem dX7_ruled_83 : decode cX7_ruled 83 = .ok (.aload_n 0, 1) := by decide +kernel
theorem dX7_ruled_84 : decode cX7_ruled 84 = .ok (.getfield 10, 3) := by decide +kernel
theorem dX7_ruled_87 : decode cX7_ruled 87 = .ok (.getfield 149, 3) := by decide +kernel
theorem dX7_ruled_90 : decode cX7_ruled 90 = .ok (.aaload, 1) := by decide +kernel
theorem dX7_ruled_91 : decode cX7_ruled 91 = .ok (.iload_n 1, 1) := by decide +kernel
theorem dX7_ruled_92 : decode cX7_ruled 92 = .ok (.aload_n 0, 1) := by decide +kernel
theorem dX7_ruled_93 : decode cX7_ruled 93 = .ok (.getfield 59, 3) := by decide +kernel
theorem dX7_ruled_96 : decode cX7_ruled 96 = .ok (.invokevirtual 309, 3) := by decide +kernel
theorem dX7_ruled_99 : decode cX7_ruled 99 = .ok (.istore 6, 2) := by decide +kernel
theorem dX7_ruled_101 : decode cX7_ruled 101 = .ok (.getstatic 313, 3) := by decide +kernel
theorem dX7_ruled_104 : decode cX7_ruled 104 = .ok (.iload_n 1, 1) := by decide +kernel
theorem dX7_ruled_105 : decode cX7_ruled 105 = .ok (.iaload, 1) := by decide +kernel
theorem dX7_ruled_106 : decode cX7_ruled 106 = .ok (.getstatic 316, 3) := by decide +kernel
theorem dX7_ruled_109 : decode cX7_ruled 109 = .ok (.iload_n 1, 1) := by decide +kernel
theorem dX7_ruled_110 : decode cX7_ruled 110 = .ok (.iaload, 1) := by decide +kernel
theorem dX7_ruled_111 : decode cX7_ruled 111 = .ok (.iload 6, 2) := by decide +kernel
theorem dX7_ruled_113 : decode cX7_ruled 113 = .ok (.invokestatic 184, 3) := by decide +kernel
theorem dX7_ruled_116 : decode cX7_ruled 116 = .ok (.invokestatic 303, 3) := by decide +kernel
theorem dX7_ruled_119 : decode cX7_ruled 119 = .ok (.ireturn, 1) := by decide +kernel
theorem dX7_ruledInHand_0 : decode cX7_ruledInHand 0 = .ok (.aload_n 0, 1) := by decide +kernel
theorem dX7_ruledInHand_1 : decode cX7_ruledInHand 1 = .ok (.getfield 10, 3) := by decide +kernel
theorem dX7_ruledInHand_4 : decode cX7_ruledInHand 4 = .ok (.iload_n 2, 1) := by decide +kernel
theorem dX7_ruledInHand_5 : decode cX7_ruledInHand 5 = .ok (.invokevirtual 135, 3) := by decide +kernel
theorem dX7_ruledInHand_8 : decode cX7_ruledInHand 8 = .ok (.aload_n 0, 1) := by decide +kernel
theorem dX7_ruledInHand_9 : decode cX7_ruledInHand 9 = .ok (.getfield 10, 3) := by decide +kernel
theorem dX7_ruledInHand_12 : decode cX7_ruledInHand 12 = .ok (.iload_n 3, 1) := by decide +kernel
theorem dX7_ruledInHand_13 : decode cX7_ruledInHand 13 = .ok (.invokevirtual 135, 3) := by decide +kernel
theorem dX7_ruledInHand_16 : decode cX7_ruledInHand 16 = .ok (.isub, 1) := by decide +kernel
theorem dX7_ruledInHand_17 : decode cX7_ruledInHand 17 = .ok (.invokestatic 306, 3) := by decide +kernel
theorem dX7_ruledInHand_20 : decode cX7_ruledInHand 20 = .ok (.istore 4, 2) := by decide +kernel
theorem dX7_ruledInHand_22 : decode cX7_ruledInHand 22 = .ok (.aload_n 0, 1) := by decide +kernel
theorem dX7_ruledInHand_23 : decode cX7_ruledInHand 23 = .ok (.iload_n 1, 1) := by decide +kernel
theorem dX7_ruledInHand_24 : decode cX7_ruledInHand 24 = .ok (.iload_n 2, 1) := by decide +kernel
theorem dX7_ruledInHand_25 : decode cX7_ruledInHand 25 = .ok (.iload_n 3, 1) := by decide +kernel
theorem dX7_ruledInHand_26 : decode cX7_ruledInHand 26 = .ok (.iload 4, 2) := by decide +kernel
theorem dX7_ruledInHand_28 : decode cX7_ruledInHand 28 = .ok (.aload_n 0, 1) := by decide +kernel
theorem dX7_ruledInHand_29 : decode cX7_ruledInHand 29 = .ok (.getfield 10, 3) := by decide +kernel
theorem dX7_ruledInHand_32 : decode cX7_ruledInHand 32 = .ok (.iload_n 2, 1) := by decide +kernel
theorem dX7_ruledInHand_33 : decode cX7_ruledInHand 33 = .ok (.iload_n 3, 1) := by decide +kernel
theorem dX7_ruledInHand_34 : decode cX7_ruledInHand 34 = .ok (.invokestatic 184, 3) := by decide +kernel
theorem dX7_ruledInHand_37 : decode cX7_ruledInHand 37 = .ok (.invokevirtual 135, 3) := by decide +kernel
theorem dX7_ruledInHand_40 : decode cX7_ruledInHand 40 = .ok (.invokevirtual 241, 3) := by decide +kernel
theorem dX7_ruledInHand_43 : decode cX7_ruledInHand 43 = .ok (.ireturn, 1) := by decide +kernel
theorem dX7_oddsInHand_0 : decode cX7_oddsInHand 0 = .ok (.iconst 0, 1) := by decide +kernel
theorem dX7_oddsInHand_1 : decode cX7_oddsInHand 1 = .ok (.istore_n 1, 1) := by decide +kernel
theorem dX7_oddsInHand_2 : decode cX7_oddsInHand 2 = .ok (.iconst 0, 1) := by decide +kernel
theorem dX7_oddsInHand_3 : decode cX7_oddsInHand 3 = .ok (.istore_n 2, 1) := by decide +kernel
theorem dX7_oddsInHand_4 : decode cX7_oddsInHand 4 = .ok (.iload_n 2, 1) := by decide +kernel
theorem dX7_oddsInHand_5 : decode cX7_oddsInHand 5 = .ok (.iconst 1, 1) := by decide +kernel
theorem dX7_oddsInHand_6 : decode cX7_oddsInHand 6 = .ok (.iadd, 1) := by decide +kernel
theorem dX7_oddsInHand_7 : decode cX7_oddsInHand 7 = .ok (.aload_n 0, 1) := by decide +kernel
theorem dX7_oddsInHand_8 : decode cX7_oddsInHand 8 = .ok (.getfield 10, 3) := by decide +kernel
theorem dX7_oddsInHand_11 : decode cX7_oddsInHand 11 = .ok (.getfield 110, 3) := by decide +kernel
theorem dX7_oddsInHand_14 : decode cX7_oddsInHand 14 = .ok (.if_icmp .ge 37, 3) := by decide +kernel
theorem dX7_oddsInHand_17 : decode cX7_oddsInHand 17 = .ok (.iload_n 1, 1) := by decide +kernel
theorem dX7_oddsInHand_18 : decode cX7_oddsInHand 18 = .ok (.aload_n 0, 1) := by decide +kernel
theorem dX7_oddsInHand_19 : decode cX7_oddsInHand 19 = .ok (.iconst 0, 1) := by decide +kernel
theorem dX7_oddsInHand_20 : decode cX7_oddsInHand 20 = .ok (.aload_n 0, 1) := by decide +kernel
theorem dX7_oddsInHand_21 : decode cX7_oddsInHand 21 = .ok (.getfield 10, 3) := by decide +kernel
theorem dX7_oddsInHand_24 : decode cX7_oddsInHand 24 = .ok (.getfield 152, 3) := by decide +kernel
theorem dX7_oddsInHand_27 : decode cX7_oddsInHand 27 = .ok (.iload_n 2, 1) := by decide +kernel
theorem dX7_oddsInHand_28 : decode cX7_oddsInHand 28 = .ok (.iaload, 1) := by decide +kernel
theorem dX7_oddsInHand_29 : decode cX7_oddsInHand 29 = .ok (.aload_n 0, 1) := by decide +kernel
theorem dX7_oddsInHand_30 : decode cX7_oddsInHand 30 = .ok (.getfield 10, 3) := by decide +kernel
theorem dX7_oddsInHand_33 : decode cX7_oddsInHand 33 = .ok (.getfield 152, 3) := by decide +kernel
theorem dX7_oddsInHand_36 : decode cX7_oddsInHand 36 = .ok (.iload_n 2, 1) := by decide +kernel
theorem dX7_oddsInHand_37 : decode cX7_oddsInHand 37 = .ok (.iconst 1, 1) := by decide +kernel
theorem dX7_oddsInHand_38 : decode cX7_oddsInHand 38 = .ok (.iadd, 1) := by decide +kernel
theorem dX7_oddsInHand_39 : decode cX7_oddsInHand 39 = .ok (.iaload, 1) := by decide +kernel
theorem dX7_oddsInHand_40 : decode cX7_oddsInHand 40 = .ok (.invokevirtual 144, 3) := by decide +kernel
theorem dX7_oddsInHand_43 : decode cX7_oddsInHand 43 = .ok (.iadd, 1) := by decide +kernel
theorem dX7_oddsInHand_44 : decode cX7_oddsInHand 44 = .ok (.istore_n 1, 1) := by decide +kernel
theorem dX7_oddsInHand_45 : decode cX7_oddsInHand 45 = .ok (.iinc 2 1, 3) := by decide +kernel
theorem dX7_oddsInHand_48 : decode cX7_oddsInHand 48 = .ok (.goto (-44), 3) := by decide +kernel
theorem dX7_oddsInHand_51 : decode cX7_oddsInHand 51 = .ok (.iload_n 1, 1) := by decide +kernel
theorem dX7_oddsInHand_52 : decode cX7_oddsInHand 52 = .ok (.ireturn, 1) := by decide +kernel
theorem dX7_findWorths_0 : decode cX7_findWorths 0 = .ok (.iconst 0, 1) := by decide +kernel
theorem dX7_findWorths_1 : decode cX7_findWorths 1 = .ok (.istore_n 1, 1) := by decide +kernel
theorem dX7_findWorths_2 : decode cX7_findWorths 2 = .ok (.iload_n 1, 1) := by decide +kernel
theorem dX7_findWorths_3 : decode cX7_findWorths 3 = .ok (.aload_n 0, 1) := by decide +kernel
theorem dX7_findWorths_4 : decode cX7_findWorths 4 = .ok (.getfield 10, 3) := by decide +kernel
theorem dX7_findWorths_7 : decode cX7_findWorths 7 = .ok (.getfield 110, 3) := by decide +kernel
theorem dX7_findWorths_10 : decode cX7_findWorths 10 = .ok (.if_icmp .ge 48, 3) := by decide +kernel
theorem dX7_findWorths_13 : decode cX7_findWorths 13 = .ok (.iload_n 1, 1) := by decide +kernel
theorem dX7_findWorths_14 : decode cX7_findWorths 14 = .ok (.iconst 1, 1) := by decide +kernel
theorem dX7_findWorths_15 : decode cX7_findWorths 15 = .ok (.iadd, 1) := by decide +kernel
theorem dX7_findWorths_16 : decode cX7_findWorths 16 = .ok (.istore_n 2, 1) := by decide +kernel
theorem dX7_findWorths_17 : decode cX7_findWorths 17 = .ok (.iload_n 2, 1) := by decide +kernel
theorem dX7_findWorths_18 : decode cX7_findWorths 18 = .ok (.aload_n 0, 1) := by decide +kernel
theorem dX7_findWorths_19 : decode cX7_findWorths 19 = .ok (.getfield 10, 3) := by decide +kernel
theorem dX7_findWorths_22 : decode cX7_findWorths 22 = .ok (.getfield 110, 3) := by decide +kernel
theorem dX7_findWorths_25 : decode cX7_findWorths 25 = .ok (.if_icmp .ge 27, 3) := by decide +kernel
theorem dX7_findWorths_28 : decode cX7_findWorths 28 = .ok (.aload_n 0, 1) := by decide +kernel
theorem dX7_findWorths_29 : decode cX7_findWorths 29 = .ok (.getfield 75, 3) := by decide +kernel
theorem dX7_findWorths_32 : decode cX7_findWorths 32 = .ok (.iload_n 1, 1) := by decide +kernel
theorem dX7_findWorths_33 : decode cX7_findWorths 33 = .ok (.bipush 6, 2) := by decide +kernel
theorem dX7_findWorths_35 : decode cX7_findWorths 35 = .ok (.imul, 1) := by decide +kernel
theorem dX7_findWorths_36 : decode cX7_findWorths 36 = .ok (.iload_n 2, 1) := by decide +kernel
theorem dX7_findWorths_37 : decode cX7_findWorths 37 = .ok (.iadd, 1) := by decide +kernel
theorem dX7_findWorths_38 : decode cX7_findWorths 38 = .ok (.aload_n 0, 1) := by decide +kernel
theorem dX7_findWorths_39 : decode cX7_findWorths 39 = .ok (.iconst 1, 1) := by decide +kernel
theorem dX7_findWorths_40 : decode cX7_findWorths 40 = .ok (.iload_n 1, 1) := by decide +kernel
theorem dX7_findWorths_41 : decode cX7_findWorths 41 = .ok (.iload_n 2, 1) := by decide +kernel
theorem dX7_findWorths_42 : decode cX7_findWorths 42 = .ok (.invokevirtual 144, 3) := by decide +kernel
theorem dX7_findWorths_45 : decode cX7_findWorths 45 = .ok (.iastore, 1) := by decide +kernel
theorem dX7_findWorths_46 : decode cX7_findWorths 46 = .ok (.iinc 2 1, 3) := by decide +kernel
theorem dX7_findWorths_49 : decode cX7_findWorths 49 = .ok (.goto (-32), 3) := by decide +kernel
theorem dX7_findWorths_52 : decode cX7_findWorths 52 = .ok (.iinc 1 1, 3) := by decide +kernel
theorem dX7_findWorths_55 : decode cX7_findWorths 55 = .ok (.goto (-53), 3) := by decide +kernel
theorem dX7_findWorths_58 : decode cX7_findWorths 58 = .ok (.return_, 1) := by decide +kernel
theorem dX7_worthOf_0 : decode cX7_worthOf 0 = .ok (.iconst 0, 1) := by decide +kernel
theorem dX7_worthOf_1 : decode cX7_worthOf 1 = .ok (.istore_n 2, 1) := by decide +kernel
theorem dX7_worthOf_2 : decode cX7_worthOf 2 = .ok (.iconst 0, 1) := by decide +kernel
theorem dX7_worthOf_3 : decode cX7_worthOf 3 = .ok (.istore_n 3, 1) := by decide +kernel
theorem dX7_worthOf_4 : decode cX7_worthOf 4 = .ok (.iload_n 3, 1) := by decide +kernel
theorem dX7_worthOf_5 : decode cX7_worthOf 5 = .ok (.aload_n 0, 1) := by decide +kernel
theorem dX7_worthOf_6 : decode cX7_worthOf 6 = .ok (.getfield 10, 3) := by decide +kernel
theorem dX7_worthOf_9 : decode cX7_worthOf 9 = .ok (.getfield 110, 3) := by decide +kernel
theorem dX7_worthOf_12 : decode cX7_worthOf 12 = .ok (.if_icmp .ge 83, 3) := by decide +kernel
theorem dX7_worthOf_15 : decode cX7_worthOf 15 = .ok (.iload_n 1, 1) := by decide +kernel
theorem dX7_worthOf_16 : decode cX7_worthOf 16 = .ok (.iload_n 3, 1) := by decide +kernel
theorem dX7_worthOf_17 : decode cX7_worthOf 17 = .ok (.invokestatic 178, 3) := by decide +kernel
theorem dX7_worthOf_20 : decode cX7_worthOf 20 = .ok (.iand, 1) := by decide +kernel
theorem dX7_worthOf_21 : decode cX7_worthOf 21 = .ok (.ifCond .ne 6, 3) := by decide +kernel
theorem dX7_worthOf_24 : decode cX7_worthOf 24 = .ok (.goto 65, 3) := by decide +kernel
theorem dX7_worthOf_27 : decode cX7_worthOf 27 = .ok (.iload_n 2, 1) := by decide +kernel
theorem dX7_worthOf_28 : decode cX7_worthOf 28 = .ok (.iconst 3, 1) := by decide +kernel
theorem dX7_worthOf_29 : decode cX7_worthOf 29 = .ok (.aload_n 0, 1) := by decide +kernel
theorem dX7_worthOf_30 : decode cX7_worthOf 30 = .ok (.getfield 10, 3) := by decide +kernel
theorem dX7_worthOf_33 : decode cX7_worthOf 33 = .ok (.getfield 119, 3) := by decide +kernel
theorem dX7_worthOf_36 : decode cX7_worthOf 36 = .ok (.iload_n 3, 1) := by decide +kernel
theorem dX7_worthOf_37 : decode cX7_worthOf 37 = .ok (.iaload, 1) := by decide +kernel
theorem dX7_worthOf_38 : decode cX7_worthOf 38 = .ok (.imul, 1) := by decide +kernel
theorem dX7_worthOf_39 : decode cX7_worthOf 39 = .ok (.isub, 1) := by decide +kernel
theorem dX7_worthOf_40 : decode cX7_worthOf 40 = .ok (.istore_n 2, 1) := by decide +kernel
theorem dX7_worthOf_41 : decode cX7_worthOf 41 = .ok (.iload_n 3, 1) := by decide +kernel
theorem dX7_worthOf_42 : decode cX7_worthOf 42 = .ok (.iconst 1, 1) := by decide +kernel
theorem dX7_worthOf_43 : decode cX7_worthOf 43 = .ok (.iadd, 1) := by decide +kernel
theorem dX7_worthOf_44 : decode cX7_worthOf 44 = .ok (.istore 4, 2) := by decide +kernel
theorem dX7_worthOf_46 : decode cX7_worthOf 46 = .ok (.iload 4, 2) := by decide +kernel
theorem dX7_worthOf_48 : decode cX7_worthOf 48 = .ok (.aload_n 0, 1) := by decide +kernel
theorem dX7_worthOf_49 : decode cX7_worthOf 49 = .ok (.getfield 10, 3) := by decide +kernel
theorem dX7_worthOf_52 : decode cX7_worthOf 52 = .ok (.getfield 110, 3) := by decide +kernel
theorem dX7_worthOf_55 : decode cX7_worthOf 55 = .ok (.if_icmp .ge 34, 3) := by decide +kernel
theorem dX7_worthOf_58 : decode cX7_worthOf 58 = .ok (.iload_n 1, 1) := by decide +kernel
theorem dX7_worthOf_59 : decode cX7_worthOf 59 = .ok (.iload 4, 2) := by decide +kernel
theorem dX7_worthOf_61 : decode cX7_worthOf 61 = .ok (.invokestatic 178, 3) := by decide +kernel
theorem dX7_worthOf_64 : decode cX7_worthOf 64 = .ok (.iand, 1) := by decide +kernel
theorem dX7_worthOf_65 : decode cX7_worthOf 65 = .ok (.ifCond .eq 18, 3) := by decide +kernel
theorem dX7_worthOf_68 : decode cX7_worthOf 68 = .ok (.iload_n 2, 1) := by decide +kernel
theorem dX7_worthOf_69 : decode cX7_worthOf 69 = .ok (.aload_n 0, 1) := by decide +kernel
theorem dX7_worthOf_70 : decode cX7_worthOf 70 = .ok (.getfield 75, 3) := by decide +kernel
theorem dX7_worthOf_73 : decode cX7_worthOf 73 = .ok (.iload_n 3, 1) := by decide +kernel
theorem dX7_worthOf_74 : decode cX7_worthOf 74 = .ok (.bipush 6, 2) := by decide +kernel
theorem dX7_worthOf_76 : decode cX7_worthOf 76 = .ok (.imul, 1) := by decide +kernel
theorem dX7_worthOf_77 : decode cX7_worthOf 77 = .ok (.iload 4, 2) := by decide +kernel
theorem dX7_worthOf_79 : decode cX7_worthOf 79 = .ok (.iadd, 1) := by decide +kernel
theorem dX7_worthOf_80 : decode cX7_worthOf 80 = .ok (.iaload, 1) := by decide +kernel
theorem dX7_worthOf_81 : decode cX7_worthOf 81 = .ok (.iadd, 1) := by decide +kernel
theorem dX7_worthOf_82 : decode cX7_worthOf 82 = .ok (.istore_n 2, 1) := by decide +kernel
theorem dX7_worthOf_83 : decode cX7_worthOf 83 = .ok (.iinc 4 1, 3) := by decide +kernel
theorem dX7_worthOf_86 : decode cX7_worthOf 86 = .ok (.goto (-40), 3) := by decide +kernel
theorem dX7_worthOf_89 : decode cX7_worthOf 89 = .ok (.iinc 3 1, 3) := by decide +kernel
theorem dX7_worthOf_92 : decode cX7_worthOf 92 = .ok (.goto (-88), 3) := by decide +kernel
theorem dX7_worthOf_95 : decode cX7_worthOf 95 = .ok (.iload_n 2, 1) := by decide +kernel
theorem dX7_worthOf_96 : decode cX7_worthOf 96 = .ok (.ireturn, 1) := by decide +kernel
theorem dX7_makeTangle_0 : decode cX7_makeTangle 0 = .ok (.aload_n 0, 1) := by decide +kernel
theorem dX7_makeTangle_1 : decode cX7_makeTangle 1 = .ok (.getfield 10, 3) := by decide +kernel
theorem dX7_makeTangle_4 : decode cX7_makeTangle 4 = .ok (.getfield 104, 3) := by decide +kernel
theorem dX7_makeTangle_7 : decode cX7_makeTangle 7 = .ok (.astore_n 1, 1) := by decide +kernel
theorem dX7_makeTangle_8 : decode cX7_makeTangle 8 = .ok (.aload_n 0, 1) := by decide +kernel
theorem dX7_makeTangle_9 : decode cX7_makeTangle 9 = .ok (.getfield 26, 3) := by decide +kernel
theorem dX7_makeTangle_12 : decode cX7_makeTangle 12 = .ok (.iconst 0, 1) := by decide +kernel
theorem dX7_makeTangle_13 : decode cX7_makeTangle 13 = .ok (.putfield 107, 3) := by decide +kernel
theorem dX7_makeTangle_16 : decode cX7_makeTangle 16 = .ok (.iconst 0, 1) := by decide +kernel
theorem dX7_makeTangle_17 : decode cX7_makeTangle 17 = .ok (.istore_n 2, 1) := by decide +kernel
theorem dX7_makeTangle_18 : decode cX7_makeTangle 18 = .ok (.iload_n 2, 1) := by decide +kernel
theorem dX7_makeTangle_19 : decode cX7_makeTangle 19 = .ok (.aload_n 1, 1) := by decide +kernel
theorem dX7_makeTangle_20 : decode cX7_makeTangle 20 = .ok (.getfield 107, 3) := by decide +kernel
theorem dX7_makeTangle_23 : decode cX7_makeTangle 23 = .ok (.if_icmp .ge 46, 3) := by decide +kernel
theorem dX7_makeTangle_26 : decode cX7_makeTangle 26 = .ok (.aload_n 0, 1) := by decide +kernel
theorem dX7_makeTangle_27 : decode cX7_makeTangle 27 = .ok (.getfield 26, 3) := by decide +kernel
theorem dX7_makeTangle_30 : decode cX7_makeTangle 30 = .ok (.aload_n 1, 1) := by decide +kernel
theorem dX7_makeTangle_31 : decode cX7_makeTangle 31 = .ok (.getfield 165, 3) := by decide +kernel
theorem dX7_makeTangle_34 : decode cX7_makeTangle 34 = .ok (.iload_n 2, 1) := by decide +kernel
theorem dX7_makeTangle_35 : decode cX7_makeTangle 35 = .ok (.iaload, 1) := by decide +kernel
theorem dX7_makeTangle_36 : decode cX7_makeTangle 36 = .ok (.aload_n 1, 1) := by decide +kernel
theorem dX7_makeTangle_37 : decode cX7_makeTangle 37 = .ok (.getfield 175, 3) := by decide +kernel
theorem dX7_makeTangle_40 : decode cX7_makeTangle 40 = .ok (.iload_n 2, 1) := by decide +kernel
theorem dX7_makeTangle_41 : decode cX7_makeTangle 41 = .ok (.iaload, 1) := by decide +kernel
theorem dX7_makeTangle_42 : decode cX7_makeTangle 42 = .ok (.aload_n 1, 1) := by decide +kernel
theorem dX7_makeTangle_43 : decode cX7_makeTangle 43 = .ok (.getfield 200, 3) := by decide +kernel
theorem dX7_makeTangle_46 : decode cX7_makeTangle 46 = .ok (.iload_n 2, 1) := by decide +kernel
theorem dX7_makeTangle_47 : decode cX7_makeTangle 47 = .ok (.iaload, 1) := by decide +kernel
theorem dX7_makeTangle_48 : decode cX7_makeTangle 48 = .ok (.aload_n 1, 1) := by decide +kernel
theorem dX7_makeTangle_49 : decode cX7_makeTangle 49 = .ok (.getfield 203, 3) := by decide +kernel
theorem dX7_makeTangle_52 : decode cX7_makeTangle 52 = .ok (.iload_n 2, 1) := by decide +kernel
theorem dX7_makeTangle_53 : decode cX7_makeTangle 53 = .ok (.iaload, 1) := by decide +kernel
theorem dX7_makeTangle_54 : decode cX7_makeTangle 54 = .ok (.aload_n 1, 1) := by decide +kernel
theorem dX7_makeTangle_55 : decode cX7_makeTangle 55 = .ok (.getfield 319, 3) := by decide +kernel
theorem dX7_makeTangle_58 : decode cX7_makeTangle 58 = .ok (.iload_n 2, 1) := by decide +kernel
theorem dX7_makeTangle_59 : decode cX7_makeTangle 59 = .ok (.iaload, 1) := by decide +kernel
theorem dX7_makeTangle_60 : decode cX7_makeTangle 60 = .ok (.invokevirtual 322, 3) := by decide +kernel
theorem dX7_makeTangle_63 : decode cX7_makeTangle 63 = .ok (.iinc 2 1, 3) := by decide +kernel
theorem dX7_makeTangle_66 : decode cX7_makeTangle 66 = .ok (.goto (-48), 3) := by decide +kernel
theorem dX7_makeTangle_69 : decode cX7_makeTangle 69 = .ok (.return_, 1) := by decide +kernel
theorem dX7_leftWithout_0 : decode cX7_leftWithout 0 = .ok (.aload_n 0, 1) := by decide +kernel
theorem dX7_leftWithout_1 : decode cX7_leftWithout 1 = .ok (.getfield 10, 3) := by decide +kernel
theorem dX7_leftWithout_4 : decode cX7_leftWithout 4 = .ok (.getfield 104, 3) := by decide +kernel
theorem dX7_leftWithout_7 : decode cX7_leftWithout 7 = .ok (.astore_n 2, 1) := by decide +kernel
theorem dX7_leftWithout_8 : decode cX7_leftWithout 8 = .ok (.aload_n 0, 1) := by decide +kernel
theorem dX7_leftWithout_9 : decode cX7_leftWithout 9 = .ok (.getfield 30, 3) := by decide +kernel
theorem dX7_leftWithout_12 : decode cX7_leftWithout 12 = .ok (.iconst 0, 1) := by decide +kernel
theorem dX7_leftWithout_13 : decode cX7_leftWithout 13 = .ok (.putfield 107, 3) := by decide +kernel
theorem dX7_leftWithout_16 : decode cX7_leftWithout 16 = .ok (.iconst 0, 1) := by decide +kernel
theorem dX7_leftWithout_17 : decode cX7_leftWithout 17 = .ok (.istore_n 3, 1) := by decide +kernel
theorem dX7_leftWithout_18 : decode cX7_leftWithout 18 = .ok (.iload_n 3, 1) := by decide +kernel
theorem dX7_leftWithout_19 : decode cX7_leftWithout 19 = .ok (.aload_n 2, 1) := by decide +kernel
theorem dX7_leftWithout_20 : decode cX7_leftWithout 20 = .ok (.getfield 107, 3) := by decide +kernel
theorem dX7_leftWithout_23 : decode cX7_leftWithout 23 = .ok (.if_icmp .ge 48, 3) := by decide +kernel
theorem dX7_leftWithout_26 : decode cX7_leftWithout 26 = .ok (.aload_n 2, 1) := by decide +kernel
theorem dX7_leftWithout_27 : decode cX7_leftWithout 27 = .ok (.iload_n 3, 1) := by decide +kernel
theorem dX7_leftWithout_28 : decode cX7_leftWithout 28 = .ok (.invokevirtual 181, 3) := by decide +kernel
theorem dX7_leftWithout_31 : decode cX7_leftWithout 31 = .ok (.iload_n 1, 1) := by decide +kernel
theorem dX7_leftWithout_32 : decode cX7_leftWithout 32 = .ok (.iand, 1) := by decide +kernel
theorem dX7_leftWithout_33 : decode cX7_leftWithout 33 = .ok (.ifCond .ne 32, 3) := by decide +kernel
theorem dX7_leftWithout_36 : decode cX7_leftWithout 36 = .ok (.aload_n 0, 1) := by decide +kernel
theorem dX7_leftWithout_37 : decode cX7_leftWithout 37 = .ok (.getfield 30, 3) := by decide +kernel
theorem dX7_leftWithout_40 : decode cX7_leftWithout 40 = .ok (.aload_n 2, 1) := by decide +kernel
theorem dX7_leftWithout_41 : decode cX7_leftWithout 41 = .ok (.getfield 319, 3) := by decide +kernel
theorem dX7_leftWithout_44 : decode cX7_leftWithout 44 = .ok (.iload_n 3, 1) := by decide +kernel
theorem dX7_leftWithout_45 : decode cX7_leftWithout 45 = .ok (.iaload, 1) := by decide +kernel
theorem dX7_leftWithout_46 : decode cX7_leftWithout 46 = .ok (.iload_n 1, 1) := by decide +kernel
theorem dX7_leftWithout_47 : decode cX7_leftWithout 47 = .ok (.iconst (-1), 1) := by decide +kernel
theorem dX7_leftWithout_48 : decode cX7_leftWithout 48 = .ok (.ixor, 1) := by decide +kernel
theorem dX7_leftWithout_49 : decode cX7_leftWithout 49 = .ok (.iand, 1) := by decide +kernel
theorem dX7_leftWithout_50 : decode cX7_leftWithout 50 = .ok (.invokestatic 195, 3) := by decide +kernel
theorem dX7_leftWithout_53 : decode cX7_leftWithout 53 = .ok (.aload_n 2, 1) := by decide +kernel
theorem dX7_leftWithout_54 : decode cX7_leftWithout 54 = .ok (.getfield 175, 3) := by decide +kernel
theorem dX7_leftWithout_57 : decode cX7_leftWithout 57 = .ok (.iload_n 3, 1) := by decide +kernel
theorem dX7_leftWithout_58 : decode cX7_leftWithout 58 = .ok (.iaload, 1) := by decide +kernel
theorem dX7_leftWithout_59 : decode cX7_leftWithout 59 = .ok (.iconst 0, 1) := by decide +kernel
theorem dX7_leftWithout_60 : decode cX7_leftWithout 60 = .ok (.iconst 0, 1) := by decide +kernel
theorem dX7_leftWithout_61 : decode cX7_leftWithout 61 = .ok (.iconst 0, 1) := by decide +kernel
theorem dX7_leftWithout_62 : decode cX7_leftWithout 62 = .ok (.invokevirtual 322, 3) := by decide +kernel
theorem dX7_leftWithout_65 : decode cX7_leftWithout 65 = .ok (.iinc 3 1, 3) := by decide +kernel
theorem dX7_leftWithout_68 : decode cX7_leftWithout 68 = .ok (.goto (-50), 3) := by decide +kernel
theorem dX7_leftWithout_71 : decode cX7_leftWithout 71 = .ok (.aload_n 0, 1) := by decide +kernel
theorem dX7_leftWithout_72 : decode cX7_leftWithout 72 = .ok (.getfield 30, 3) := by decide +kernel
theorem dX7_leftWithout_75 : decode cX7_leftWithout 75 = .ok (.getfield 107, 3) := by decide +kernel
theorem dX7_leftWithout_78 : decode cX7_leftWithout 78 = .ok (.ireturn, 1) := by decide +kernel
theorem dX7_leftOfDrawn_0 : decode cX7_leftOfDrawn 0 = .ok (.aload_n 0, 1) := by decide +kernel
theorem dX7_leftOfDrawn_1 : decode cX7_leftOfDrawn 1 = .ok (.getfield 10, 3) := by decide +kernel
theorem dX7_leftOfDrawn_4 : decode cX7_leftOfDrawn 4 = .ok (.getfield 110, 3) := by decide +kernel
theorem dX7_leftOfDrawn_7 : decode cX7_leftOfDrawn 7 = .ok (.iconst 1, 1) := by decide +kernel
theorem dX7_leftOfDrawn_8 : decode cX7_leftOfDrawn 8 = .ok (.isub, 1) := by decide +kernel
theorem dX7_leftOfDrawn_9 : decode cX7_leftOfDrawn 9 = .ok (.istore_n 3, 1) := by decide +kernel
theorem dX7_leftOfDrawn_10 : decode cX7_leftOfDrawn 10 = .ok (.iload_n 3, 1) := by decide +kernel
theorem dX7_leftOfDrawn_11 : decode cX7_leftOfDrawn 11 = .ok (.iconst 1, 1) := by decide +kernel
theorem dX7_leftOfDrawn_12 : decode cX7_leftOfDrawn 12 = .ok (.if_icmp .ge 5, 3) := by decide +kernel
theorem dX7_leftOfDrawn_15 : decode cX7_leftOfDrawn 15 = .ok (.iconst 0, 1) := by decide +kernel
theorem dX7_leftOfDrawn_16 : decode cX7_leftOfDrawn 16 = .ok (.ireturn, 1) := by decide +kernel
theorem dX7_leftOfDrawn_17 : decode cX7_leftOfDrawn 17 = .ok (.aload_n 0, 1) := by decide +kernel
theorem dX7_leftOfDrawn_18 : decode cX7_leftOfDrawn 18 = .ok (.getfield 30, 3) := by decide +kernel
theorem dX7_leftOfDrawn_21 : decode cX7_leftOfDrawn 21 = .ok (.iconst 0, 1) := by decide +kernel
theorem dX7_leftOfDrawn_22 : decode cX7_leftOfDrawn 22 = .ok (.putfield 107, 3) := by decide +kernel
theorem dX7_leftOfDrawn_25 : decode cX7_leftOfDrawn 25 = .ok (.iload_n 1, 1) := by decide +kernel
theorem dX7_leftOfDrawn_26 : decode cX7_leftOfDrawn 26 = .ok (.istore 4, 2) := by decide +kernel
theorem dX7_leftOfDrawn_28 : decode cX7_leftOfDrawn 28 = .ok (.iconst 0, 1) := by decide +kernel
theorem dX7_leftOfDrawn_29 : decode cX7_leftOfDrawn 29 = .ok (.istore 5, 2) := by decide +kernel
theorem dX7_leftOfDrawn_31 : decode cX7_leftOfDrawn 31 = .ok (.iload 5, 2) := by decide +kernel
theorem dX7_leftOfDrawn_33 : decode cX7_leftOfDrawn 33 = .ok (.iload_n 2, 1) := by decide +kernel
theorem dX7_leftOfDrawn_34 : decode cX7_leftOfDrawn 34 = .ok (.if_icmp .ge 45, 3) := by decide +kernel
theorem dX7_leftOfDrawn_37 : decode cX7_leftOfDrawn 37 = .ok (.iload 4, 2) := by decide +kernel
theorem dX7_leftOfDrawn_39 : decode cX7_leftOfDrawn 39 = .ok (.ldc_w 325, 3) := by decide +kernel
theorem dX7_leftOfDrawn_42 : decode cX7_leftOfDrawn 42 = .ok (.imul, 1) := by decide +kernel
theorem dX7_leftOfDrawn_43 : decode cX7_leftOfDrawn 43 = .ok (.sipush 12345, 3) := by decide +kernel
theorem dX7_leftOfDrawn_46 : decode cX7_leftOfDrawn 46 = .ok (.iadd, 1) := by decide +kernel
theorem dX7_leftOfDrawn_47 : decode cX7_leftOfDrawn 47 = .ok (.istore 4, 2) := by decide +kernel
theorem dX7_leftOfDrawn_49 : decode cX7_leftOfDrawn 49 = .ok (.aload_n 0, 1) := by decide +kernel
theorem dX7_leftOfDrawn_50 : decode cX7_leftOfDrawn 50 = .ok (.getfield 30, 3) := by decide +kernel
theorem dX7_leftOfDrawn_53 : decode cX7_leftOfDrawn 53 = .ok (.iload 4, 2) := by decide +kernel
theorem dX7_leftOfDrawn_55 : decode cX7_leftOfDrawn 55 = .ok (.bipush 8, 2) := by decide +kernel
theorem dX7_leftOfDrawn_57 : decode cX7_leftOfDrawn 57 = .ok (.iushr, 1) := by decide +kernel
theorem dX7_leftOfDrawn_58 : decode cX7_leftOfDrawn 58 = .ok (.iload_n 3, 1) := by decide +kernel
theorem dX7_leftOfDrawn_59 : decode cX7_leftOfDrawn 59 = .ok (.irem, 1) := by decide +kernel
theorem dX7_leftOfDrawn_60 : decode cX7_leftOfDrawn 60 = .ok (.iload 4, 2) := by decide +kernel
theorem dX7_leftOfDrawn_62 : decode cX7_leftOfDrawn 62 = .ok (.bipush 16, 2) := by decide +kernel
theorem dX7_leftOfDrawn_64 : decode cX7_leftOfDrawn 64 = .ok (.iushr, 1) := by decide +kernel
theorem dX7_leftOfDrawn_65 : decode cX7_leftOfDrawn 65 = .ok (.iconst 2, 1) := by decide +kernel
theorem dX7_leftOfDrawn_66 : decode cX7_leftOfDrawn 66 = .ok (.irem, 1) := by decide +kernel
theorem dX7_leftOfDrawn_67 : decode cX7_leftOfDrawn 67 = .ok (.iconst 0, 1) := by decide +kernel
theorem dX7_leftOfDrawn_68 : decode cX7_leftOfDrawn 68 = .ok (.iconst 0, 1) := by decide +kernel
theorem dX7_leftOfDrawn_69 : decode cX7_leftOfDrawn 69 = .ok (.iconst 0, 1) := by decide +kernel
theorem dX7_leftOfDrawn_70 : decode cX7_leftOfDrawn 70 = .ok (.invokevirtual 322, 3) := by decide +kernel
theorem dX7_leftOfDrawn_73 : decode cX7_leftOfDrawn 73 = .ok (.iinc 5 1, 3) := by decide +kernel
theorem dX7_leftOfDrawn_76 : decode cX7_leftOfDrawn 76 = .ok (.goto (-45), 3) := by decide +kernel
theorem dX7_leftOfDrawn_79 : decode cX7_leftOfDrawn 79 = .ok (.aload_n 0, 1) := by decide +kernel
theorem dX7_leftOfDrawn_80 : decode cX7_leftOfDrawn 80 = .ok (.getfield 30, 3) := by decide +kernel
theorem dX7_leftOfDrawn_83 : decode cX7_leftOfDrawn 83 = .ok (.getfield 107, 3) := by decide +kernel
theorem dX7_leftOfDrawn_86 : decode cX7_leftOfDrawn 86 = .ok (.ireturn, 1) := by decide +kernel
theorem dX7_refusalOfOrder_0 : decode cX7_refusalOfOrder 0 = .ok (.iload_n 1, 1) := by decide +kernel
theorem dX7_refusalOfOrder_1 : decode cX7_refusalOfOrder 1 = .ok (.invokestatic 269, 3) := by decide +kernel
theorem dX7_refusalOfOrder_4 : decode cX7_refusalOfOrder 4 = .ok (.ifCond .ne 6, 3) := by decide +kernel
theorem dX7_refusalOfOrder_7 : decode cX7_refusalOfOrder 7 = .ok (.bipush (-2), 2) := by decide +kernel
theorem dX7_refusalOfOrder_9 : decode cX7_refusalOfOrder 9 = .ok (.ireturn, 1) := by decide +kernel
theorem dX7_refusalOfOrder_10 : decode cX7_refusalOfOrder 10 = .ok (.aload_n 0, 1) := by decide +kernel
theorem dX7_refusalOfOrder_11 : decode cX7_refusalOfOrder 11 = .ok (.getfield 65, 3) := by decide +kernel
theorem dX7_refusalOfOrder_14 : decode cX7_refusalOfOrder 14 = .ok (.iload_n 1, 1) := by decide +kernel
theorem dX7_refusalOfOrder_15 : decode cX7_refusalOfOrder 15 = .ok (.aaload, 1) := by decide +kernel
theorem dX7_refusalOfOrder_16 : decode cX7_refusalOfOrder 16 = .ok (.astore_n 2, 1) := by decide +kernel
theorem dX7_refusalOfOrder_17 : decode cX7_refusalOfOrder 17 = .ok (.aload_n 2, 1) := by decide +kernel
theorem dX7_refusalOfOrder_18 : decode cX7_refusalOfOrder 18 = .ok (.getfield 275, 3) := by decide +kernel
theorem dX7_refusalOfOrder_21 : decode cX7_refusalOfOrder 21 = .ok (.iconst (-1), 1) := by decide +kernel
theorem dX7_refusalOfOrder_22 : decode cX7_refusalOfOrder 22 = .ok (.if_icmp .ne 6, 3) := by decide +kernel
theorem dX7_refusalOfOrder_25 : decode cX7_refusalOfOrder 25 = .ok (.bipush (-11), 2) := by decide +kernel
theorem dX7_refusalOfOrder_27 : decode cX7_refusalOfOrder 27 = .ok (.ireturn, 1) := by decide +kernel
theorem dX7_refusalOfOrder_28 : decode cX7_refusalOfOrder 28 = .ok (.aload_n 2, 1) := by decide +kernel
theorem dX7_refusalOfOrder_29 : decode cX7_refusalOfOrder 29 = .ok (.getfield 218, 3) := by decide +kernel
theorem dX7_refusalOfOrder_32 : decode cX7_refusalOfOrder 32 = .ok (.aload_n 0, 1) := by decide +kernel
theorem dX7_refusalOfOrder_33 : decode cX7_refusalOfOrder 33 = .ok (.getfield 10, 3) := by decide +kernel
theorem dX7_refusalOfOrder_36 : decode cX7_refusalOfOrder 36 = .ok (.getfield 110, 3) := by decide +kernel
theorem dX7_refusalOfOrder_39 : decode cX7_refusalOfOrder 39 = .ok (.if_icmp .eq 6, 3) := by decide +kernel
theorem dX7_refusalOfOrder_42 : decode cX7_refusalOfOrder 42 = .ok (.bipush (-2), 2) := by decide +kernel
theorem dX7_refusalOfOrder_44 : decode cX7_refusalOfOrder 44 = .ok (.ireturn, 1) := by decide +kernel
theorem dX7_refusalOfOrder_45 : decode cX7_refusalOfOrder 45 = .ok (.iconst 0, 1) := by decide +kernel
theorem dX7_refusalOfOrder_46 : decode cX7_refusalOfOrder 46 = .ok (.istore_n 3, 1) := by decide +kernel
theorem dX7_refusalOfOrder_47 : decode cX7_refusalOfOrder 47 = .ok (.iconst 0, 1) := by decide +kernel
theorem dX7_refusalOfOrder_48 : decode cX7_refusalOfOrder 48 = .ok (.istore 4, 2) := by decide +kernel
theorem dX7_refusalOfOrder_50 : decode cX7_refusalOfOrder 50 = .ok (.iload 4, 2) := by decide +kernel
theorem dX7_refusalOfOrder_52 : decode cX7_refusalOfOrder 52 = .ok (.aload_n 2, 1) := by decide +kernel
theorem dX7_refusalOfOrder_53 : decode cX7_refusalOfOrder 53 = .ok (.getfield 218, 3) := by decide +kernel
theorem dX7_refusalOfOrder_56 : decode cX7_refusalOfOrder 56 = .ok (.if_icmp .ge 39, 3) := by decide +kernel
theorem dX7_refusalOfOrder_59 : decode cX7_refusalOfOrder 59 = .ok (.aload_n 0, 1) := by decide +kernel
theorem dX7_refusalOfOrder_60 : decode cX7_refusalOfOrder 60 = .ok (.aload_n 2, 1) := by decide +kernel
theorem dX7_refusalOfOrder_61 : decode cX7_refusalOfOrder 61 = .ok (.getfield 219, 3) := by decide +kernel
theorem dX7_refusalOfOrder_64 : decode cX7_refusalOfOrder 64 = .ok (.iload 4, 2) := by decide +kernel
theorem dX7_refusalOfOrder_66 : decode cX7_refusalOfOrder 66 = .ok (.iaload, 1) := by decide +kernel
theorem dX7_refusalOfOrder_67 : decode cX7_refusalOfOrder 67 = .ok (.invokevirtual 115, 3) := by decide +kernel
theorem dX7_refusalOfOrder_70 : decode cX7_refusalOfOrder 70 = .ok (.ifCond .ne 6, 3) := by decide +kernel
theorem dX7_refusalOfOrder_73 : decode cX7_refusalOfOrder 73 = .ok (.bipush (-2), 2) := by decide +kernel
theorem dX7_refusalOfOrder_75 : decode cX7_refusalOfOrder 75 = .ok (.ireturn, 1) := by decide +kernel
theorem dX7_refusalOfOrder_76 : decode cX7_refusalOfOrder 76 = .ok (.iload_n 3, 1) := by decide +kernel
theorem dX7_refusalOfOrder_77 : decode cX7_refusalOfOrder 77 = .ok (.aload_n 2, 1) := by decide +kernel
theorem dX7_refusalOfOrder_78 : decode cX7_refusalOfOrder 78 = .ok (.getfield 219, 3) := by decide +kernel
theorem dX7_refusalOfOrder_81 : decode cX7_refusalOfOrder 81 = .ok (.iload 4, 2) := by decide +kernel
theorem dX7_refusalOfOrder_83 : decode cX7_refusalOfOrder 83 = .ok (.iaload, 1) := by decide +kernel
theorem dX7_refusalOfOrder_84 : decode cX7_refusalOfOrder 84 = .ok (.invokestatic 178, 3) := by decide +kernel
theorem dX7_refusalOfOrder_87 : decode cX7_refusalOfOrder 87 = .ok (.ior, 1) := by decide +kernel
theorem dX7_refusalOfOrder_88 : decode cX7_refusalOfOrder 88 = .ok (.istore_n 3, 1) := by decide +kernel
theorem dX7_refusalOfOrder_89 : decode cX7_refusalOfOrder 89 = .ok (.iinc 4 1, 3) := by decide +kernel
theorem dX7_refusalOfOrder_92 : decode cX7_refusalOfOrder 92 = .ok (.goto (-42), 3) := by decide +kernel
theorem dX7_refusalOfOrder_95 : decode cX7_refusalOfOrder 95 = .ok (.iload_n 3, 1) := by decide +kernel
theorem dX7_refusalOfOrder_96 : decode cX7_refusalOfOrder 96 = .ok (.aload_n 0, 1) := by decide +kernel
theorem dX7_refusalOfOrder_97 : decode cX7_refusalOfOrder 97 = .ok (.invokevirtual 189, 3) := by decide +kernel
theorem dX7_refusalOfOrder_100 : decode cX7_refusalOfOrder 100 = .ok (.if_icmp .ne 7, 3) := by decide +kernel
theorem dX7_refusalOfOrder_103 : decode cX7_refusalOfOrder 103 = .ok (.iconst 0, 1) := by decide +kernel
theorem dX7_refusalOfOrder_104 : decode cX7_refusalOfOrder 104 = .ok (.goto 5, 3) := by decide +kernel
theorem dX7_refusalOfOrder_107 : decode cX7_refusalOfOrder 107 = .ok (.bipush (-2), 2) := by decide +kernel
theorem dX7_refusalOfOrder_109 : decode cX7_refusalOfOrder 109 = .ok (.ireturn, 1) := by decide +kernel
theorem dX7_findBestOrder_0 : decode cX7_findBestOrder 0 = .ok (.aload_n 0, 1) := by decide +kernel
theorem dX7_findBestOrder_1 : decode cX7_findBestOrder 1 = .ok (.getfield 36, 3) := by decide +kernel
theorem dX7_findBestOrder_4 : decode cX7_findBestOrder 4 = .ok (.aload_n 0, 1) := by decide +kernel
theorem dX7_findBestOrder_5 : decode cX7_findBestOrder 5 = .ok (.getfield 10, 3) := by decide +kernel
theorem dX7_findBestOrder_8 : decode cX7_findBestOrder 8 = .ok (.getfield 110, 3) := by decide +kernel
theorem dX7_findBestOrder_11 : decode cX7_findBestOrder 11 = .ok (.invokevirtual 238, 3) := by decide +kernel
theorem dX7_findBestOrder_14 : decode cX7_findBestOrder 14 = .ok (.iconst 0, 1) := by decide +kernel
theorem dX7_findBestOrder_15 : decode cX7_findBestOrder 15 = .ok (.istore_n 1, 1) := by decide +kernel
theorem dX7_findBestOrder_16 : decode cX7_findBestOrder 16 = .ok (.iload_n 1, 1) := by decide +kernel
theorem dX7_findBestOrder_17 : decode cX7_findBestOrder 17 = .ok (.iconst 1, 1) := by decide +kernel
theorem dX7_findBestOrder_18 : decode cX7_findBestOrder 18 = .ok (.iadd, 1) := by decide +kernel
theorem dX7_findBestOrder_19 : decode cX7_findBestOrder 19 = .ok (.aload_n 0, 1) := by decide +kernel
theorem dX7_findBestOrder_20 : decode cX7_findBestOrder 20 = .ok (.getfield 10, 3) := by decide +kernel
theorem dX7_findBestOrder_23 : decode cX7_findBestOrder 23 = .ok (.getfield 110, 3) := by decide +kernel
theorem dX7_findBestOrder_26 : decode cX7_findBestOrder 26 = .ok (.if_icmp .ge 86, 3) := by decide +kernel
theorem dX7_findBestOrder_29 : decode cX7_findBestOrder 29 = .ok (.iconst 0, 1) := by decide +kernel
theorem dX7_findBestOrder_30 : decode cX7_findBestOrder 30 = .ok (.istore_n 2, 1) := by decide +kernel
theorem dX7_findBestOrder_31 : decode cX7_findBestOrder 31 = .ok (.iload_n 2, 1) := by decide +kernel
theorem dX7_findBestOrder_32 : decode cX7_findBestOrder 32 = .ok (.aload_n 0, 1) := by decide +kernel
theorem dX7_findBestOrder_33 : decode cX7_findBestOrder 33 = .ok (.getfield 10, 3) := by decide +kernel
theorem dX7_findBestOrder_36 : decode cX7_findBestOrder 36 = .ok (.getfield 110, 3) := by decide +kernel
theorem dX7_findBestOrder_39 : decode cX7_findBestOrder 39 = .ok (.if_icmp .ge 67, 3) := by decide +kernel
theorem dX7_findBestOrder_42 : decode cX7_findBestOrder 42 = .ok (.iconst 0, 1) := by decide +kernel
theorem dX7_findBestOrder_43 : decode cX7_findBestOrder 43 = .ok (.istore_n 3, 1) := by decide +kernel
theorem dX7_findBestOrder_44 : decode cX7_findBestOrder 44 = .ok (.iload_n 3, 1) := by decide +kernel
theorem dX7_findBestOrder_45 : decode cX7_findBestOrder 45 = .ok (.aload_n 0, 1) := by decide +kernel
theorem dX7_findBestOrder_46 : decode cX7_findBestOrder 46 = .ok (.getfield 10, 3) := by decide +kernel
theorem dX7_findBestOrder_49 : decode cX7_findBestOrder 49 = .ok (.getfield 110, 3) := by decide +kernel
theorem dX7_findBestOrder_52 : decode cX7_findBestOrder 52 = .ok (.if_icmp .ge 48, 3) := by decide +kernel
theorem dX7_findBestOrder_55 : decode cX7_findBestOrder 55 = .ok (.iload_n 2, 1) := by decide +kernel
theorem dX7_findBestOrder_56 : decode cX7_findBestOrder 56 = .ok (.iload_n 3, 1) := by decide +kernel
theorem dX7_findBestOrder_57 : decode cX7_findBestOrder 57 = .ok (.if_icmp .eq 37, 3) := by decide +kernel
theorem dX7_findBestOrder_60 : decode cX7_findBestOrder 60 = .ok (.iload_n 2, 1) := by decide +kernel
theorem dX7_findBestOrder_61 : decode cX7_findBestOrder 61 = .ok (.iload_n 3, 1) := by decide +kernel
theorem dX7_findBestOrder_62 : decode cX7_findBestOrder 62 = .ok (.if_icmp .ge 7, 3) := by decide +kernel
theorem dX7_findBestOrder_65 : decode cX7_findBestOrder 65 = .ok (.iload_n 1, 1) := by decide +kernel
theorem dX7_findBestOrder_66 : decode cX7_findBestOrder 66 = .ok (.goto 6, 3) := by decide +kernel
theorem dX7_findBestOrder_69 : decode cX7_findBestOrder 69 = .ok (.iload_n 1, 1) := by decide +kernel
theorem dX7_findBestOrder_70 : decode cX7_findBestOrder 70 = .ok (.iconst 1, 1) := by decide +kernel
theorem dX7_findBestOrder_71 : decode cX7_findBestOrder 71 = .ok (.iadd, 1) := by decide +kernel
theorem dX7_findBestOrder_72 : decode cX7_findBestOrder 72 = .ok (.istore 4, 2) := by decide +kernel
theorem dX7_findBestOrder_74 : decode cX7_findBestOrder 74 = .ok (.aload_n 0, 1) := by decide +kernel
theorem dX7_findBestOrder_75 : decode cX7_findBestOrder 75 = .ok (.getfield 36, 3) := by decide +kernel
theorem dX7_findBestOrder_78 : decode cX7_findBestOrder 78 = .ok (.iload_n 1, 1) := by decide +kernel
theorem dX7_findBestOrder_79 : decode cX7_findBestOrder 79 = .ok (.iload_n 2, 1) := by decide +kernel
theorem dX7_findBestOrder_80 : decode cX7_findBestOrder 80 = .ok (.iload_n 3, 1) := by decide +kernel
theorem dX7_findBestOrder_81 : decode cX7_findBestOrder 81 = .ok (.aload_n 0, 1) := by decide +kernel
theorem dX7_findBestOrder_82 : decode cX7_findBestOrder 82 = .ok (.iconst 0, 1) := by decide +kernel
theorem dX7_findBestOrder_83 : decode cX7_findBestOrder 83 = .ok (.iload_n 2, 1) := by decide +kernel
theorem dX7_findBestOrder_84 : decode cX7_findBestOrder 84 = .ok (.iload_n 3, 1) := by decide +kernel
theorem dX7_findBestOrder_85 : decode cX7_findBestOrder 85 = .ok (.iconst 1, 1) := by decide +kernel
theorem dX7_findBestOrder_86 : decode cX7_findBestOrder 86 = .ok (.iload 4, 2) := by decide +kernel
theorem dX7_findBestOrder_88 : decode cX7_findBestOrder 88 = .ok (.invokevirtual 241, 3) := by decide +kernel
theorem dX7_findBestOrder_91 : decode cX7_findBestOrder 91 = .ok (.invokevirtual 326, 3) := by decide +kernel
theorem dX7_findBestOrder_94 : decode cX7_findBestOrder 94 = .ok (.iinc 3 1, 3) := by decide +kernel
theorem dX7_findBestOrder_97 : decode cX7_findBestOrder 97 = .ok (.goto (-53), 3) := by decide +kernel
theorem dX7_findBestOrder_100 : decode cX7_findBestOrder 100 = .ok (.iinc 2 1, 3) := by decide +kernel
theorem dX7_findBestOrder_103 : decode cX7_findBestOrder 103 = .ok (.goto (-72), 3) := by decide +kernel
theorem dX7_findBestOrder_106 : decode cX7_findBestOrder 106 = .ok (.iinc 1 1, 3) := by decide +kernel
theorem dX7_findBestOrder_109 : decode cX7_findBestOrder 109 = .ok (.goto (-93), 3) := by decide +kernel
theorem dX7_findBestOrder_112 : decode cX7_findBestOrder 112 = .ok (.aload_n 0, 1) := by decide +kernel
theorem dX7_findBestOrder_113 : decode cX7_findBestOrder 113 = .ok (.getfield 36, 3) := by decide +kernel
theorem dX7_findBestOrder_116 : decode cX7_findBestOrder 116 = .ok (.invokevirtual 249, 3) := by decide +kernel
theorem dX7_findBestOrder_119 : decode cX7_findBestOrder 119 = .ok (.ireturn, 1) := by decide +kernel
theorem dX7_findFetchOrder_0 : decode cX7_findFetchOrder 0 = .ok (.aload_n 0, 1) := by decide +kernel
theorem dX7_findFetchOrder_1 : decode cX7_findFetchOrder 1 = .ok (.getfield 36, 3) := by decide +kernel
theorem dX7_findFetchOrder_4 : decode cX7_findFetchOrder 4 = .ok (.aload_n 0, 1) := by decide +kernel
theorem dX7_findFetchOrder_5 : decode cX7_findFetchOrder 5 = .ok (.getfield 10, 3) := by decide +kernel
theorem dX7_findFetchOrder_8 : decode cX7_findFetchOrder 8 = .ok (.getfield 110, 3) := by decide +kernel
theorem dX7_findFetchOrder_11 : decode cX7_findFetchOrder 11 = .ok (.invokevirtual 238, 3) := by decide +kernel
theorem dX7_findFetchOrder_14 : decode cX7_findFetchOrder 14 = .ok (.iconst 0, 1) := by decide +kernel
theorem dX7_findFetchOrder_15 : decode cX7_findFetchOrder 15 = .ok (.istore_n 1, 1) := by decide +kernel
theorem dX7_findFetchOrder_16 : decode cX7_findFetchOrder 16 = .ok (.iload_n 1, 1) := by decide +kernel
theorem dX7_findFetchOrder_17 : decode cX7_findFetchOrder 17 = .ok (.aload_n 0, 1) := by decide +kernel
theorem dX7_findFetchOrder_18 : decode cX7_findFetchOrder 18 = .ok (.getfield 10, 3) := by decide +kernel
theorem dX7_findFetchOrder_21 : decode cX7_findFetchOrder 21 = .ok (.getfield 110, 3) := by decide +kernel
theorem dX7_findFetchOrder_24 : decode cX7_findFetchOrder 24 = .ok (.if_icmp .ge 77, 3) := by decide +kernel
theorem dX7_findFetchOrder_27 : decode cX7_findFetchOrder 27 = .ok (.aload_n 0, 1) := by decide +kernel
theorem dX7_findFetchOrder_28 : decode cX7_findFetchOrder 28 = .ok (.getfield 36, 3) := by decide +kernel
theorem dX7_findFetchOrder_31 : decode cX7_findFetchOrder 31 = .ok (.getfield 330, 3) := by decide +kernel
theorem dX7_findFetchOrder_34 : decode cX7_findFetchOrder 34 = .ok (.iload_n 1, 1) := by decide +kernel
theorem dX7_findFetchOrder_35 : decode cX7_findFetchOrder 35 = .ok (.aload_n 0, 1) := by decide +kernel
theorem dX7_findFetchOrder_36 : decode cX7_findFetchOrder 36 = .ok (.getfield 10, 3) := by decide +kernel
theorem dX7_findFetchOrder_39 : decode cX7_findFetchOrder 39 = .ok (.getfield 129, 3) := by decide +kernel
theorem dX7_findFetchOrder_42 : decode cX7_findFetchOrder 42 = .ok (.iload_n 1, 1) := by decide +kernel
theorem dX7_findFetchOrder_43 : decode cX7_findFetchOrder 43 = .ok (.iaload, 1) := by decide +kernel
theorem dX7_findFetchOrder_44 : decode cX7_findFetchOrder 44 = .ok (.iastore, 1) := by decide +kernel
theorem dX7_findFetchOrder_45 : decode cX7_findFetchOrder 45 = .ok (.iconst 0, 1) := by decide +kernel
theorem dX7_findFetchOrder_46 : decode cX7_findFetchOrder 46 = .ok (.istore_n 2, 1) := by decide +kernel
theorem dX7_findFetchOrder_47 : decode cX7_findFetchOrder 47 = .ok (.iload_n 2, 1) := by decide +kernel
theorem dX7_findFetchOrder_48 : decode cX7_findFetchOrder 48 = .ok (.aload_n 0, 1) := by decide +kernel
theorem dX7_findFetchOrder_49 : decode cX7_findFetchOrder 49 = .ok (.getfield 10, 3) := by decide +kernel
theorem dX7_findFetchOrder_52 : decode cX7_findFetchOrder 52 = .ok (.getfield 110, 3) := by decide +kernel
theorem dX7_findFetchOrder_55 : decode cX7_findFetchOrder 55 = .ok (.if_icmp .ge 40, 3) := by decide +kernel
theorem dX7_findFetchOrder_58 : decode cX7_findFetchOrder 58 = .ok (.aload_n 0, 1) := by decide +kernel
theorem dX7_findFetchOrder_59 : decode cX7_findFetchOrder 59 = .ok (.getfield 36, 3) := by decide +kernel
theorem dX7_findFetchOrder_62 : decode cX7_findFetchOrder 62 = .ok (.iload_n 1, 1) := by decide +kernel
theorem dX7_findFetchOrder_63 : decode cX7_findFetchOrder 63 = .ok (.iload_n 2, 1) := by decide +kernel
theorem dX7_findFetchOrder_64 : decode cX7_findFetchOrder 64 = .ok (.aload_n 0, 1) := by decide +kernel
theorem dX7_findFetchOrder_65 : decode cX7_findFetchOrder 65 = .ok (.getfield 10, 3) := by decide +kernel
theorem dX7_findFetchOrder_68 : decode cX7_findFetchOrder 68 = .ok (.getfield 129, 3) := by decide +kernel
theorem dX7_findFetchOrder_71 : decode cX7_findFetchOrder 71 = .ok (.iload_n 1, 1) := by decide +kernel
theorem dX7_findFetchOrder_72 : decode cX7_findFetchOrder 72 = .ok (.iaload, 1) := by decide +kernel
theorem dX7_findFetchOrder_73 : decode cX7_findFetchOrder 73 = .ok (.aload_n 0, 1) := by decide +kernel
theorem dX7_findFetchOrder_74 : decode cX7_findFetchOrder 74 = .ok (.getfield 10, 3) := by decide +kernel
theorem dX7_findFetchOrder_77 : decode cX7_findFetchOrder 77 = .ok (.getfield 129, 3) := by decide +kernel
theorem dX7_findFetchOrder_80 : decode cX7_findFetchOrder 80 = .ok (.iload_n 2, 1) := by decide +kernel
theorem dX7_findFetchOrder_81 : decode cX7_findFetchOrder 81 = .ok (.iaload, 1) := by decide +kernel
theorem dX7_findFetchOrder_82 : decode cX7_findFetchOrder 82 = .ok (.isub, 1) := by decide +kernel
theorem dX7_findFetchOrder_83 : decode cX7_findFetchOrder 83 = .ok (.invokestatic 306, 3) := by decide +kernel
theorem dX7_findFetchOrder_86 : decode cX7_findFetchOrder 86 = .ok (.invokevirtual 245, 3) := by decide +kernel
theorem dX7_findFetchOrder_89 : decode cX7_findFetchOrder 89 = .ok (.iinc 2 1, 3) := by decide +kernel
theorem dX7_findFetchOrder_92 : decode cX7_findFetchOrder 92 = .ok (.goto (-45), 3) := by decide +kernel
theorem dX7_findFetchOrder_95 : decode cX7_findFetchOrder 95 = .ok (.iinc 1 1, 3) := by decide +kernel
theorem dX7_findFetchOrder_98 : decode cX7_findFetchOrder 98 = .ok (.goto (-82), 3) := by decide +kernel
theorem dX7_findFetchOrder_101 : decode cX7_findFetchOrder 101 = .ok (.aload_n 0, 1) := by decide +kernel
theorem dX7_findFetchOrder_102 : decode cX7_findFetchOrder 102 = .ok (.getfield 36, 3) := by decide +kernel
theorem dX7_findFetchOrder_105 : decode cX7_findFetchOrder 105 = .ok (.invokevirtual 249, 3) := by decide +kernel
theorem dX7_findFetchOrder_108 : decode cX7_findFetchOrder 108 = .ok (.ireturn, 1) := by decide +kernel
theorem dX7_rowsLeadingTo_0 : decode cX7_rowsLeadingTo 0 = .ok (.iload_n 2, 1) := by decide +kernel
theorem dX7_rowsLeadingTo_1 : decode cX7_rowsLeadingTo 1 = .ok (.iload_n 3, 1) := by decide +kernel
theorem dX7_rowsLeadingTo_2 : decode cX7_rowsLeadingTo 2 = .ok (.if_icmp .ge 8, 3) := by decide +kernel
theorem dX7_rowsLeadingTo_5 : decode cX7_rowsLeadingTo 5 = .ok (.iload_n 2, 1) := by decide +kernel
theorem dX7_rowsLeadingTo_6 : decode cX7_rowsLeadingTo 6 = .ok (.iconst 4, 1) := by decide +kernel
theorem dX7_rowsLeadingTo_7 : decode cX7_rowsLeadingTo 7 = .ok (.if_icmp .lt 17, 3) := by decide +kernel
theorem dX7_rowsLeadingTo_10 : decode cX7_rowsLeadingTo 10 = .ok (.aload_n 0, 1) := by decide +kernel
theorem dX7_rowsLeadingTo_11 : decode cX7_rowsLeadingTo 11 = .ok (.aload_n 1, 1) := by decide +kernel
theorem dX7_rowsLeadingTo_12 : decode cX7_rowsLeadingTo 12 = .ok (.invokevirtual 333, 3) := by decide +kernel
theorem dX7_rowsLeadingTo_15 : decode cX7_rowsLeadingTo 15 = .ok (.ifCond .eq 7, 3) := by decide +kernel
theorem dX7_rowsLeadingTo_18 : decode cX7_rowsLeadingTo 18 = .ok (.iconst 1, 1) := by decide +kernel
theorem dX7_rowsLeadingTo_19 : decode cX7_rowsLeadingTo 19 = .ok (.goto 4, 3) := by decide +kernel
theorem dX7_rowsLeadingTo_22 : decode cX7_rowsLeadingTo 22 = .ok (.iconst 0, 1) := by decide +kernel
theorem dX7_rowsLeadingTo_23 : decode cX7_rowsLeadingTo 23 = .ok (.ireturn, 1) := by decide +kernel
theorem dX7_rowsLeadingTo_24 : decode cX7_rowsLeadingTo 24 = .ok (.iconst 0, 1) := by decide +kernel
theorem dX7_rowsLeadingTo_25 : decode cX7_rowsLeadingTo 25 = .ok (.istore 5, 2) := by decide +kernel
theorem dX7_rowsLeadingTo_27 : decode cX7_rowsLeadingTo 27 = .ok (.iconst 0, 1) := by decide +kernel
theorem dX7_rowsLeadingTo_28 : decode cX7_rowsLeadingTo 28 = .ok (.istore 6, 2) := by decide +kernel
theorem dX7_rowsLeadingTo_30 : decode cX7_rowsLeadingTo 30 = .ok (.iload 6, 2) := by decide +kernel
theorem dX7_rowsLeadingTo_32 : decode cX7_rowsLeadingTo 32 = .ok (.iconst 1, 1) := by decide +kernel
theorem dX7_rowsLeadingTo_33 : decode cX7_rowsLeadingTo 33 = .ok (.iadd, 1) := by decide +kernel
theorem dX7_rowsLeadingTo_34 : decode cX7_rowsLeadingTo 34 = .ok (.aload_n 0, 1) := by decide +kernel
theorem dX7_rowsLeadingTo_35 : decode cX7_rowsLeadingTo 35 = .ok (.getfield 10, 3) := by decide +kernel
theorem dX7_rowsLeadingTo_38 : decode cX7_rowsLeadingTo 38 = .ok (.getfield 110, 3) := by decide +kernel
theorem dX7_rowsLeadingTo_41 : decode cX7_rowsLeadingTo 41 = .ok (.if_icmp .ge 70, 3) := by decide +kernel
theorem dX7_rowsLeadingTo_44 : decode cX7_rowsLeadingTo 44 = .ok (.iload 4, 2) := by decide +kernel
theorem dX7_rowsLeadingTo_46 : decode cX7_rowsLeadingTo 46 = .ok (.ifCond .eq 17, 3) := by decide +kernel
theorem dX7_rowsLeadingTo_49 : decode cX7_rowsLeadingTo 49 = .ok (.aload_n 0, 1) := by decide +kernel
theorem dX7_rowsLeadingTo_50 : decode cX7_rowsLeadingTo 50 = .ok (.iload 6, 2) := by decide +kernel
theorem dX7_rowsLeadingTo_52 : decode cX7_rowsLeadingTo 52 = .ok (.iload_n 2, 1) := by decide +kernel
theorem dX7_rowsLeadingTo_53 : decode cX7_rowsLeadingTo 53 = .ok (.invokevirtual 337, 3) := by decide +kernel
theorem dX7_rowsLeadingTo_56 : decode cX7_rowsLeadingTo 56 = .ok (.ifCond .eq 7, 3) := by decide +kernel
theorem dX7_rowsLeadingTo_59 : decode cX7_rowsLeadingTo 59 = .ok (.iconst 1, 1) := by decide +kernel
theorem dX7_rowsLeadingTo_60 : decode cX7_rowsLeadingTo 60 = .ok (.goto 4, 3) := by decide +kernel
theorem dX7_rowsLeadingTo_63 : decode cX7_rowsLeadingTo 63 = .ok (.iconst 2, 1) := by decide +kernel
theorem dX7_rowsLeadingTo_64 : decode cX7_rowsLeadingTo 64 = .ok (.istore 7, 2) := by decide +kernel
theorem dX7_rowsLeadingTo_66 : decode cX7_rowsLeadingTo 66 = .ok (.aload_n 0, 1) := by decide +kernel
theorem dX7_rowsLeadingTo_67 : decode cX7_rowsLeadingTo 67 = .ok (.getfield 72, 3) := by decide +kernel
theorem dX7_rowsLeadingTo_70 : decode cX7_rowsLeadingTo 70 = .ok (.iload_n 2, 1) := by decide +kernel
theorem dX7_rowsLeadingTo_71 : decode cX7_rowsLeadingTo 71 = .ok (.iload 6, 2) := by decide +kernel
theorem dX7_rowsLeadingTo_73 : decode cX7_rowsLeadingTo 73 = .ok (.iastore, 1) := by decide +kernel
theorem dX7_rowsLeadingTo_74 : decode cX7_rowsLeadingTo 74 = .ok (.aload_n 0, 1) := by decide +kernel
theorem dX7_rowsLeadingTo_75 : decode cX7_rowsLeadingTo 75 = .ok (.iload 6, 2) := by decide +kernel
theorem dX7_rowsLeadingTo_77 : decode cX7_rowsLeadingTo 77 = .ok (.invokevirtual 340, 3) := by decide +kernel
theorem dX7_rowsLeadingTo_80 : decode cX7_rowsLeadingTo 80 = .ok (.iload 5, 2) := by decide +kernel
theorem dX7_rowsLeadingTo_82 : decode cX7_rowsLeadingTo 82 = .ok (.iload 7, 2) := by decide +kernel
theorem dX7_rowsLeadingTo_84 : decode cX7_rowsLeadingTo 84 = .ok (.aload_n 0, 1) := by decide +kernel
theorem dX7_rowsLeadingTo_85 : decode cX7_rowsLeadingTo 85 = .ok (.aload_n 1, 1) := by decide +kernel
theorem dX7_rowsLeadingTo_86 : decode cX7_rowsLeadingTo 86 = .ok (.iload_n 2, 1) := by decide +kernel
theorem dX7_rowsLeadingTo_87 : decode cX7_rowsLeadingTo 87 = .ok (.iconst 1, 1) := by decide +kernel
theorem dX7_rowsLeadingTo_88 : decode cX7_rowsLeadingTo 88 = .ok (.iadd, 1) := by decide +kernel
theorem dX7_rowsLeadingTo_89 : decode cX7_rowsLeadingTo 89 = .ok (.iload_n 3, 1) := by decide +kernel
theorem dX7_rowsLeadingTo_90 : decode cX7_rowsLeadingTo 90 = .ok (.iload 4, 2) := by decide +kernel
theorem dX7_rowsLeadingTo_92 : decode cX7_rowsLeadingTo 92 = .ok (.invokevirtual 231, 3) := by decide +kernel
theorem dX7_rowsLeadingTo_95 : decode cX7_rowsLeadingTo 95 = .ok (.imul, 1) := by decide +kernel
theorem dX7_rowsLeadingTo_96 : decode cX7_rowsLeadingTo 96 = .ok (.iadd, 1) := by decide +kernel
theorem dX7_rowsLeadingTo_97 : decode cX7_rowsLeadingTo 97 = .ok (.istore 5, 2) := by decide +kernel
theorem dX7_rowsLeadingTo_99 : decode cX7_rowsLeadingTo 99 = .ok (.aload_n 0, 1) := by decide +kernel
theorem dX7_rowsLeadingTo_100 : decode cX7_rowsLeadingTo 100 = .ok (.iload 6, 2) := by decide +kernel
theorem dX7_rowsLeadingTo_102 : decode cX7_rowsLeadingTo 102 = .ok (.invokevirtual 340, 3) := by decide +kernel
theorem dX7_rowsLeadingTo_105 : decode cX7_rowsLeadingTo 105 = .ok (.iinc 6 1, 3) := by decide +kernel
theorem dX7_rowsLeadingTo_108 : decode cX7_rowsLeadingTo 108 = .ok (.goto (-78), 3) := by decide +kernel
theorem dX7_rowsLeadingTo_111 : decode cX7_rowsLeadingTo 111 = .ok (.iload 5, 2) := by decide +kernel
theorem dX7_rowsLeadingTo_113 : decode cX7_rowsLeadingTo 113 = .ok (.ireturn, 1) := by decide +kernel
theorem dX7_wouldMeetItsPlace_0 : decode cX7_wouldMeetItsPlace 0 = .ok (.iload_n 2, 1) := by decide +kernel
theorem dX7_wouldMeetItsPlace_1 : decode cX7_wouldMeetItsPlace 1 = .ok (.iconst 4, 1) := by decide +kernel
theorem dX7_wouldMeetItsPlace_2 : decode cX7_wouldMeetItsPlace 2 = .ok (.invokestatic 184, 3) := by decide +kernel
theorem dX7_wouldMeetItsPlace_5 : decode cX7_wouldMeetItsPlace 5 = .ok (.iconst 1, 1) := by decide +kernel
theorem dX7_wouldMeetItsPlace_6 : decode cX7_wouldMeetItsPlace 6 = .ok (.isub, 1) := by decide +kernel
theorem dX7_wouldMeetItsPlace_7 : decode cX7_wouldMeetItsPlace 7 = .ok (.istore_n 3, 1) := by decide +kernel
theorem dX7_wouldMeetItsPlace_8 : decode cX7_wouldMeetItsPlace 8 = .ok (.iload_n 3, 1) := by decide +kernel
theorem dX7_wouldMeetItsPlace_9 : decode cX7_wouldMeetItsPlace 9 = .ok (.ifCond .lt 40, 3) := by decide +kernel
theorem dX7_wouldMeetItsPlace_12 : decode cX7_wouldMeetItsPlace 12 = .ok (.aload_n 0, 1) := by decide +kernel
theorem dX7_wouldMeetItsPlace_13 : decode cX7_wouldMeetItsPlace 13 = .ok (.getfield 72, 3) := by decide +kernel
theorem dX7_wouldMeetItsPlace_16 : decode cX7_wouldMeetItsPlace 16 = .ok (.iload_n 3, 1) := by decide +kernel
theorem dX7_wouldMeetItsPlace_17 : decode cX7_wouldMeetItsPlace 17 = .ok (.iaload, 1) := by decide +kernel
theorem dX7_wouldMeetItsPlace_18 : decode cX7_wouldMeetItsPlace 18 = .ok (.iload_n 1, 1) := by decide +kernel
theorem dX7_wouldMeetItsPlace_19 : decode cX7_wouldMeetItsPlace 19 = .ok (.isub, 1) := by decide +kernel
theorem dX7_wouldMeetItsPlace_20 : decode cX7_wouldMeetItsPlace 20 = .ok (.invokestatic 306, 3) := by decide +kernel
theorem dX7_wouldMeetItsPlace_23 : decode cX7_wouldMeetItsPlace 23 = .ok (.iconst 2, 1) := by decide +kernel
theorem dX7_wouldMeetItsPlace_24 : decode cX7_wouldMeetItsPlace 24 = .ok (.if_icmp .ge 19, 3) := by decide +kernel
theorem dX7_wouldMeetItsPlace_27 : decode cX7_wouldMeetItsPlace 27 = .ok (.aload_n 0, 1) := by decide +kernel
theorem dX7_wouldMeetItsPlace_28 : decode cX7_wouldMeetItsPlace 28 = .ok (.getfield 72, 3) := by decide +kernel
theorem dX7_wouldMeetItsPlace_31 : decode cX7_wouldMeetItsPlace 31 = .ok (.iload_n 3, 1) := by decide +kernel
theorem dX7_wouldMeetItsPlace_32 : decode cX7_wouldMeetItsPlace 32 = .ok (.iaload, 1) := by decide +kernel
theorem dX7_wouldMeetItsPlace_33 : decode cX7_wouldMeetItsPlace 33 = .ok (.iload_n 1, 1) := by decide +kernel
theorem dX7_wouldMeetItsPlace_34 : decode cX7_wouldMeetItsPlace 34 = .ok (.if_icmp .ne 7, 3) := by decide +kernel
theorem dX7_wouldMeetItsPlace_37 : decode cX7_wouldMeetItsPlace 37 = .ok (.iconst 1, 1) := by decide +kernel
theorem dX7_wouldMeetItsPlace_38 : decode cX7_wouldMeetItsPlace 38 = .ok (.goto 4, 3) := by decide +kernel
theorem dX7_wouldMeetItsPlace_41 : decode cX7_wouldMeetItsPlace 41 = .ok (.iconst 0, 1) := by decide +kernel
theorem dX7_wouldMeetItsPlace_42 : decode cX7_wouldMeetItsPlace 42 = .ok (.ireturn, 1) := by decide +kernel
theorem dX7_wouldMeetItsPlace_43 : decode cX7_wouldMeetItsPlace 43 = .ok (.iinc 3 (-1), 3) := by decide +kernel
theorem dX7_wouldMeetItsPlace_46 : decode cX7_wouldMeetItsPlace 46 = .ok (.goto (-38), 3) := by decide +kernel
theorem dX7_wouldMeetItsPlace_49 : decode cX7_wouldMeetItsPlace 49 = .ok (.iconst 0, 1) := by decide +kernel
theorem dX7_wouldMeetItsPlace_50 : decode cX7_wouldMeetItsPlace 50 = .ok (.ireturn, 1) := by decide +kernel
theorem dX7_isTrialOrder_0 : decode cX7_isTrialOrder 0 = .ok (.iconst 0, 1) := by decide +kernel
theorem dX7_isTrialOrder_1 : decode cX7_isTrialOrder 1 = .ok (.istore_n 2, 1) := by decide +kernel
theorem dX7_isTrialOrder_2 : decode cX7_isTrialOrder 2 = .ok (.iload_n 2, 1) := by decide +kernel
theorem dX7_isTrialOrder_3 : decode cX7_isTrialOrder 3 = .ok (.aload_n 0, 1) := by decide +kernel
theorem dX7_isTrialOrder_4 : decode cX7_isTrialOrder 4 = .ok (.getfield 10, 3) := by decide +kernel
theorem dX7_isTrialOrder_7 : decode cX7_isTrialOrder 7 = .ok (.getfield 110, 3) := by decide +kernel
theorem dX7_isTrialOrder_10 : decode cX7_isTrialOrder 10 = .ok (.if_icmp .ge 26, 3) := by decide +kernel
theorem dX7_isTrialOrder_13 : decode cX7_isTrialOrder 13 = .ok (.aload_n 0, 1) := by decide +kernel
theorem dX7_isTrialOrder_14 : decode cX7_isTrialOrder 14 = .ok (.getfield 69, 3) := by decide +kernel
theorem dX7_isTrialOrder_17 : decode cX7_isTrialOrder 17 = .ok (.iload_n 2, 1) := by decide +kernel
theorem dX7_isTrialOrder_18 : decode cX7_isTrialOrder 18 = .ok (.iaload, 1) := by decide +kernel
theorem dX7_isTrialOrder_19 : decode cX7_isTrialOrder 19 = .ok (.aload_n 1, 1) := by decide +kernel
theorem dX7_isTrialOrder_20 : decode cX7_isTrialOrder 20 = .ok (.getfield 219, 3) := by decide +kernel
theorem dX7_isTrialOrder_23 : decode cX7_isTrialOrder 23 = .ok (.iload_n 2, 1) := by decide +kernel
theorem dX7_isTrialOrder_24 : decode cX7_isTrialOrder 24 = .ok (.iaload, 1) := by decide +kernel
theorem dX7_isTrialOrder_25 : decode cX7_isTrialOrder 25 = .ok (.if_icmp .eq 5, 3) := by decide +kernel
theorem dX7_isTrialOrder_28 : decode cX7_isTrialOrder 28 = .ok (.iconst 0, 1) := by decide +kernel
theorem dX7_isTrialOrder_29 : decode cX7_isTrialOrder 29 = .ok (.ireturn, 1) := by decide +kernel
theorem dX7_isTrialOrder_30 : decode cX7_isTrialOrder 30 = .ok (.iinc 2 1, 3) := by decide +kernel
theorem dX7_isTrialOrder_33 : decode cX7_isTrialOrder 33 = .ok (.goto (-31), 3) := by decide +kernel
theorem dX7_isTrialOrder_36 : decode cX7_isTrialOrder 36 = .ok (.iconst 1, 1) := by decide +kernel
theorem dX7_isTrialOrder_37 : decode cX7_isTrialOrder 37 = .ok (.ireturn, 1) := by decide +kernel
theorem dX7_changeTrial_0 : decode cX7_changeTrial 0 = .ok (.aload_n 0, 1) := by decide +kernel
theorem dX7_changeTrial_1 : decode cX7_changeTrial 1 = .ok (.getfield 69, 3) := by decide +kernel
theorem dX7_changeTrial_4 : decode cX7_changeTrial 4 = .ok (.iload_n 1, 1) := by decide +kernel
theorem dX7_changeTrial_5 : decode cX7_changeTrial 5 = .ok (.iaload, 1) := by decide +kernel
theorem dX7_changeTrial_6 : decode cX7_changeTrial 6 = .ok (.istore_n 2, 1) := by decide +kernel
theorem dX7_changeTrial_7 : decode cX7_changeTrial 7 = .ok (.aload_n 0, 1) := by decide +kernel
theorem dX7_changeTrial_8 : decode cX7_changeTrial 8 = .ok (.getfield 69, 3) := by decide +kernel
theorem dX7_changeTrial_11 : decode cX7_changeTrial 11 = .ok (.iload_n 1, 1) := by decide +kernel
theorem dX7_changeTrial_12 : decode cX7_changeTrial 12 = .ok (.aload_n 0, 1) := by decide +kernel
theorem dX7_changeTrial_13 : decode cX7_changeTrial 13 = .ok (.getfield 69, 3) := by decide +kernel
theorem dX7_changeTrial_16 : decode cX7_changeTrial 16 = .ok (.iload_n 1, 1) := by decide +kernel
theorem dX7_changeTrial_17 : decode cX7_changeTrial 17 = .ok (.iconst 1, 1) := by decide +kernel
theorem dX7_changeTrial_18 : decode cX7_changeTrial 18 = .ok (.iadd, 1) := by decide +kernel
theorem dX7_changeTrial_19 : decode cX7_changeTrial 19 = .ok (.iaload, 1) := by decide +kernel
theorem dX7_changeTrial_20 : decode cX7_changeTrial 20 = .ok (.iastore, 1) := by decide +kernel
theorem dX7_changeTrial_21 : decode cX7_changeTrial 21 = .ok (.aload_n 0, 1) := by decide +kernel
theorem dX7_changeTrial_22 : decode cX7_changeTrial 22 = .ok (.getfield 69, 3) := by decide +kernel
theorem dX7_changeTrial_25 : decode cX7_changeTrial 25 = .ok (.iload_n 1, 1) := by decide +kernel
theorem dX7_changeTrial_26 : decode cX7_changeTrial 26 = .ok (.iconst 1, 1) := by decide +kernel
theorem dX7_changeTrial_27 : decode cX7_changeTrial 27 = .ok (.iadd, 1) := by decide +kernel
theorem dX7_changeTrial_28 : decode cX7_changeTrial 28 = .ok (.iload_n 2, 1) := by decide +kernel
theorem dX7_changeTrial_29 : decode cX7_changeTrial 29 = .ok (.iastore, 1) := by decide +kernel
theorem dX7_changeTrial_30 : decode cX7_changeTrial 30 = .ok (.return_, 1) := by decide +kernel
theorem dX7_dogsOnRight_0 : decode cX7_dogsOnRight 0 = .ok (.iconst 0, 1) := by decide +kernel
theorem dX7_dogsOnRight_1 : decode cX7_dogsOnRight 1 = .ok (.istore_n 2, 1) := by decide +kernel
theorem dX7_dogsOnRight_2 : decode cX7_dogsOnRight 2 = .ok (.iconst 0, 1) := by decide +kernel
theorem dX7_dogsOnRight_3 : decode cX7_dogsOnRight 3 = .ok (.istore_n 3, 1) := by decide +kernel
theorem dX7_dogsOnRight_4 : decode cX7_dogsOnRight 4 = .ok (.iload_n 3, 1) := by decide +kernel
theorem dX7_dogsOnRight_5 : decode cX7_dogsOnRight 5 = .ok (.aload_n 0, 1) := by decide +kernel
theorem dX7_dogsOnRight_6 : decode cX7_dogsOnRight 6 = .ok (.getfield 10, 3) := by decide +kernel
theorem dX7_dogsOnRight_9 : decode cX7_dogsOnRight 9 = .ok (.getfield 110, 3) := by decide +kernel
theorem dX7_dogsOnRight_12 : decode cX7_dogsOnRight 12 = .ok (.if_icmp .ge 45, 3) := by decide +kernel
theorem dX7_dogsOnRight_15 : decode cX7_dogsOnRight 15 = .ok (.aload_n 0, 1) := by decide +kernel
theorem dX7_dogsOnRight_16 : decode cX7_dogsOnRight 16 = .ok (.getfield 10, 3) := by decide +kernel
theorem dX7_dogsOnRight_19 : decode cX7_dogsOnRight 19 = .ok (.aload_n 0, 1) := by decide +kernel
theorem dX7_dogsOnRight_20 : decode cX7_dogsOnRight 20 = .ok (.getfield 10, 3) := by decide +kernel
theorem dX7_dogsOnRight_23 : decode cX7_dogsOnRight 23 = .ok (.getfield 152, 3) := by decide +kernel
theorem dX7_dogsOnRight_26 : decode cX7_dogsOnRight 26 = .ok (.iload_n 3, 1) := by decide +kernel
theorem dX7_dogsOnRight_27 : decode cX7_dogsOnRight 27 = .ok (.iaload, 1) := by decide +kernel
theorem dX7_dogsOnRight_28 : decode cX7_dogsOnRight 28 = .ok (.iload_n 3, 1) := by decide +kernel
theorem dX7_dogsOnRight_29 : decode cX7_dogsOnRight 29 = .ok (.iload_n 1, 1) := by decide +kernel
theorem dX7_dogsOnRight_30 : decode cX7_dogsOnRight 30 = .ok (.invokevirtual 343, 3) := by decide +kernel
theorem dX7_dogsOnRight_33 : decode cX7_dogsOnRight 33 = .ok (.ifCond .eq 18, 3) := by decide +kernel
theorem dX7_dogsOnRight_36 : decode cX7_dogsOnRight 36 = .ok (.iload_n 2, 1) := by decide +kernel
theorem dX7_dogsOnRight_37 : decode cX7_dogsOnRight 37 = .ok (.aload_n 0, 1) := by decide +kernel
theorem dX7_dogsOnRight_38 : decode cX7_dogsOnRight 38 = .ok (.getfield 10, 3) := by decide +kernel
theorem dX7_dogsOnRight_41 : decode cX7_dogsOnRight 41 = .ok (.getfield 152, 3) := by decide +kernel
theorem dX7_dogsOnRight_44 : decode cX7_dogsOnRight 44 = .ok (.iload_n 3, 1) := by decide +kernel
theorem dX7_dogsOnRight_45 : decode cX7_dogsOnRight 45 = .ok (.iaload, 1) := by decide +kernel
theorem dX7_dogsOnRight_46 : decode cX7_dogsOnRight 46 = .ok (.invokestatic 178, 3) := by decide +kernel
theorem dX7_dogsOnRight_49 : decode cX7_dogsOnRight 49 = .ok (.ior, 1) := by decide +kernel
theorem dX7_dogsOnRight_50 : decode cX7_dogsOnRight 50 = .ok (.istore_n 2, 1) := by decide +kernel
theorem dX7_dogsOnRight_51 : decode cX7_dogsOnRight 51 = .ok (.iinc 3 1, 3) := by decide +kernel
theorem dX7_dogsOnRight_54 : decode cX7_dogsOnRight 54 = .ok (.goto (-50), 3) := by decide +kernel
theorem dX7_dogsOnRight_57 : decode cX7_dogsOnRight 57 = .ok (.iload_n 2, 1) := by decide +kernel
theorem dX7_dogsOnRight_58 : decode cX7_dogsOnRight 58 = .ok (.ireturn, 1) := by decide +kernel
theorem dX7_woundAt_0 : decode cX7_woundAt 0 = .ok (.iconst 0, 1) := by decide +kernel
theorem dX7_woundAt_1 : decode cX7_woundAt 1 = .ok (.istore_n 2, 1) := by decide +kernel
theorem dX7_woundAt_2 : decode cX7_woundAt 2 = .ok (.iconst 0, 1) := by decide +kernel
theorem dX7_woundAt_3 : decode cX7_woundAt 3 = .ok (.istore_n 3, 1) := by decide +kernel
theorem dX7_woundAt_4 : decode cX7_woundAt 4 = .ok (.iconst 0, 1) := by decide +kernel
theorem dX7_woundAt_5 : decode cX7_woundAt 5 = .ok (.istore 4, 2) := by decide +kernel
theorem dX7_woundAt_7 : decode cX7_woundAt 7 = .ok (.iload 4, 2) := by decide +kernel
theorem dX7_woundAt_9 : decode cX7_woundAt 9 = .ok (.aload_n 0, 1) := by decide +kernel
theorem dX7_woundAt_10 : decode cX7_woundAt 10 = .ok (.getfield 10, 3) := by decide +kernel
theorem dX7_woundAt_13 : decode cX7_woundAt 13 = .ok (.getfield 110, 3) := by decide +kernel
theorem dX7_woundAt_16 : decode cX7_woundAt 16 = .ok (.if_icmp .ge 42, 3) := by decide +kernel
theorem dX7_woundAt_19 : decode cX7_woundAt 19 = .ok (.aload_n 0, 1) := by decide +kernel
theorem dX7_woundAt_20 : decode cX7_woundAt 20 = .ok (.getfield 10, 3) := by decide +kernel
theorem dX7_woundAt_23 : decode cX7_woundAt 23 = .ok (.aload_n 0, 1) := by decide +kernel
theorem dX7_woundAt_24 : decode cX7_woundAt 24 = .ok (.getfield 10, 3) := by decide +kernel
theorem dX7_woundAt_27 : decode cX7_woundAt 27 = .ok (.getfield 152, 3) := by decide +kernel
theorem dX7_woundAt_30 : decode cX7_woundAt 30 = .ok (.iload 4, 2) := by decide +kernel
theorem dX7_woundAt_32 : decode cX7_woundAt 32 = .ok (.iaload, 1) := by decide +kernel
theorem dX7_woundAt_33 : decode cX7_woundAt 33 = .ok (.iload 4, 2) := by decide +kernel
theorem dX7_woundAt_35 : decode cX7_woundAt 35 = .ok (.iload_n 1, 1) := by decide +kernel
theorem dX7_woundAt_36 : decode cX7_woundAt 36 = .ok (.invokevirtual 343, 3) := by decide +kernel
theorem dX7_woundAt_39 : decode cX7_woundAt 39 = .ok (.ifCond .eq 9, 3) := by decide +kernel
theorem dX7_woundAt_42 : decode cX7_woundAt 42 = .ok (.iinc 3 1, 3) := by decide +kernel
theorem dX7_woundAt_45 : decode cX7_woundAt 45 = .ok (.goto 7, 3) := by decide +kernel
theorem dX7_woundAt_48 : decode cX7_woundAt 48 = .ok (.iload_n 2, 1) := by decide +kernel
theorem dX7_woundAt_49 : decode cX7_woundAt 49 = .ok (.iload_n 3, 1) := by decide +kernel
theorem dX7_woundAt_50 : decode cX7_woundAt 50 = .ok (.iadd, 1) := by decide +kernel
theorem dX7_woundAt_51 : decode cX7_woundAt 51 = .ok (.istore_n 2, 1) := by decide +kernel
theorem dX7_woundAt_52 : decode cX7_woundAt 52 = .ok (.iinc 4 1, 3) := by decide +kernel
theorem dX7_woundAt_55 : decode cX7_woundAt 55 = .ok (.goto (-48), 3) := by decide +kernel
theorem dX7_woundAt_58 : decode cX7_woundAt 58 = .ok (.iload_n 2, 1) := by decide +kernel
theorem dX7_woundAt_59 : decode cX7_woundAt 59 = .ok (.ireturn, 1) := by decide +kernel
theorem dX7_pullsTogether_0 : decode cX7_pullsTogether 0 = .ok (.iconst 0, 1) := by decide +kernel
theorem dX7_pullsTogether_1 : decode cX7_pullsTogether 1 = .ok (.istore_n 2, 1) := by decide +kernel
theorem dX7_pullsTogether_2 : decode cX7_pullsTogether 2 = .ok (.iconst 0, 1) := by decide +kernel
theorem dX7_pullsTogether_3 : decode cX7_pullsTogether 3 = .ok (.istore_n 3, 1) := by decide +kernel
theorem dX7_pullsTogether_4 : decode cX7_pullsTogether 4 = .ok (.iload_n 3, 1) := by decide +kernel
theorem dX7_pullsTogether_5 : decode cX7_pullsTogether 5 = .ok (.aload_n 0, 1) := by decide +kernel
theorem dX7_pullsTogether_6 : decode cX7_pullsTogether 6 = .ok (.getfield 10, 3) := by decide +kernel
theorem dX7_pullsTogether_9 : decode cX7_pullsTogether 9 = .ok (.getfield 110, 3) := by decide +kernel
theorem dX7_pullsTogether_12 : decode cX7_pullsTogether 12 = .ok (.if_icmp .ge 57, 3) := by decide +kernel
theorem dX7_pullsTogether_15 : decode cX7_pullsTogether 15 = .ok (.aload_n 0, 1) := by decide +kernel
theorem dX7_pullsTogether_16 : decode cX7_pullsTogether 16 = .ok (.getfield 10, 3) := by decide +kernel
theorem dX7_pullsTogether_19 : decode cX7_pullsTogether 19 = .ok (.getfield 152, 3) := by decide +kernel
theorem dX7_pullsTogether_22 : decode cX7_pullsTogether 22 = .ok (.iload_n 3, 1) := by decide +kernel
theorem dX7_pullsTogether_23 : decode cX7_pullsTogether 23 = .ok (.iaload, 1) := by decide +kernel
theorem dX7_pullsTogether_24 : decode cX7_pullsTogether 24 = .ok (.istore 4, 2) := by decide +kernel
theorem dX7_pullsTogether_26 : decode cX7_pullsTogether 26 = .ok (.aload_n 0, 1) := by decide +kernel
theorem dX7_pullsTogether_27 : decode cX7_pullsTogether 27 = .ok (.getfield 10, 3) := by decide +kernel
theorem dX7_pullsTogether_30 : decode cX7_pullsTogether 30 = .ok (.iload 4, 2) := by decide +kernel
theorem dX7_pullsTogether_32 : decode cX7_pullsTogether 32 = .ok (.iload_n 3, 1) := by decide +kernel
theorem dX7_pullsTogether_33 : decode cX7_pullsTogether 33 = .ok (.invokevirtual 139, 3) := by decide +kernel
theorem dX7_pullsTogether_36 : decode cX7_pullsTogether 36 = .ok (.istore 5, 2) := by decide +kernel
theorem dX7_pullsTogether_38 : decode cX7_pullsTogether 38 = .ok (.iload_n 2, 1) := by decide +kernel
theorem dX7_pullsTogether_39 : decode cX7_pullsTogether 39 = .ok (.aload_n 0, 1) := by decide +kernel
theorem dX7_pullsTogether_40 : decode cX7_pullsTogether 40 = .ok (.getfield 10, 3) := by decide +kernel
theorem dX7_pullsTogether_43 : decode cX7_pullsTogether 43 = .ok (.iload 4, 2) := by decide +kernel
theorem dX7_pullsTogether_45 : decode cX7_pullsTogether 45 = .ok (.iload_n 3, 1) := by decide +kernel
theorem dX7_pullsTogether_46 : decode cX7_pullsTogether 46 = .ok (.iload_n 1, 1) := by decide +kernel
theorem dX7_pullsTogether_47 : decode cX7_pullsTogether 47 = .ok (.invokevirtual 343, 3) := by decide +kernel
theorem dX7_pullsTogether_50 : decode cX7_pullsTogether 50 = .ok (.ifCond .eq 8, 3) := by decide +kernel
theorem dX7_pullsTogether_53 : decode cX7_pullsTogether 53 = .ok (.iload 5, 2) := by decide +kernel
theorem dX7_pullsTogether_55 : decode cX7_pullsTogether 55 = .ok (.goto 6, 3) := by decide +kernel
theorem dX7_pullsTogether_58 : decode cX7_pullsTogether 58 = .ok (.iload 5, 2) := by decide +kernel
theorem dX7_pullsTogether_60 : decode cX7_pullsTogether 60 = .ok (.ineg, 1) := by decide +kernel
theorem dX7_pullsTogether_61 : decode cX7_pullsTogether 61 = .ok (.iadd, 1) := by decide +kernel
theorem dX7_pullsTogether_62 : decode cX7_pullsTogether 62 = .ok (.istore_n 2, 1) := by decide +kernel
theorem dX7_pullsTogether_63 : decode cX7_pullsTogether 63 = .ok (.iinc 3 1, 3) := by decide +kernel
theorem dX7_pullsTogether_66 : decode cX7_pullsTogether 66 = .ok (.goto (-62), 3) := by decide +kernel
theorem dX7_pullsTogether_69 : decode cX7_pullsTogether 69 = .ok (.iload_n 2, 1) := by decide +kernel
theorem dX7_pullsTogether_70 : decode cX7_pullsTogether 70 = .ok (.ireturn, 1) := by decide +kernel
end
section
theorem dX8_in_0 : decode cX8_in 0 = .ok (.lload_n 0, 1) := by decide +kernel
theorem dX8_in_1 : decode cX8_in 1 = .ok (.lload_n 2, 1) := by decide +kernel
theorem dX8_in_2 : decode cX8_in 2 = .ok (.lcmp, 1) := by decide +kernel
theorem dX8_in_3 : decode cX8_in 3 = .ok (.ifCond .lt 14, 3) := by decide +kernel
theorem dX8_in_6 : decode cX8_in 6 = .ok (.lload_n 0, 1) := by decide +kernel
theorem dX8_in_7 : decode cX8_in 7 = .ok (.lload 4, 2) := by decide +kernel
theorem dX8_in_9 : decode cX8_in 9 = .ok (.lcmp, 1) := by decide +kernel
theorem dX8_in_10 : decode cX8_in 10 = .ok (.ifCond .gt 7, 3) := by decide +kernel
theorem dX8_in_13 : decode cX8_in 13 = .ok (.iconst 1, 1) := by decide +kernel
theorem dX8_in_14 : decode cX8_in 14 = .ok (.goto 4, 3) := by decide +kernel
theorem dX8_in_17 : decode cX8_in 17 = .ok (.iconst 0, 1) := by decide +kernel
theorem dX8_in_18 : decode cX8_in 18 = .ok (.ireturn, 1) := by decide +kernel
theorem dX8_within_0 : decode cX8_within 0 = .ok (.iload_n 0, 1) := by decide +kernel
theorem dX8_within_1 : decode cX8_within 1 = .ok (.iload_n 1, 1) := by decide +kernel
theorem dX8_within_2 : decode cX8_within 2 = .ok (.if_icmp .ge 7, 3) := by decide +kernel
theorem dX8_within_5 : decode cX8_within 5 = .ok (.iload_n 1, 1) := by decide +kernel
theorem dX8_within_6 : decode cX8_within 6 = .ok (.goto 13, 3) := by decide +kernel
theorem dX8_within_9 : decode cX8_within 9 = .ok (.iload_n 0, 1) := by decide +kernel
theorem dX8_within_10 : decode cX8_within 10 = .ok (.iload_n 2, 1) := by decide +kernel
theorem dX8_within_11 : decode cX8_within 11 = .ok (.if_icmp .le 7, 3) := by decide +kernel
theorem dX8_within_14 : decode cX8_within 14 = .ok (.iload_n 2, 1) := by decide +kernel
theorem dX8_within_15 : decode cX8_within 15 = .ok (.goto 4, 3) := by decide +kernel
theorem dX8_within_18 : decode cX8_within 18 = .ok (.iload_n 0, 1) := by decide +kernel
theorem dX8_within_19 : decode cX8_within 19 = .ok (.ireturn, 1) := by decide +kernel
theorem dX8_off_0 : decode cX8_off 0 = .ok (.iload_n 0, 1) := by decide +kernel
theorem dX8_off_1 : decode cX8_off 1 = .ok (.iload_n 1, 1) := by decide +kernel
theorem dX8_off_2 : decode cX8_off 2 = .ok (.if_icmp .ge 9, 3) := by decide +kernel
theorem dX8_off_5 : decode cX8_off 5 = .ok (.iload_n 1, 1) := by decide +kernel
theorem dX8_off_6 : decode cX8_off 6 = .ok (.iload_n 0, 1) := by decide +kernel
theorem dX8_off_7 : decode cX8_off 7 = .ok (.isub, 1) := by decide +kernel
theorem dX8_off_8 : decode cX8_off 8 = .ok (.goto 6, 3) := by decide +kernel
theorem dX8_off_11 : decode cX8_off 11 = .ok (.iload_n 0, 1) := by decide +kernel
theorem dX8_off_12 : decode cX8_off 12 = .ok (.iload_n 1, 1) := by decide +kernel
theorem dX8_off_13 : decode cX8_off 13 = .ok (.isub, 1) := by decide +kernel
theorem dX8_off_14 : decode cX8_off 14 = .ok (.ireturn, 1) := by decide +kernel
theorem dX8_bitsOf_0 : decode cX8_bitsOf 0 = .ok (.iconst 0, 1) := by decide +kernel
theorem dX8_bitsOf_1 : decode cX8_bitsOf 1 = .ok (.istore_n 1, 1) := by decide +kernel
theorem dX8_bitsOf_2 : decode cX8_bitsOf 2 = .ok (.iload_n 0, 1) := by decide +kernel
theorem dX8_bitsOf_3 : decode cX8_bitsOf 3 = .ok (.istore_n 2, 1) := by decide +kernel
theorem dX8_bitsOf_4 : decode cX8_bitsOf 4 = .ok (.iload_n 2, 1) := by decide +kernel
theorem dX8_bitsOf_5 : decode cX8_bitsOf 5 = .ok (.ifCond .eq 15, 3) := by decide +kernel
theorem dX8_bitsOf_8 : decode cX8_bitsOf 8 = .ok (.iinc 1 1, 3) := by decide +kernel
theorem dX8_bitsOf_11 : decode cX8_bitsOf 11 = .ok (.iload_n 2, 1) := by decide +kernel
theorem dX8_bitsOf_12 : decode cX8_bitsOf 12 = .ok (.iload_n 2, 1) := by decide +kernel
theorem dX8_bitsOf_13 : decode cX8_bitsOf 13 = .ok (.iconst 1, 1) := by decide +kernel
theorem dX8_bitsOf_14 : decode cX8_bitsOf 14 = .ok (.isub, 1) := by decide +kernel
theorem dX8_bitsOf_15 : decode cX8_bitsOf 15 = .ok (.iand, 1) := by decide +kernel
theorem dX8_bitsOf_16 : decode cX8_bitsOf 16 = .ok (.istore_n 2, 1) := by decide +kernel
theorem dX8_bitsOf_17 : decode cX8_bitsOf 17 = .ok (.goto (-13), 3) := by decide +kernel
theorem dX8_bitsOf_20 : decode cX8_bitsOf 20 = .ok (.iload_n 1, 1) := by decide +kernel
theorem dX8_bitsOf_21 : decode cX8_bitsOf 21 = .ok (.ireturn, 1) := by decide +kernel
theorem dX8_init_0 : decode cX8_init 0 = .ok (.aload_n 0, 1) := by decide +kernel
theorem dX8_init_1 : decode cX8_init 1 = .ok (.invokespecial 7, 3) := by decide +kernel
theorem dX8_init_4 : decode cX8_init 4 = .ok (.aload_n 0, 1) := by decide +kernel
theorem dX8_init_5 : decode cX8_init 5 = .ok (.sipush 960, 3) := by decide +kernel
theorem dX8_init_8 : decode cX8_init 8 = .ok (.newarray .int, 2) := by decide +kernel
theorem dX8_init_10 : decode cX8_init 10 = .ok (.putfield 13, 3) := by decide +kernel
theorem dX8_init_13 : decode cX8_init 13 = .ok (.aload_n 0, 1) := by decide +kernel
theorem dX8_init_14 : decode cX8_init 14 = .ok (.bipush 6, 2) := by decide +kernel
theorem dX8_init_16 : decode cX8_init 16 = .ok (.newarray .int, 2) := by decide +kernel
theorem dX8_init_18 : decode cX8_init 18 = .ok (.putfield 17, 3) := by decide +kernel
theorem dX8_init_21 : decode cX8_init 21 = .ok (.aload_n 0, 1) := by decide +kernel
theorem dX8_init_22 : decode cX8_init 22 = .ok (.sipush 160, 3) := by decide +kernel
theorem dX8_init_25 : decode cX8_init 25 = .ok (.newarray .int, 2) := by decide +kernel
theorem dX8_init_27 : decode cX8_init 27 = .ok (.putfield 20, 3) := by decide +kernel
theorem dX8_init_30 : decode cX8_init 30 = .ok (.aload_n 0, 1) := by decide +kernel
theorem dX8_init_31 : decode cX8_init 31 = .ok (.bipush 6, 2) := by decide +kernel
theorem dX8_init_33 : decode cX8_init 33 = .ok (.newarray .int, 2) := by decide +kernel
theorem dX8_init_35 : decode cX8_init 35 = .ok (.putfield 23, 3) := by decide +kernel
theorem dX8_init_38 : decode cX8_init 38 = .ok (.aload_n 0, 1) := by decide +kernel
theorem dX8_init_39 : decode cX8_init 39 = .ok (.bipush 6, 2) := by decide +kernel
theorem dX8_init_41 : decode cX8_init 41 = .ok (.newarray .int, 2) := by decide +kernel
theorem dX8_init_43 : decode cX8_init 43 = .ok (.putfield 26, 3) := by decide +kernel
theorem dX8_init_46 : decode cX8_init 46 = .ok (.aload_n 0, 1) := by decide +kernel
theorem dX8_init_47 : decode cX8_init 47 = .ok (.bipush 6, 2) := by decide +kernel
theorem dX8_init_49 : decode cX8_init 49 = .ok (.newarray .int, 2) := by decide +kernel
theorem dX8_init_51 : decode cX8_init 51 = .ok (.putfield 29, 3) := by decide +kernel
theorem dX8_init_54 : decode cX8_init 54 = .ok (.aload_n 0, 1) := by decide +kernel
theorem dX8_init_55 : decode cX8_init 55 = .ok (.bipush 6, 2) := by decide +kernel
theorem dX8_init_57 : decode cX8_init 57 = .ok (.newarray .int, 2) := by decide +kernel
theorem dX8_init_59 : decode cX8_init 59 = .ok (.putfield 32, 3) := by decide +kernel
theorem dX8_init_62 : decode cX8_init 62 = .ok (.aload_n 0, 1) := by decide +kernel
theorem dX8_init_63 : decode cX8_init 63 = .ok (.bipush 6, 2) := by decide +kernel
theorem dX8_init_65 : decode cX8_init 65 = .ok (.newarray .int, 2) := by decide +kernel
theorem dX8_init_67 : decode cX8_init 67 = .ok (.putfield 35, 3) := by decide +kernel
theorem dX8_init_70 : decode cX8_init 70 = .ok (.aload_n 0, 1) := by decide +kernel
theorem dX8_init_71 : decode cX8_init 71 = .ok (.bipush 40, 2) := by decide +kernel
theorem dX8_init_73 : decode cX8_init 73 = .ok (.newarray .int, 2) := by decide +kernel
theorem dX8_init_75 : decode cX8_init 75 = .ok (.putfield 38, 3) := by decide +kernel
theorem dX8_init_78 : decode cX8_init 78 = .ok (.aload_n 0, 1) := by decide +kernel
theorem dX8_init_79 : decode cX8_init 79 = .ok (.bipush 40, 2) := by decide +kernel
theorem dX8_init_81 : decode cX8_init 81 = .ok (.newarray .int, 2) := by decide +kernel
theorem dX8_init_83 : decode cX8_init 83 = .ok (.putfield 41, 3) := by decide +kernel
theorem dX8_init_86 : decode cX8_init 86 = .ok (.aload_n 0, 1) := by decide +kernel
theorem dX8_init_87 : decode cX8_init 87 = .ok (.bipush 40, 2) := by decide +kernel
theorem dX8_init_89 : decode cX8_init 89 = .ok (.newarray .int, 2) := by decide +kernel
theorem dX8_init_91 : decode cX8_init 91 = .ok (.putfield 44, 3) := by decide +kernel
theorem dX8_init_94 : decode cX8_init 94 = .ok (.aload_n 0, 1) := by decide +kernel
theorem dX8_init_95 : decode cX8_init 95 = .ok (.bipush 40, 2) := by decide +kernel
theorem dX8_init_97 : decode cX8_init 97 = .ok (.newarray .int, 2) := by decide +kernel
theorem dX8_init_99 : decode cX8_init 99 = .ok (.putfield 47, 3) := by decide +kernel
theorem dX8_init_102 : decode cX8_init 102 = .ok (.aload_n 0, 1) := by decide +kernel
theorem dX8_init_103 : decode cX8_init 103 = .ok (.bipush 40, 2) := by decide +kernel
theorem dX8_init_105 : decode cX8_init 105 = .ok (.newarray .int, 2) := by decide +kernel
theorem dX8_init_107 : decode cX8_init 107 = .ok (.putfield 50, 3) := by decide +kernel
theorem dX8_init_110 : decode cX8_init 110 = .ok (.aload_n 0, 1) := by decide +kernel
theorem dX8_init_111 : decode cX8_init 111 = .ok (.bipush 6, 2) := by decide +kernel
theorem dX8_init_113 : decode cX8_init 113 = .ok (.newarray .int, 2) := by decide +kernel
theorem dX8_init_115 : decode cX8_init 115 = .ok (.putfield 53, 3) := by decide +kernel
theorem dX8_init_118 : decode cX8_init 118 = .ok (.aload_n 0, 1) := by decide +kernel
theorem dX8_init_119 : decode cX8_init 119 = .ok (.bipush 6, 2) := by decide +kernel
theorem dX8_init_121 : decode cX8_init 121 = .ok (.newarray .int, 2) := by decide +kernel
theorem dX8_init_123 : decode cX8_init 123 = .ok (.putfield 56, 3) := by decide +kernel
theorem dX8_init_126 : decode cX8_init 126 = .ok (.aload_n 0, 1) := by decide +kernel
theorem dX8_init_127 : decode cX8_init 127 = .ok (.iconst 4, 1) := by decide +kernel
theorem dX8_init_128 : decode cX8_init 128 = .ok (.newarray .int, 2) := by decide +kernel
theorem dX8_init_130 : decode cX8_init 130 = .ok (.putfield 59, 3) := by decide +kernel
theorem dX8_init_133 : decode cX8_init 133 = .ok (.aload_n 0, 1) := by decide +kernel
theorem dX8_init_134 : decode cX8_init 134 = .ok (.iconst 4, 1) := by decide +kernel
theorem dX8_init_135 : decode cX8_init 135 = .ok (.newarray .int, 2) := by decide +kernel
theorem dX8_init_137 : decode cX8_init 137 = .ok (.putfield 62, 3) := by decide +kernel
theorem dX8_init_140 : decode cX8_init 140 = .ok (.aload_n 0, 1) := by decide +kernel
theorem dX8_init_141 : decode cX8_init 141 = .ok (.bipush 6, 2) := by decide +kernel
theorem dX8_init_143 : decode cX8_init 143 = .ok (.newarray .int, 2) := by decide +kernel
theorem dX8_init_145 : decode cX8_init 145 = .ok (.putfield 65, 3) := by decide +kernel
theorem dX8_init_148 : decode cX8_init 148 = .ok (.aload_n 0, 1) := by decide +kernel
theorem dX8_init_149 : decode cX8_init 149 = .ok (.bipush 6, 2) := by decide +kernel
theorem dX8_init_151 : decode cX8_init 151 = .ok (.newarray .int, 2) := by decide +kernel
theorem dX8_init_153 : decode cX8_init 153 = .ok (.putfield 68, 3) := by decide +kernel
theorem dX8_init_156 : decode cX8_init 156 = .ok (.aload_n 0, 1) := by decide +kernel
theorem dX8_init_157 : decode cX8_init 157 = .ok (.bipush 36, 2) := by decide +kernel
theorem dX8_init_159 : decode cX8_init 159 = .ok (.newarray .int, 2) := by decide +kernel
theorem dX8_init_161 : decode cX8_init 161 = .ok (.putfield 71, 3) := by decide +kernel
theorem dX8_init_164 : decode cX8_init 164 = .ok (.aload_n 0, 1) := by decide +kernel
theorem dX8_init_165 : decode cX8_init 165 = .ok (.bipush 24, 2) := by decide +kernel
theorem dX8_init_167 : decode cX8_init 167 = .ok (.newarray .int, 2) := by decide +kernel
theorem dX8_init_169 : decode cX8_init 169 = .ok (.putfield 74, 3) := by decide +kernel
theorem dX8_init_172 : decode cX8_init 172 = .ok (.aload_n 0, 1) := by decide +kernel
theorem dX8_init_173 : decode cX8_init 173 = .ok (.bipush 80, 2) := by decide +kernel
theorem dX8_init_175 : decode cX8_init 175 = .ok (.newarray .int, 2) := by decide +kernel
theorem dX8_init_177 : decode cX8_init 177 = .ok (.putfield 77, 3) := by decide +kernel
theorem dX8_init_180 : decode cX8_init 180 = .ok (.aload_n 0, 1) := by decide +kernel
theorem dX8_init_181 : decode cX8_init 181 = .ok (.iconst (-1), 1) := by decide +kernel
theorem dX8_init_182 : decode cX8_init 182 = .ok (.putfield 80, 3) := by decide +kernel
theorem dX8_init_185 : decode cX8_init 185 = .ok (.aload_n 0, 1) := by decide +kernel
theorem dX8_init_186 : decode cX8_init 186 = .ok (.iconst 4, 1) := by decide +kernel
theorem dX8_init_187 : decode cX8_init 187 = .ok (.newarray .boolean, 2) := by decide +kernel
theorem dX8_init_189 : decode cX8_init 189 = .ok (.putfield 83, 3) := by decide +kernel
theorem dX8_init_192 : decode cX8_init 192 = .ok (.aload_n 0, 1) := by decide +kernel
theorem dX8_init_193 : decode cX8_init 193 = .ok (.iconst 4, 1) := by decide +kernel
theorem dX8_init_194 : decode cX8_init 194 = .ok (.newarray .int, 2) := by decide +kernel
theorem dX8_init_196 : decode cX8_init 196 = .ok (.putfield 87, 3) := by decide +kernel
theorem dX8_init_199 : decode cX8_init 199 = .ok (.aload_n 0, 1) := by decide +kernel
theorem dX8_init_200 : decode cX8_init 200 = .ok (.iconst 4, 1) := by decide +kernel
theorem dX8_init_201 : decode cX8_init 201 = .ok (.newarray .int, 2) := by decide +kernel
theorem dX8_init_203 : decode cX8_init 203 = .ok (.putfield 90, 3) := by decide +kernel
theorem dX8_init_206 : decode cX8_init 206 = .ok (.aload_n 0, 1) := by decide +kernel
theorem dX8_init_207 : decode cX8_init 207 = .ok (.sipush 160, 3) := by decide +kernel
theorem dX8_init_210 : decode cX8_init 210 = .ok (.newarray .int, 2) := by decide +kernel
theorem dX8_init_212 : decode cX8_init 212 = .ok (.putfield 93, 3) := by decide +kernel
theorem dX8_init_215 : decode cX8_init 215 = .ok (.aload_n 0, 1) := by decide +kernel
theorem dX8_init_216 : decode cX8_init 216 = .ok (.iconst 0, 1) := by decide +kernel
theorem dX8_init_217 : decode cX8_init 217 = .ok (.bipush 111, 2) := by decide +kernel
theorem dX8_init_219 : decode cX8_init 219 = .ok (.bipush 100, 2) := by decide +kernel
theorem dX8_init_221 : decode cX8_init 221 = .ok (.bipush 100, 2) := by decide +kernel
theorem dX8_init_223 : decode cX8_init 223 = .ok (.bipush 115, 2) := by decide +kernel
theorem dX8_init_225 : decode cX8_init 225 = .ok (.bipush 32, 2) := by decide +kernel
theorem dX8_init_227 : decode cX8_init 227 = .ok (.bipush 112, 2) := by decide +kernel
theorem dX8_init_229 : decode cX8_init 229 = .ok (.bipush 97, 2) := by decide +kernel
theorem dX8_init_231 : decode cX8_init 231 = .ok (.bipush 99, 2) := by decide +kernel
theorem dX8_init_233 : decode cX8_init 233 = .ok (.invokevirtual 96, 3) := by decide +kernel
theorem dX8_init_236 : decode cX8_init 236 = .ok (.aload_n 0, 1) := by decide +kernel
theorem dX8_init_237 : decode cX8_init 237 = .ok (.bipush 8, 2) := by decide +kernel
theorem dX8_init_239 : decode cX8_init 239 = .ok (.bipush 101, 2) := by decide +kernel
theorem dX8_init_241 : decode cX8_init 241 = .ok (.bipush 32, 2) := by decide +kernel
theorem dX8_init_243 : decode cX8_init 243 = .ok (.bipush 59, 2) := by decide +kernel
theorem dX8_init_245 : decode cX8_init 245 = .ok (.bipush 32, 2) := by decide +kernel
theorem dX8_init_247 : decode cX8_init 247 = .ok (.bipush 119, 2) := by decide +kernel
theorem dX8_init_249 : decode cX8_init 249 = .ok (.bipush 111, 2) := by decide +kernel
theorem dX8_init_251 : decode cX8_init 251 = .ok (.bipush 114, 2) := by decide +kernel
theorem dX8_init_253 : decode cX8_init 253 = .ok (.bipush 116, 2) := by decide +kernel
theorem dX8_init_255 : decode cX8_init 255 = .ok (.invokevirtual 96, 3) := by decide +kernel
theorem dX8_init_258 : decode cX8_init 258 = .ok (.aload_n 0, 1) := by decide +kernel
theorem dX8_init_259 : decode cX8_init 259 = .ok (.bipush 16, 2) := by decide +kernel
theorem dX8_init_261 : decode cX8_init 261 = .ok (.bipush 104, 2) := by decide +kernel
theorem dX8_init_263 : decode cX8_init 263 = .ok (.bipush 32, 2) := by decide +kernel
theorem dX8_init_265 : decode cX8_init 265 = .ok (.bipush 49, 2) := by decide +kernel
theorem dX8_init_267 : decode cX8_init 267 = .ok (.bipush 48, 2) := by decide +kernel
theorem dX8_init_269 : decode cX8_init 269 = .ok (.bipush 32, 2) := by decide +kernel
theorem dX8_init_271 : decode cX8_init 271 = .ok (.bipush 45, 2) := by decide +kernel
theorem dX8_init_273 : decode cX8_init 273 = .ok (.bipush 32, 2) := by decide +kernel
theorem dX8_init_275 : decode cX8_init 275 = .ok (.bipush 112, 2) := by decide +kernel
theorem dX8_init_277 : decode cX8_init 277 = .ok (.invokevirtual 96, 3) := by decide +kernel
theorem dX8_init_280 : decode cX8_init 280 = .ok (.aload_n 0, 1) := by decide +kernel
theorem dX8_init_281 : decode cX8_init 281 = .ok (.bipush 24, 2) := by decide +kernel
theorem dX8_init_283 : decode cX8_init 283 = .ok (.bipush 97, 2) := by decide +kernel
theorem dX8_init_285 : decode cX8_init 285 = .ok (.bipush 99, 2) := by decide +kernel
theorem dX8_init_287 : decode cX8_init 287 = .ok (.bipush 101, 2) := by decide +kernel
theorem dX8_init_289 : decode cX8_init 289 = .ok (.bipush 32, 2) := by decide +kernel
theorem dX8_init_291 : decode cX8_init 291 = .ok (.bipush 59, 2) := by decide +kernel
theorem dX8_init_293 : decode cX8_init 293 = .ok (.bipush 32, 2) := by decide +kernel
theorem dX8_init_295 : decode cX8_init 295 = .ok (.bipush 109, 2) := by decide +kernel
theorem dX8_init_297 : decode cX8_init 297 = .ok (.bipush 105, 2) := by decide +kernel
theorem dX8_init_299 : decode cX8_init 299 = .ok (.invokevirtual 96, 3) := by decide +kernel
theorem dX8_init_302 : decode cX8_init 302 = .ok (.aload_n 0, 1) := by decide +kernel
theorem dX8_init_303 : decode cX8_init 303 = .ok (.bipush 32, 2) := by decide +kernel
theorem dX8_init_305 : decode cX8_init 305 = .ok (.bipush 110, 2) := by decide +kernel
theorem dX8_init_307 : decode cX8_init 307 = .ok (.bipush 100, 2) := by decide +kernel
theorem dX8_init_309 : decode cX8_init 309 = .ok (.bipush 115, 2) := by decide +kernel
theorem dX8_init_311 : decode cX8_init 311 = .ok (.bipush 32, 2) := by decide +kernel
theorem dX8_init_313 : decode cX8_init 313 = .ok (.bipush 49, 2) := by decide +kernel
theorem dX8_init_315 : decode cX8_init 315 = .ok (.bipush 32, 2) := by decide +kernel
theorem dX8_init_317 : decode cX8_init 317 = .ok (.bipush 59, 2) := by decide +kernel
theorem dX8_init_319 : decode cX8_init 319 = .ok (.bipush 32, 2) := by decide +kernel
theorem dX8_init_321 : decode cX8_init 321 = .ok (.invokevirtual 96, 3) := by decide +kernel
theorem dX8_init_324 : decode cX8_init 324 = .ok (.aload_n 0, 1) := by decide +kernel
theorem dX8_init_325 : decode cX8_init 325 = .ok (.getfield 17, 3) := by decide +kernel
theorem dX8_init_328 : decode cX8_init 328 = .ok (.iconst 0, 1) := by decide +kernel
theorem dX8_init_329 : decode cX8_init 329 = .ok (.bipush 40, 2) := by decide +kernel
theorem dX8_init_331 : decode cX8_init 331 = .ok (.iastore, 1) := by decide +kernel
theorem dX8_init_332 : decode cX8_init 332 = .ok (.aload_n 0, 1) := by decide +kernel
theorem dX8_init_333 : decode cX8_init 333 = .ok (.iconst 1, 1) := by decide +kernel
theorem dX8_init_334 : decode cX8_init 334 = .ok (.putfield 100, 3) := by decide +kernel
theorem dX8_init_337 : decode cX8_init 337 = .ok (.return_, 1) := by decide +kernel
theorem dX8_spell_0 : decode cX8_spell 0 = .ok (.aload_n 0, 1) := by decide +kernel
theorem dX8_spell_1 : decode cX8_spell 1 = .ok (.getfield 13, 3) := by decide +kernel
theorem dX8_spell_4 : decode cX8_spell 4 = .ok (.iload_n 1, 1) := by decide +kernel
theorem dX8_spell_5 : decode cX8_spell 5 = .ok (.iload_n 2, 1) := by decide +kernel
theorem dX8_spell_6 : decode cX8_spell 6 = .ok (.iastore, 1) := by decide +kernel
theorem dX8_spell_7 : decode cX8_spell 7 = .ok (.aload_n 0, 1) := by decide +kernel
theorem dX8_spell_8 : decode cX8_spell 8 = .ok (.getfield 13, 3) := by decide +kernel
theorem dX8_spell_11 : decode cX8_spell 11 = .ok (.iload_n 1, 1) := by decide +kernel
theorem dX8_spell_12 : decode cX8_spell 12 = .ok (.iconst 1, 1) := by decide +kernel
theorem dX8_spell_13 : decode cX8_spell 13 = .ok (.iadd, 1) := by decide +kernel
theorem dX8_spell_14 : decode cX8_spell 14 = .ok (.iload_n 3, 1) := by decide +kernel
theorem dX8_spell_15 : decode cX8_spell 15 = .ok (.iastore, 1) := by decide +kernel
theorem dX8_spell_16 : decode cX8_spell 16 = .ok (.aload_n 0, 1) := by decide +kernel
theorem dX8_spell_17 : decode cX8_spell 17 = .ok (.getfield 13, 3) := by decide +kernel
theorem dX8_spell_20 : decode cX8_spell 20 = .ok (.iload_n 1, 1) := by decide +kernel
theorem dX8_spell_21 : decode cX8_spell 21 = .ok (.iconst 2, 1) := by decide +kernel
theorem dX8_spell_22 : decode cX8_spell 22 = .ok (.iadd, 1) := by decide +kernel
theorem dX8_spell_23 : decode cX8_spell 23 = .ok (.iload 4, 2) := by decide +kernel
theorem dX8_spell_25 : decode cX8_spell 25 = .ok (.iastore, 1) := by decide +kernel
theorem dX8_spell_26 : decode cX8_spell 26 = .ok (.aload_n 0, 1) := by decide +kernel
theorem dX8_spell_27 : decode cX8_spell 27 = .ok (.getfield 13, 3) := by decide +kernel
theorem dX8_spell_30 : decode cX8_spell 30 = .ok (.iload_n 1, 1) := by decide +kernel
theorem dX8_spell_31 : decode cX8_spell 31 = .ok (.iconst 3, 1) := by decide +kernel
theorem dX8_spell_32 : decode cX8_spell 32 = .ok (.iadd, 1) := by decide +kernel
theorem dX8_spell_33 : decode cX8_spell 33 = .ok (.iload 5, 2) := by decide +kernel
theorem dX8_spell_35 : decode cX8_spell 35 = .ok (.iastore, 1) := by decide +kernel
theorem dX8_spell_36 : decode cX8_spell 36 = .ok (.aload_n 0, 1) := by decide +kernel
theorem dX8_spell_37 : decode cX8_spell 37 = .ok (.getfield 13, 3) := by decide +kernel
theorem dX8_spell_40 : decode cX8_spell 40 = .ok (.iload_n 1, 1) := by decide +kernel
theorem dX8_spell_41 : decode cX8_spell 41 = .ok (.iconst 4, 1) := by decide +kernel
theorem dX8_spell_42 : decode cX8_spell 42 = .ok (.iadd, 1) := by decide +kernel
theorem dX8_spell_43 : decode cX8_spell 43 = .ok (.iload 6, 2) := by decide +kernel
theorem dX8_spell_45 : decode cX8_spell 45 = .ok (.iastore, 1) := by decide +kernel
theorem dX8_spell_46 : decode cX8_spell 46 = .ok (.aload_n 0, 1) := by decide +kernel
theorem dX8_spell_47 : decode cX8_spell 47 = .ok (.getfield 13, 3) := by decide +kernel
theorem dX8_spell_50 : decode cX8_spell 50 = .ok (.iload_n 1, 1) := by decide +kernel
theorem dX8_spell_51 : decode cX8_spell 51 = .ok (.iconst 5, 1) := by decide +kernel
theorem dX8_spell_52 : decode cX8_spell 52 = .ok (.iadd, 1) := by decide +kernel
theorem dX8_spell_53 : decode cX8_spell 53 = .ok (.iload 7, 2) := by decide +kernel
theorem dX8_spell_55 : decode cX8_spell 55 = .ok (.iastore, 1) := by decide +kernel
theorem dX8_spell_56 : decode cX8_spell 56 = .ok (.aload_n 0, 1) := by decide +kernel
theorem dX8_spell_57 : decode cX8_spell 57 = .ok (.getfield 13, 3) := by decide +kernel
theorem dX8_spell_60 : decode cX8_spell 60 = .ok (.iload_n 1, 1) := by decide +kernel
theorem dX8_spell_61 : decode cX8_spell 61 = .ok (.bipush 6, 2) := by decide +kernel
theorem dX8_spell_63 : decode cX8_spell 63 = .ok (.iadd, 1) := by decide +kernel
theorem dX8_spell_64 : decode cX8_spell 64 = .ok (.iload 8, 2) := by decide +kernel
theorem dX8_spell_66 : decode cX8_spell 66 = .ok (.iastore, 1) := by decide +kernel
theorem dX8_spell_67 : decode cX8_spell 67 = .ok (.aload_n 0, 1) := by decide +kernel
theorem dX8_spell_68 : decode cX8_spell 68 = .ok (.getfield 13, 3) := by decide +kernel
theorem dX8_spell_71 : decode cX8_spell 71 = .ok (.iload_n 1, 1) := by decide +kernel
theorem dX8_spell_72 : decode cX8_spell 72 = .ok (.bipush 7, 2) := by decide +kernel
theorem dX8_spell_74 : decode cX8_spell 74 = .ok (.iadd, 1) := by decide +kernel
theorem dX8_spell_75 : decode cX8_spell 75 = .ok (.iload 9, 2) := by decide +kernel
theorem dX8_spell_77 : decode cX8_spell 77 = .ok (.iastore, 1) := by decide +kernel
theorem dX8_spell_78 : decode cX8_spell 78 = .ok (.return_, 1) := by decide +kernel
theorem dX8_isDog_0 : decode cX8_isDog 0 = .ok (.iload_n 1, 1) := by decide +kernel
theorem dX8_isDog_1 : decode cX8_isDog 1 = .ok (.i2l, 1) := by decide +kernel
theorem dX8_isDog_2 : decode cX8_isDog 2 = .ok (.lconst 0, 1) := by decide +kernel
theorem dX8_isDog_3 : decode cX8_isDog 3 = .ok (.aload_n 0, 1) := by decide +kernel
theorem dX8_isDog_4 : decode cX8_isDog 4 = .ok (.getfield 103, 3) := by decide +kernel
theorem dX8_isDog_7 : decode cX8_isDog 7 = .ok (.iconst 1, 1) := by decide +kernel
theorem dX8_isDog_8 : decode cX8_isDog 8 = .ok (.isub, 1) := by decide +kernel
theorem dX8_isDog_9 : decode cX8_isDog 9 = .ok (.i2l, 1) := by decide +kernel
theorem dX8_isDog_10 : decode cX8_isDog 10 = .ok (.invokestatic 106, 3) := by decide +kernel
theorem dX8_isDog_13 : decode cX8_isDog 13 = .ok (.ireturn, 1) := by decide +kernel
theorem dX8_dog_0 : decode cX8_dog 0 = .ok (.iload_n 1, 1) := by decide +kernel
theorem dX8_dog_1 : decode cX8_dog 1 = .ok (.i2l, 1) := by decide +kernel
theorem dX8_dog_2 : decode cX8_dog 2 = .ok (.lconst 0, 1) := by decide +kernel
theorem dX8_dog_3 : decode cX8_dog 3 = .ok (.ldc2_w 110, 3) := by decide +kernel
theorem dX8_dog_6 : decode cX8_dog 6 = .ok (.invokestatic 106, 3) := by decide +kernel
theorem dX8_dog_9 : decode cX8_dog 9 = .ok (.ifCond .eq 29, 3) := by decide +kernel
theorem dX8_dog_12 : decode cX8_dog 12 = .ok (.iload_n 2, 1) := by decide +kernel
theorem dX8_dog_13 : decode cX8_dog 13 = .ok (.i2l, 1) := by decide +kernel
theorem dX8_dog_14 : decode cX8_dog 14 = .ok (.ldc2_w 112, 3) := by decide +kernel
theorem dX8_dog_17 : decode cX8_dog 17 = .ok (.ldc2_w 114, 3) := by decide +kernel
theorem dX8_dog_20 : decode cX8_dog 20 = .ok (.invokestatic 106, 3) := by decide +kernel
theorem dX8_dog_23 : decode cX8_dog 23 = .ok (.ifCond .eq 15, 3) := by decide +kernel
theorem dX8_dog_26 : decode cX8_dog 26 = .ok (.iload_n 3, 1) := by decide +kernel
theorem dX8_dog_27 : decode cX8_dog 27 = .ok (.i2l, 1) := by decide +kernel
theorem dX8_dog_28 : decode cX8_dog 28 = .ok (.lconst 0, 1) := by decide +kernel
theorem dX8_dog_29 : decode cX8_dog 29 = .ok (.ldc2_w 114, 3) := by decide +kernel
theorem dX8_dog_32 : decode cX8_dog 32 = .ok (.invokestatic 106, 3) := by decide +kernel
theorem dX8_dog_35 : decode cX8_dog 35 = .ok (.ifCond .ne 6, 3) := by decide +kernel
theorem dX8_dog_38 : decode cX8_dog 38 = .ok (.bipush (-2), 2) := by decide +kernel
theorem dX8_dog_40 : decode cX8_dog 40 = .ok (.ireturn, 1) := by decide +kernel
theorem dX8_dog_41 : decode cX8_dog 41 = .ok (.aload_n 0, 1) := by decide +kernel
theorem dX8_dog_42 : decode cX8_dog 42 = .ok (.getfield 116, 3) := by decide +kernel
theorem dX8_dog_45 : decode cX8_dog 45 = .ok (.ifCond .le 6, 3) := by decide +kernel
theorem dX8_dog_48 : decode cX8_dog 48 = .ok (.bipush (-3), 2) := by decide +kernel
theorem dX8_dog_50 : decode cX8_dog 50 = .ok (.ireturn, 1) := by decide +kernel
theorem dX8_dog_51 : decode cX8_dog 51 = .ok (.aload_n 0, 1) := by decide +kernel
theorem dX8_dog_52 : decode cX8_dog 52 = .ok (.getfield 103, 3) := by decide +kernel
theorem dX8_dog_55 : decode cX8_dog 55 = .ok (.bipush 6, 2) := by decide +kernel
theorem dX8_dog_57 : decode cX8_dog 57 = .ok (.if_icmp .ne 6, 3) := by decide +kernel
theorem dX8_dog_60 : decode cX8_dog 60 = .ok (.bipush (-4), 2) := by decide +kernel
theorem dX8_dog_62 : decode cX8_dog 62 = .ok (.ireturn, 1) := by decide +kernel
theorem dX8_dog_63 : decode cX8_dog 63 = .ok (.aload_n 0, 1) := by decide +kernel
theorem dX8_dog_64 : decode cX8_dog 64 = .ok (.getfield 23, 3) := by decide +kernel
theorem dX8_dog_67 : decode cX8_dog 67 = .ok (.aload_n 0, 1) := by decide +kernel
theorem dX8_dog_68 : decode cX8_dog 68 = .ok (.getfield 103, 3) := by decide +kernel
theorem dX8_dog_71 : decode cX8_dog 71 = .ok (.iload_n 1, 1) := by decide +kernel
theorem dX8_dog_72 : decode cX8_dog 72 = .ok (.iastore, 1) := by decide +kernel
theorem dX8_dog_73 : decode cX8_dog 73 = .ok (.aload_n 0, 1) := by decide +kernel
theorem dX8_dog_74 : decode cX8_dog 74 = .ok (.getfield 26, 3) := by decide +kernel
theorem dX8_dog_77 : decode cX8_dog 77 = .ok (.aload_n 0, 1) := by decide +kernel
theorem dX8_dog_78 : decode cX8_dog 78 = .ok (.getfield 103, 3) := by decide +kernel
theorem dX8_dog_81 : decode cX8_dog 81 = .ok (.iload_n 2, 1) := by decide +kernel
theorem dX8_dog_82 : decode cX8_dog 82 = .ok (.bipush 10, 2) := by decide +kernel
theorem dX8_dog_84 : decode cX8_dog 84 = .ok (.idiv, 1) := by decide +kernel
theorem dX8_dog_85 : decode cX8_dog 85 = .ok (.iastore, 1) := by decide +kernel
theorem dX8_dog_86 : decode cX8_dog 86 = .ok (.aload_n 0, 1) := by decide +kernel
theorem dX8_dog_87 : decode cX8_dog 87 = .ok (.getfield 29, 3) := by decide +kernel
theorem dX8_dog_90 : decode cX8_dog 90 = .ok (.aload_n 0, 1) := by decide +kernel
theorem dX8_dog_91 : decode cX8_dog 91 = .ok (.getfield 103, 3) := by decide +kernel
theorem dX8_dog_94 : decode cX8_dog 94 = .ok (.iload_n 2, 1) := by decide +kernel
theorem dX8_dog_95 : decode cX8_dog 95 = .ok (.bipush 10, 2) := by decide +kernel
theorem dX8_dog_97 : decode cX8_dog 97 = .ok (.irem, 1) := by decide +kernel
theorem dX8_dog_98 : decode cX8_dog 98 = .ok (.iastore, 1) := by decide +kernel
theorem dX8_dog_99 : decode cX8_dog 99 = .ok (.aload_n 0, 1) := by decide +kernel
theorem dX8_dog_100 : decode cX8_dog 100 = .ok (.getfield 32, 3) := by decide +kernel
theorem dX8_dog_103 : decode cX8_dog 103 = .ok (.aload_n 0, 1) := by decide +kernel
theorem dX8_dog_104 : decode cX8_dog 104 = .ok (.getfield 103, 3) := by decide +kernel
theorem dX8_dog_107 : decode cX8_dog 107 = .ok (.iload_n 3, 1) := by decide +kernel
theorem dX8_dog_108 : decode cX8_dog 108 = .ok (.iastore, 1) := by decide +kernel
theorem dX8_dog_109 : decode cX8_dog 109 = .ok (.aload_n 0, 1) := by decide +kernel
theorem dX8_dog_110 : decode cX8_dog 110 = .ok (.getfield 35, 3) := by decide +kernel
theorem dX8_dog_113 : decode cX8_dog 113 = .ok (.aload_n 0, 1) := by decide +kernel
theorem dX8_dog_114 : decode cX8_dog 114 = .ok (.getfield 103, 3) := by decide +kernel
theorem dX8_dog_117 : decode cX8_dog 117 = .ok (.aload_n 0, 1) := by decide +kernel
theorem dX8_dog_118 : decode cX8_dog 118 = .ok (.getfield 103, 3) := by decide +kernel
theorem dX8_dog_121 : decode cX8_dog 121 = .ok (.iastore, 1) := by decide +kernel
theorem dX8_dog_122 : decode cX8_dog 122 = .ok (.aload_n 0, 1) := by decide +kernel
theorem dX8_dog_123 : decode cX8_dog 123 = .ok (.dup, 1) := by decide +kernel
theorem dX8_dog_124 : decode cX8_dog 124 = .ok (.getfield 103, 3) := by decide +kernel
theorem dX8_dog_127 : decode cX8_dog 127 = .ok (.iconst 1, 1) := by decide +kernel
theorem dX8_dog_128 : decode cX8_dog 128 = .ok (.iadd, 1) := by decide +kernel
theorem dX8_dog_129 : decode cX8_dog 129 = .ok (.putfield 103, 3) := by decide +kernel
theorem dX8_dog_132 : decode cX8_dog 132 = .ok (.aload_n 0, 1) := by decide +kernel
theorem dX8_dog_133 : decode cX8_dog 133 = .ok (.getfield 103, 3) := by decide +kernel
theorem dX8_dog_136 : decode cX8_dog 136 = .ok (.iconst 1, 1) := by decide +kernel
theorem dX8_dog_137 : decode cX8_dog 137 = .ok (.isub, 1) := by decide +kernel
theorem dX8_dog_138 : decode cX8_dog 138 = .ok (.ireturn, 1) := by decide +kernel
theorem dX8_set_0 : decode cX8_set 0 = .ok (.aload_n 0, 1) := by decide +kernel
theorem dX8_set_1 : decode cX8_set 1 = .ok (.iload_n 1, 1) := by decide +kernel
theorem dX8_set_2 : decode cX8_set 2 = .ok (.invokevirtual 119, 3) := by decide +kernel
theorem dX8_set_5 : decode cX8_set 5 = .ok (.ifCond .eq 46, 3) := by decide +kernel
theorem dX8_set_8 : decode cX8_set 8 = .ok (.iload_n 2, 1) := by decide +kernel
theorem dX8_set_9 : decode cX8_set 9 = .ok (.i2l, 1) := by decide +kernel
theorem dX8_set_10 : decode cX8_set 10 = .ok (.lconst 0, 1) := by decide +kernel
theorem dX8_set_11 : decode cX8_set 11 = .ok (.ldc2_w 123, 3) := by decide +kernel
theorem dX8_set_14 : decode cX8_set 14 = .ok (.invokestatic 106, 3) := by decide +kernel
theorem dX8_set_17 : decode cX8_set 17 = .ok (.ifCond .eq 34, 3) := by decide +kernel
theorem dX8_set_20 : decode cX8_set 20 = .ok (.iload_n 3, 1) := by decide +kernel
theorem dX8_set_21 : decode cX8_set 21 = .ok (.i2l, 1) := by decide +kernel
theorem dX8_set_22 : decode cX8_set 22 = .ok (.iload_n 2, 1) := by decide +kernel
theorem dX8_set_23 : decode cX8_set 23 = .ok (.ifCond .ne 7, 3) := by decide +kernel
theorem dX8_set_26 : decode cX8_set 26 = .ok (.lconst 1, 1) := by decide +kernel
theorem dX8_set_27 : decode cX8_set 27 = .ok (.goto 4, 3) := by decide +kernel
theorem dX8_set_30 : decode cX8_set 30 = .ok (.lconst 0, 1) := by decide +kernel
theorem dX8_set_31 : decode cX8_set 31 = .ok (.iload_n 2, 1) := by decide +kernel
theorem dX8_set_32 : decode cX8_set 32 = .ok (.iconst 2, 1) := by decide +kernel
theorem dX8_set_33 : decode cX8_set 33 = .ok (.if_icmp .ne 9, 3) := by decide +kernel
theorem dX8_set_36 : decode cX8_set 36 = .ok (.ldc2_w 114, 3) := by decide +kernel
theorem dX8_set_39 : decode cX8_set 39 = .ok (.goto 6, 3) := by decide +kernel
theorem dX8_set_42 : decode cX8_set 42 = .ok (.ldc2_w 125, 3) := by decide +kernel
theorem dX8_set_45 : decode cX8_set 45 = .ok (.invokestatic 106, 3) := by decide +kernel
theorem dX8_set_48 : decode cX8_set 48 = .ok (.ifCond .ne 6, 3) := by decide +kernel
theorem dX8_set_51 : decode cX8_set 51 = .ok (.bipush (-2), 2) := by decide +kernel
theorem dX8_set_53 : decode cX8_set 53 = .ok (.ireturn, 1) := by decide +kernel
theorem dX8_set_54 : decode cX8_set 54 = .ok (.iload_n 2, 1) := by decide +kernel
theorem dX8_set_55 : decode cX8_set 55 = .ok (.ifCond .ne 12, 3) := by decide +kernel
theorem dX8_set_58 : decode cX8_set 58 = .ok (.aload_n 0, 1) := by decide +kernel
theorem dX8_set_59 : decode cX8_set 59 = .ok (.getfield 26, 3) := by decide +kernel
theorem dX8_set_62 : decode cX8_set 62 = .ok (.iload_n 1, 1) := by decide +kernel
theorem dX8_set_63 : decode cX8_set 63 = .ok (.iaload, 1) := by decide +kernel
theorem dX8_set_64 : decode cX8_set 64 = .ok (.goto 23, 3) := by decide +kernel
theorem dX8_set_67 : decode cX8_set 67 = .ok (.iload_n 2, 1) := by decide +kernel
theorem dX8_set_68 : decode cX8_set 68 = .ok (.iconst 1, 1) := by decide +kernel
theorem dX8_set_69 : decode cX8_set 69 = .ok (.if_icmp .ne 12, 3) := by decide +kernel
theorem dX8_set_72 : decode cX8_set 72 = .ok (.aload_n 0, 1) := by decide +kernel
theorem dX8_set_73 : decode cX8_set 73 = .ok (.getfield 29, 3) := by decide +kernel
theorem dX8_set_76 : decode cX8_set 76 = .ok (.iload_n 1, 1) := by decide +kernel
theorem dX8_set_77 : decode cX8_set 77 = .ok (.iaload, 1) := by decide +kernel
theorem dX8_set_78 : decode cX8_set 78 = .ok (.goto 9, 3) := by decide +kernel
theorem dX8_set_81 : decode cX8_set 81 = .ok (.aload_n 0, 1) := by decide +kernel
theorem dX8_set_82 : decode cX8_set 82 = .ok (.getfield 32, 3) := by decide +kernel
theorem dX8_set_85 : decode cX8_set 85 = .ok (.iload_n 1, 1) := by decide +kernel
theorem dX8_set_86 : decode cX8_set 86 = .ok (.iaload, 1) := by decide +kernel
theorem dX8_set_87 : decode cX8_set 87 = .ok (.istore 4, 2) := by decide +kernel
theorem dX8_set_89 : decode cX8_set 89 = .ok (.iload_n 2, 1) := by decide +kernel
theorem dX8_set_90 : decode cX8_set 90 = .ok (.ifCond .ne 13, 3) := by decide +kernel
theorem dX8_set_93 : decode cX8_set 93 = .ok (.aload_n 0, 1) := by decide +kernel
theorem dX8_set_94 : decode cX8_set 94 = .ok (.getfield 26, 3) := by decide +kernel
theorem dX8_set_97 : decode cX8_set 97 = .ok (.iload_n 1, 1) := by decide +kernel
theorem dX8_set_98 : decode cX8_set 98 = .ok (.iload_n 3, 1) := by decide +kernel
theorem dX8_set_99 : decode cX8_set 99 = .ok (.iastore, 1) := by decide +kernel
theorem dX8_set_100 : decode cX8_set 100 = .ok (.goto 25, 3) := by decide +kernel
theorem dX8_set_103 : decode cX8_set 103 = .ok (.iload_n 2, 1) := by decide +kernel
theorem dX8_set_104 : decode cX8_set 104 = .ok (.iconst 1, 1) := by decide +kernel
theorem dX8_set_105 : decode cX8_set 105 = .ok (.if_icmp .ne 13, 3) := by decide +kernel
theorem dX8_set_108 : decode cX8_set 108 = .ok (.aload_n 0, 1) := by decide +kernel
theorem dX8_set_109 : decode cX8_set 109 = .ok (.getfield 29, 3) := by decide +kernel
theorem dX8_set_112 : decode cX8_set 112 = .ok (.iload_n 1, 1) := by decide +kernel
theorem dX8_set_113 : decode cX8_set 113 = .ok (.iload_n 3, 1) := by decide +kernel
theorem dX8_set_114 : decode cX8_set 114 = .ok (.iastore, 1) := by decide +kernel
theorem dX8_set_115 : decode cX8_set 115 = .ok (.goto 10, 3) := by decide +kernel
theorem dX8_set_118 : decode cX8_set 118 = .ok (.aload_n 0, 1) := by decide +kernel
theorem dX8_set_119 : decode cX8_set 119 = .ok (.getfield 32, 3) := by decide +kernel
theorem dX8_set_122 : decode cX8_set 122 = .ok (.iload_n 1, 1) := by decide +kernel
theorem dX8_set_123 : decode cX8_set 123 = .ok (.iload_n 3, 1) := by decide +kernel
theorem dX8_set_124 : decode cX8_set 124 = .ok (.iastore, 1) := by decide +kernel
theorem dX8_set_125 : decode cX8_set 125 = .ok (.iload 4, 2) := by decide +kernel
theorem dX8_set_127 : decode cX8_set 127 = .ok (.ireturn, 1) := by decide +kernel
theorem dX8_placeOf_0 : decode cX8_placeOf 0 = .ok (.iconst 0, 1) := by decide +kernel
theorem dX8_placeOf_1 : decode cX8_placeOf 1 = .ok (.istore_n 2, 1) := by decide +kernel
theorem dX8_placeOf_2 : decode cX8_placeOf 2 = .ok (.aload_n 0, 1) := by decide +kernel
theorem dX8_placeOf_3 : decode cX8_placeOf 3 = .ok (.getfield 35, 3) := by decide +kernel
theorem dX8_placeOf_6 : decode cX8_placeOf 6 = .ok (.iload_n 2, 1) := by decide +kernel
theorem dX8_placeOf_7 : decode cX8_placeOf 7 = .ok (.iaload, 1) := by decide +kernel
theorem dX8_placeOf_8 : decode cX8_placeOf 8 = .ok (.iload_n 1, 1) := by decide +kernel
theorem dX8_placeOf_9 : decode cX8_placeOf 9 = .ok (.if_icmp .eq 9, 3) := by decide +kernel
theorem dX8_placeOf_12 : decode cX8_placeOf 12 = .ok (.iinc 2 1, 3) := by decide +kernel
theorem dX8_placeOf_15 : decode cX8_placeOf 15 = .ok (.goto (-13), 3) := by decide +kernel
theorem dX8_placeOf_18 : decode cX8_placeOf 18 = .ok (.iload_n 2, 1) := by decide +kernel
theorem dX8_placeOf_19 : decode cX8_placeOf 19 = .ok (.ireturn, 1) := by decide +kernel
theorem dX8_pulls_0 : decode cX8_pulls 0 = .ok (.aload_n 0, 1) := by decide +kernel
theorem dX8_pulls_1 : decode cX8_pulls 1 = .ok (.getfield 23, 3) := by decide +kernel
theorem dX8_pulls_4 : decode cX8_pulls 4 = .ok (.iload_n 1, 1) := by decide +kernel
theorem dX8_pulls_5 : decode cX8_pulls 5 = .ok (.iaload, 1) := by decide +kernel
theorem dX8_pulls_6 : decode cX8_pulls 6 = .ok (.istore_n 3, 1) := by decide +kernel
theorem dX8_pulls_7 : decode cX8_pulls 7 = .ok (.aload_n 0, 1) := by decide +kernel
theorem dX8_pulls_8 : decode cX8_pulls 8 = .ok (.getfield 26, 3) := by decide +kernel
theorem dX8_pulls_11 : decode cX8_pulls 11 = .ok (.iload_n 1, 1) := by decide +kernel
theorem dX8_pulls_12 : decode cX8_pulls 12 = .ok (.iaload, 1) := by decide +kernel
theorem dX8_pulls_13 : decode cX8_pulls 13 = .ok (.aload_n 0, 1) := by decide +kernel
theorem dX8_pulls_14 : decode cX8_pulls 14 = .ok (.getfield 29, 3) := by decide +kernel
theorem dX8_pulls_17 : decode cX8_pulls 17 = .ok (.iload_n 1, 1) := by decide +kernel
theorem dX8_pulls_18 : decode cX8_pulls 18 = .ok (.iaload, 1) := by decide +kernel
theorem dX8_pulls_19 : decode cX8_pulls 19 = .ok (.iadd, 1) := by decide +kernel
theorem dX8_pulls_20 : decode cX8_pulls 20 = .ok (.istore 4, 2) := by decide +kernel
theorem dX8_pulls_22 : decode cX8_pulls 22 = .ok (.aload_n 0, 1) := by decide +kernel
theorem dX8_pulls_23 : decode cX8_pulls 23 = .ok (.getfield 26, 3) := by decide +kernel
theorem dX8_pulls_26 : decode cX8_pulls 26 = .ok (.iload_n 1, 1) := by decide +kernel
theorem dX8_pulls_27 : decode cX8_pulls 27 = .ok (.iaload, 1) := by decide +kernel
theorem dX8_pulls_28 : decode cX8_pulls 28 = .ok (.istore 5, 2) := by decide +kernel
theorem dX8_pulls_30 : decode cX8_pulls 30 = .ok (.iload_n 3, 1) := by decide +kernel
theorem dX8_pulls_31 : decode cX8_pulls 31 = .ok (.iconst 1, 1) := by decide +kernel
theorem dX8_pulls_32 : decode cX8_pulls 32 = .ok (.if_icmp .ne 7, 3) := by decide +kernel
theorem dX8_pulls_35 : decode cX8_pulls 35 = .ok (.iload 4, 2) := by decide +kernel
theorem dX8_pulls_37 : decode cX8_pulls 37 = .ok (.istore 5, 2) := by decide +kernel
theorem dX8_pulls_39 : decode cX8_pulls 39 = .ok (.iload_n 3, 1) := by decide +kernel
theorem dX8_pulls_40 : decode cX8_pulls 40 = .ok (.iconst 3, 1) := by decide +kernel
theorem dX8_pulls_41 : decode cX8_pulls 41 = .ok (.if_icmp .ne 9, 3) := by decide +kernel
theorem dX8_pulls_44 : decode cX8_pulls 44 = .ok (.iload 4, 2) := by decide +kernel
theorem dX8_pulls_46 : decode cX8_pulls 46 = .ok (.iload_n 2, 1) := by decide +kernel
theorem dX8_pulls_47 : decode cX8_pulls 47 = .ok (.iadd, 1) := by decide +kernel
theorem dX8_pulls_48 : decode cX8_pulls 48 = .ok (.istore 5, 2) := by decide +kernel
theorem dX8_pulls_50 : decode cX8_pulls 50 = .ok (.iload_n 3, 1) := by decide +kernel
theorem dX8_pulls_51 : decode cX8_pulls 51 = .ok (.iconst 5, 1) := by decide +kernel
theorem dX8_pulls_52 : decode cX8_pulls 52 = .ok (.if_icmp .ne 11, 3) := by decide +kernel
theorem dX8_pulls_55 : decode cX8_pulls 55 = .ok (.iconst 2, 1) := by decide +kernel
theorem dX8_pulls_56 : decode cX8_pulls 56 = .ok (.iload 4, 2) := by decide +kernel
theorem dX8_pulls_58 : decode cX8_pulls 58 = .ok (.imul, 1) := by decide +kernel
theorem dX8_pulls_59 : decode cX8_pulls 59 = .ok (.iload_n 2, 1) := by decide +kernel
theorem dX8_pulls_60 : decode cX8_pulls 60 = .ok (.isub, 1) := by decide +kernel
theorem dX8_pulls_61 : decode cX8_pulls 61 = .ok (.istore 5, 2) := by decide +kernel
theorem dX8_pulls_63 : decode cX8_pulls 63 = .ok (.iload_n 3, 1) := by decide +kernel
theorem dX8_pulls_64 : decode cX8_pulls 64 = .ok (.iconst 2, 1) := by decide +kernel
theorem dX8_pulls_65 : decode cX8_pulls 65 = .ok (.if_icmp .ne 13, 3) := by decide +kernel
theorem dX8_pulls_68 : decode cX8_pulls 68 = .ok (.aload_n 0, 1) := by decide +kernel
theorem dX8_pulls_69 : decode cX8_pulls 69 = .ok (.getfield 26, 3) := by decide +kernel
theorem dX8_pulls_72 : decode cX8_pulls 72 = .ok (.iload_n 1, 1) := by decide +kernel
theorem dX8_pulls_73 : decode cX8_pulls 73 = .ok (.iaload, 1) := by decide +kernel
theorem dX8_pulls_74 : decode cX8_pulls 74 = .ok (.iconst 2, 1) := by decide +kernel
theorem dX8_pulls_75 : decode cX8_pulls 75 = .ok (.idiv, 1) := by decide +kernel
theorem dX8_pulls_76 : decode cX8_pulls 76 = .ok (.istore 5, 2) := by decide +kernel
theorem dX8_pulls_78 : decode cX8_pulls 78 = .ok (.iload_n 3, 1) := by decide +kernel
theorem dX8_pulls_79 : decode cX8_pulls 79 = .ok (.iconst 4, 1) := by decide +kernel
theorem dX8_pulls_80 : decode cX8_pulls 80 = .ok (.if_icmp .ne 15, 3) := by decide +kernel
theorem dX8_pulls_83 : decode cX8_pulls 83 = .ok (.aload_n 0, 1) := by decide +kernel
theorem dX8_pulls_84 : decode cX8_pulls 84 = .ok (.getfield 26, 3) := by decide +kernel
theorem dX8_pulls_87 : decode cX8_pulls 87 = .ok (.iload_n 1, 1) := by decide +kernel
theorem dX8_pulls_88 : decode cX8_pulls 88 = .ok (.iaload, 1) := by decide +kernel
theorem dX8_pulls_89 : decode cX8_pulls 89 = .ok (.iconst 2, 1) := by decide +kernel
theorem dX8_pulls_90 : decode cX8_pulls 90 = .ok (.idiv, 1) := by decide +kernel
theorem dX8_pulls_91 : decode cX8_pulls 91 = .ok (.iconst 2, 1) := by decide +kernel
theorem dX8_pulls_92 : decode cX8_pulls 92 = .ok (.isub, 1) := by decide +kernel
theorem dX8_pulls_93 : decode cX8_pulls 93 = .ok (.istore 5, 2) := by decide +kernel
theorem dX8_pulls_95 : decode cX8_pulls 95 = .ok (.iload 5, 2) := by decide +kernel
theorem dX8_pulls_97 : decode cX8_pulls 97 = .ok (.ifCond .ge 7, 3) := by decide +kernel
theorem dX8_pulls_100 : decode cX8_pulls 100 = .ok (.iconst 0, 1) := by decide +kernel
theorem dX8_pulls_101 : decode cX8_pulls 101 = .ok (.goto 5, 3) := by decide +kernel
theorem dX8_pulls_104 : decode cX8_pulls 104 = .ok (.iload 5, 2) := by decide +kernel
theorem dX8_pulls_106 : decode cX8_pulls 106 = .ok (.ireturn, 1) := by decide +kernel
theorem dX8_right_0 : decode cX8_right 0 = .ok (.aload_n 0, 1) := by decide +kernel
theorem dX8_right_1 : decode cX8_right 1 = .ok (.getfield 23, 3) := by decide +kernel
theorem dX8_right_4 : decode cX8_right 4 = .ok (.iload_n 1, 1) := by decide +kernel
theorem dX8_right_5 : decode cX8_right 5 = .ok (.iaload, 1) := by decide +kernel
theorem dX8_right_6 : decode cX8_right 6 = .ok (.istore 4, 2) := by decide +kernel
theorem dX8_right_8 : decode cX8_right 8 = .ok (.iload 4, 2) := by decide +kernel
theorem dX8_right_10 : decode cX8_right 10 = .ok (.iconst 3, 1) := by decide +kernel
theorem dX8_right_11 : decode cX8_right 11 = .ok (.if_icmp .ne 5, 3) := by decide +kernel
theorem dX8_right_14 : decode cX8_right 14 = .ok (.iconst 0, 1) := by decide +kernel
theorem dX8_right_15 : decode cX8_right 15 = .ok (.ireturn, 1) := by decide +kernel
theorem dX8_right_16 : decode cX8_right 16 = .ok (.iload 4, 2) := by decide +kernel
theorem dX8_right_18 : decode cX8_right 18 = .ok (.ifCond .eq 9, 3) := by decide +kernel
theorem dX8_right_21 : decode cX8_right 21 = .ok (.iload 4, 2) := by decide +kernel
theorem dX8_right_23 : decode cX8_right 23 = .ok (.iconst 2, 1) := by decide +kernel
theorem dX8_right_24 : decode cX8_right 24 = .ok (.if_icmp .ne 14, 3) := by decide +kernel
theorem dX8_right_27 : decode cX8_right 27 = .ok (.iload_n 2, 1) := by decide +kernel
theorem dX8_right_28 : decode cX8_right 28 = .ok (.iload_n 3, 1) := by decide +kernel
theorem dX8_right_29 : decode cX8_right 29 = .ok (.if_icmp .lt 7, 3) := by decide +kernel
theorem dX8_right_32 : decode cX8_right 32 = .ok (.iconst 1, 1) := by decide +kernel
theorem dX8_right_33 : decode cX8_right 33 = .ok (.goto 4, 3) := by decide +kernel
theorem dX8_right_36 : decode cX8_right 36 = .ok (.iconst 0, 1) := by decide +kernel
theorem dX8_right_37 : decode cX8_right 37 = .ok (.ireturn, 1) := by decide +kernel
theorem dX8_right_38 : decode cX8_right 38 = .ok (.iload 4, 2) := by decide +kernel
theorem dX8_right_40 : decode cX8_right 40 = .ok (.iconst 4, 1) := by decide +kernel
theorem dX8_right_41 : decode cX8_right 41 = .ok (.if_icmp .ne 18, 3) := by decide +kernel
theorem dX8_right_44 : decode cX8_right 44 = .ok (.iload_n 2, 1) := by decide +kernel
theorem dX8_right_45 : decode cX8_right 45 = .ok (.iload_n 3, 1) := by decide +kernel
theorem dX8_right_46 : decode cX8_right 46 = .ok (.if_icmp .ge 7, 3) := by decide +kernel
theorem dX8_right_49 : decode cX8_right 49 = .ok (.iload_n 2, 1) := by decide +kernel
theorem dX8_right_50 : decode cX8_right 50 = .ok (.ifCond .ne 7, 3) := by decide +kernel
theorem dX8_right_53 : decode cX8_right 53 = .ok (.iconst 1, 1) := by decide +kernel
theorem dX8_right_54 : decode cX8_right 54 = .ok (.goto 4, 3) := by decide +kernel
theorem dX8_right_57 : decode cX8_right 57 = .ok (.iconst 0, 1) := by decide +kernel
theorem dX8_right_58 : decode cX8_right 58 = .ok (.ireturn, 1) := by decide +kernel
theorem dX8_right_59 : decode cX8_right 59 = .ok (.iload_n 2, 1) := by decide +kernel
theorem dX8_right_60 : decode cX8_right 60 = .ok (.aload_n 0, 1) := by decide +kernel
theorem dX8_right_61 : decode cX8_right 61 = .ok (.getfield 29, 3) := by decide +kernel
theorem dX8_right_64 : decode cX8_right 64 = .ok (.iload_n 1, 1) := by decide +kernel
theorem dX8_right_65 : decode cX8_right 65 = .ok (.iaload, 1) := by decide +kernel
theorem dX8_right_66 : decode cX8_right 66 = .ok (.iconst 4, 1) := by decide +kernel
theorem dX8_right_67 : decode cX8_right 67 = .ok (.if_icmp .le 7, 3) := by decide +kernel
theorem dX8_right_70 : decode cX8_right 70 = .ok (.iconst 1, 1) := by decide +kernel
theorem dX8_right_71 : decode cX8_right 71 = .ok (.goto 4, 3) := by decide +kernel
theorem dX8_right_74 : decode cX8_right 74 = .ok (.iconst 0, 1) := by decide +kernel
theorem dX8_right_75 : decode cX8_right 75 = .ok (.iadd, 1) := by decide +kernel
theorem dX8_right_76 : decode cX8_right 76 = .ok (.iload_n 3, 1) := by decide +kernel
theorem dX8_right_77 : decode cX8_right 77 = .ok (.if_icmp .lt 7, 3) := by decide +kernel
theorem dX8_right_80 : decode cX8_right 80 = .ok (.iconst 1, 1) := by decide +kernel
theorem dX8_right_81 : decode cX8_right 81 = .ok (.goto 4, 3) := by decide +kernel
theorem dX8_right_84 : decode cX8_right 84 = .ok (.iconst 0, 1) := by decide +kernel
theorem dX8_right_85 : decode cX8_right 85 = .ok (.istore 5, 2) := by decide +kernel
theorem dX8_right_87 : decode cX8_right 87 = .ok (.iload 4, 2) := by decide +kernel
theorem dX8_right_89 : decode cX8_right 89 = .ok (.iconst 5, 1) := by decide +kernel
theorem dX8_right_90 : decode cX8_right 90 = .ok (.if_icmp .ne 22, 3) := by decide +kernel
theorem dX8_right_93 : decode cX8_right 93 = .ok (.iload_n 2, 1) := by decide +kernel
theorem dX8_right_94 : decode cX8_right 94 = .ok (.iconst 2, 1) := by decide +kernel
theorem dX8_right_95 : decode cX8_right 95 = .ok (.irem, 1) := by decide +kernel
theorem dX8_right_96 : decode cX8_right 96 = .ok (.ifCond .ne 16, 3) := by decide +kernel
theorem dX8_right_99 : decode cX8_right 99 = .ok (.iload 5, 2) := by decide +kernel
theorem dX8_right_101 : decode cX8_right 101 = .ok (.ifCond .ne 7, 3) := by decide +kernel
theorem dX8_right_104 : decode cX8_right 104 = .ok (.iconst 1, 1) := by decide +kernel
theorem dX8_right_105 : decode cX8_right 105 = .ok (.goto 9, 3) := by decide +kernel
theorem dX8_right_108 : decode cX8_right 108 = .ok (.iconst 0, 1) := by decide +kernel
theorem dX8_right_109 : decode cX8_right 109 = .ok (.goto 5, 3) := by decide +kernel
theorem dX8_right_112 : decode cX8_right 112 = .ok (.iload 5, 2) := by decide +kernel
theorem dX8_right_114 : decode cX8_right 114 = .ok (.ireturn, 1) := by decide +kernel
theorem dX8_told_0 : decode cX8_told 0 = .ok (.aload_n 0, 1) := by decide +kernel
theorem dX8_told_1 : decode cX8_told 1 = .ok (.iload_n 1, 1) := by decide +kernel
theorem dX8_told_2 : decode cX8_told 2 = .ok (.invokevirtual 119, 3) := by decide +kernel
theorem dX8_told_5 : decode cX8_told 5 = .ok (.ifCond .eq 15, 3) := by decide +kernel
theorem dX8_told_8 : decode cX8_told 8 = .ok (.iload_n 2, 1) := by decide +kernel
theorem dX8_told_9 : decode cX8_told 9 = .ok (.i2l, 1) := by decide +kernel
theorem dX8_told_10 : decode cX8_told 10 = .ok (.lconst 0, 1) := by decide +kernel
theorem dX8_told_11 : decode cX8_told 11 = .ok (.ldc2_w 110, 3) := by decide +kernel
theorem dX8_told_14 : decode cX8_told 14 = .ok (.invokestatic 106, 3) := by decide +kernel
theorem dX8_told_17 : decode cX8_told 17 = .ok (.ifCond .ne 6, 3) := by decide +kernel
theorem dX8_told_20 : decode cX8_told 20 = .ok (.bipush (-2), 2) := by decide +kernel
theorem dX8_told_22 : decode cX8_told 22 = .ok (.ireturn, 1) := by decide +kernel
theorem dX8_told_23 : decode cX8_told 23 = .ok (.iload_n 2, 1) := by decide +kernel
theorem dX8_told_24 : decode cX8_told 24 = .ok (.iconst 3, 1) := by decide +kernel
theorem dX8_told_25 : decode cX8_told 25 = .ok (.if_icmp .ge 37, 3) := by decide +kernel
theorem dX8_told_28 : decode cX8_told 28 = .ok (.iload_n 2, 1) := by decide +kernel
theorem dX8_told_29 : decode cX8_told 29 = .ok (.ifCond .ne 12, 3) := by decide +kernel
theorem dX8_told_32 : decode cX8_told 32 = .ok (.aload_n 0, 1) := by decide +kernel
theorem dX8_told_33 : decode cX8_told 33 = .ok (.getfield 26, 3) := by decide +kernel
theorem dX8_told_36 : decode cX8_told 36 = .ok (.iload_n 1, 1) := by decide +kernel
theorem dX8_told_37 : decode cX8_told 37 = .ok (.iaload, 1) := by decide +kernel
theorem dX8_told_38 : decode cX8_told 38 = .ok (.goto 23, 3) := by decide +kernel
theorem dX8_told_41 : decode cX8_told 41 = .ok (.iload_n 2, 1) := by decide +kernel
theorem dX8_told_42 : decode cX8_told 42 = .ok (.iconst 1, 1) := by decide +kernel
theorem dX8_told_43 : decode cX8_told 43 = .ok (.if_icmp .ne 12, 3) := by decide +kernel
theorem dX8_told_46 : decode cX8_told 46 = .ok (.aload_n 0, 1) := by decide +kernel
theorem dX8_told_47 : decode cX8_told 47 = .ok (.getfield 29, 3) := by decide +kernel
theorem dX8_told_50 : decode cX8_told 50 = .ok (.iload_n 1, 1) := by decide +kernel
theorem dX8_told_51 : decode cX8_told 51 = .ok (.iaload, 1) := by decide +kernel
theorem dX8_told_52 : decode cX8_told 52 = .ok (.goto 9, 3) := by decide +kernel
theorem dX8_told_55 : decode cX8_told 55 = .ok (.aload_n 0, 1) := by decide +kernel
theorem dX8_told_56 : decode cX8_told 56 = .ok (.getfield 32, 3) := by decide +kernel
theorem dX8_told_59 : decode cX8_told 59 = .ok (.iload_n 1, 1) := by decide +kernel
theorem dX8_told_60 : decode cX8_told 60 = .ok (.iaload, 1) := by decide +kernel
theorem dX8_told_61 : decode cX8_told 61 = .ok (.ireturn, 1) := by decide +kernel
theorem dX8_told_62 : decode cX8_told 62 = .ok (.iload_n 2, 1) := by decide +kernel
theorem dX8_told_63 : decode cX8_told 63 = .ok (.iconst 3, 1) := by decide +kernel
theorem dX8_told_64 : decode cX8_told 64 = .ok (.if_icmp .ne 12, 3) := by decide +kernel
theorem dX8_told_67 : decode cX8_told 67 = .ok (.aload_n 0, 1) := by decide +kernel
theorem dX8_told_68 : decode cX8_told 68 = .ok (.getfield 23, 3) := by decide +kernel
theorem dX8_told_71 : decode cX8_told 71 = .ok (.iload_n 1, 1) := by decide +kernel
theorem dX8_told_72 : decode cX8_told 72 = .ok (.iaload, 1) := by decide +kernel
theorem dX8_told_73 : decode cX8_told 73 = .ok (.goto 26, 3) := by decide +kernel
theorem dX8_told_76 : decode cX8_told 76 = .ok (.iload_n 2, 1) := by decide +kernel
theorem dX8_told_77 : decode cX8_told 77 = .ok (.iconst 4, 1) := by decide +kernel
theorem dX8_told_78 : decode cX8_told 78 = .ok (.if_icmp .ne 11, 3) := by decide +kernel
theorem dX8_told_81 : decode cX8_told 81 = .ok (.aload_n 0, 1) := by decide +kernel
theorem dX8_told_82 : decode cX8_told 82 = .ok (.iload_n 1, 1) := by decide +kernel
theorem dX8_told_83 : decode cX8_told 83 = .ok (.invokevirtual 127, 3) := by decide +kernel
theorem dX8_told_86 : decode cX8_told 86 = .ok (.goto 13, 3) := by decide +kernel
theorem dX8_told_89 : decode cX8_told 89 = .ok (.aload_n 0, 1) := by decide +kernel
theorem dX8_told_90 : decode cX8_told 90 = .ok (.iload_n 1, 1) := by decide +kernel
theorem dX8_told_91 : decode cX8_told 91 = .ok (.aload_n 0, 1) := by decide +kernel
theorem dX8_told_92 : decode cX8_told 92 = .ok (.iload_n 1, 1) := by decide +kernel
theorem dX8_told_93 : decode cX8_told 93 = .ok (.invokevirtual 127, 3) := by decide +kernel
theorem dX8_told_96 : decode cX8_told 96 = .ok (.invokevirtual 131, 3) := by decide +kernel
theorem dX8_told_99 : decode cX8_told 99 = .ok (.ireturn, 1) := by decide +kernel
theorem dX8_feed_0 : decode cX8_feed 0 = .ok (.iload_n 1, 1) := by decide +kernel
theorem dX8_feed_1 : decode cX8_feed 1 = .ok (.i2l, 1) := by decide +kernel
theorem dX8_feed_2 : decode cX8_feed 2 = .ok (.lconst 0, 1) := by decide +kernel
theorem dX8_feed_3 : decode cX8_feed 3 = .ok (.ldc2_w 135, 3) := by decide +kernel
theorem dX8_feed_6 : decode cX8_feed 6 = .ok (.invokestatic 106, 3) := by decide +kernel
theorem dX8_feed_9 : decode cX8_feed 9 = .ok (.ifCond .ne 6, 3) := by decide +kernel
theorem dX8_feed_12 : decode cX8_feed 12 = .ok (.bipush (-2), 2) := by decide +kernel
theorem dX8_feed_14 : decode cX8_feed 14 = .ok (.ireturn, 1) := by decide +kernel
theorem dX8_feed_15 : decode cX8_feed 15 = .ok (.aload_n 0, 1) := by decide +kernel
theorem dX8_feed_16 : decode cX8_feed 16 = .ok (.getfield 137, 3) := by decide +kernel
theorem dX8_feed_19 : decode cX8_feed 19 = .ok (.sipush 160, 3) := by decide +kernel
theorem dX8_feed_22 : decode cX8_feed 22 = .ok (.if_icmp .ne 6, 3) := by decide +kernel
theorem dX8_feed_25 : decode cX8_feed 25 = .ok (.bipush (-4), 2) := by decide +kernel
theorem dX8_feed_27 : decode cX8_feed 27 = .ok (.ireturn, 1) := by decide +kernel
theorem dX8_feed_28 : decode cX8_feed 28 = .ok (.aload_n 0, 1) := by decide +kernel
theorem dX8_feed_29 : decode cX8_feed 29 = .ok (.getfield 20, 3) := by decide +kernel
theorem dX8_feed_32 : decode cX8_feed 32 = .ok (.aload_n 0, 1) := by decide +kernel
theorem dX8_feed_33 : decode cX8_feed 33 = .ok (.getfield 137, 3) := by decide +kernel
theorem dX8_feed_36 : decode cX8_feed 36 = .ok (.iload_n 1, 1) := by decide +kernel
theorem dX8_feed_37 : decode cX8_feed 37 = .ok (.iastore, 1) := by decide +kernel
theorem dX8_feed_38 : decode cX8_feed 38 = .ok (.aload_n 0, 1) := by decide +kernel
theorem dX8_feed_39 : decode cX8_feed 39 = .ok (.dup, 1) := by decide +kernel
theorem dX8_feed_40 : decode cX8_feed 40 = .ok (.getfield 137, 3) := by decide +kernel
theorem dX8_feed_43 : decode cX8_feed 43 = .ok (.iconst 1, 1) := by decide +kernel
theorem dX8_feed_44 : decode cX8_feed 44 = .ok (.iadd, 1) := by decide +kernel
theorem dX8_feed_45 : decode cX8_feed 45 = .ok (.putfield 137, 3) := by decide +kernel
theorem dX8_feed_48 : decode cX8_feed 48 = .ok (.aload_n 0, 1) := by decide +kernel
theorem dX8_feed_49 : decode cX8_feed 49 = .ok (.getfield 137, 3) := by decide +kernel
theorem dX8_feed_52 : decode cX8_feed 52 = .ok (.ireturn, 1) := by decide +kernel
theorem dX8_byteAt_0 : decode cX8_byteAt 0 = .ok (.iload_n 1, 1) := by decide +kernel
theorem dX8_byteAt_1 : decode cX8_byteAt 1 = .ok (.aload_n 0, 1) := by decide +kernel
theorem dX8_byteAt_2 : decode cX8_byteAt 2 = .ok (.getfield 140, 3) := by decide +kernel
theorem dX8_byteAt_5 : decode cX8_byteAt 5 = .ok (.if_icmp .ge 17, 3) := by decide +kernel
theorem dX8_byteAt_8 : decode cX8_byteAt 8 = .ok (.aload_n 0, 1) := by decide +kernel
theorem dX8_byteAt_9 : decode cX8_byteAt 9 = .ok (.getfield 13, 3) := by decide +kernel
theorem dX8_byteAt_12 : decode cX8_byteAt 12 = .ok (.aload_n 0, 1) := by decide +kernel
theorem dX8_byteAt_13 : decode cX8_byteAt 13 = .ok (.getfield 143, 3) := by decide +kernel
theorem dX8_byteAt_16 : decode cX8_byteAt 16 = .ok (.iload_n 1, 1) := by decide +kernel
theorem dX8_byteAt_17 : decode cX8_byteAt 17 = .ok (.iadd, 1) := by decide +kernel
theorem dX8_byteAt_18 : decode cX8_byteAt 18 = .ok (.iaload, 1) := by decide +kernel
theorem dX8_byteAt_19 : decode cX8_byteAt 19 = .ok (.goto 4, 3) := by decide +kernel
theorem dX8_byteAt_22 : decode cX8_byteAt 22 = .ok (.iconst (-1), 1) := by decide +kernel
theorem dX8_byteAt_23 : decode cX8_byteAt 23 = .ok (.ireturn, 1) := by decide +kernel
theorem dX8_next_0 : decode cX8_next 0 = .ok (.aload_n 0, 1) := by decide +kernel
theorem dX8_next_1 : decode cX8_next 1 = .ok (.aload_n 0, 1) := by decide +kernel
theorem dX8_next_2 : decode cX8_next 2 = .ok (.getfield 146, 3) := by decide +kernel
theorem dX8_next_5 : decode cX8_next 5 = .ok (.invokevirtual 149, 3) := by decide +kernel
theorem dX8_next_8 : decode cX8_next 8 = .ok (.bipush 32, 2) := by decide +kernel
theorem dX8_next_10 : decode cX8_next 10 = .ok (.if_icmp .eq 16, 3) := by decide +kernel
theorem dX8_next_13 : decode cX8_next 13 = .ok (.aload_n 0, 1) := by decide +kernel
theorem dX8_next_14 : decode cX8_next 14 = .ok (.aload_n 0, 1) := by decide +kernel
theorem dX8_next_15 : decode cX8_next 15 = .ok (.getfield 146, 3) := by decide +kernel
theorem dX8_next_18 : decode cX8_next 18 = .ok (.invokevirtual 149, 3) := by decide +kernel
theorem dX8_next_21 : decode cX8_next 21 = .ok (.bipush 10, 2) := by decide +kernel
theorem dX8_next_23 : decode cX8_next 23 = .ok (.if_icmp .ne 16, 3) := by decide +kernel
theorem dX8_next_26 : decode cX8_next 26 = .ok (.aload_n 0, 1) := by decide +kernel
theorem dX8_next_27 : decode cX8_next 27 = .ok (.dup, 1) := by decide +kernel
theorem dX8_next_28 : decode cX8_next 28 = .ok (.getfield 146, 3) := by decide +kernel
theorem dX8_next_31 : decode cX8_next 31 = .ok (.iconst 1, 1) := by decide +kernel
theorem dX8_next_32 : decode cX8_next 32 = .ok (.iadd, 1) := by decide +kernel
theorem dX8_next_33 : decode cX8_next 33 = .ok (.putfield 146, 3) := by decide +kernel
theorem dX8_next_36 : decode cX8_next 36 = .ok (.goto (-36), 3) := by decide +kernel
theorem dX8_next_39 : decode cX8_next 39 = .ok (.aload_n 0, 1) := by decide +kernel
theorem dX8_next_40 : decode cX8_next 40 = .ok (.aload_n 0, 1) := by decide +kernel
theorem dX8_next_41 : decode cX8_next 41 = .ok (.getfield 146, 3) := by decide +kernel
theorem dX8_next_44 : decode cX8_next 44 = .ok (.putfield 152, 3) := by decide +kernel
theorem dX8_next_47 : decode cX8_next 47 = .ok (.aload_n 0, 1) := by decide +kernel
theorem dX8_next_48 : decode cX8_next 48 = .ok (.aload_n 0, 1) := by decide +kernel
theorem dX8_next_49 : decode cX8_next 49 = .ok (.getfield 146, 3) := by decide +kernel
theorem dX8_next_52 : decode cX8_next 52 = .ok (.invokevirtual 149, 3) := by decide +kernel
theorem dX8_next_55 : decode cX8_next 55 = .ok (.istore_n 1, 1) := by decide +kernel
theorem dX8_next_56 : decode cX8_next 56 = .ok (.aload_n 0, 1) := by decide +kernel
theorem dX8_next_57 : decode cX8_next 57 = .ok (.iconst 4, 1) := by decide +kernel
theorem dX8_next_58 : decode cX8_next 58 = .ok (.putfield 155, 3) := by decide +kernel
theorem dX8_next_61 : decode cX8_next 61 = .ok (.iload_n 1, 1) := by decide +kernel
theorem dX8_next_62 : decode cX8_next 62 = .ok (.ifCond .ge 19, 3) := by decide +kernel
theorem dX8_next_65 : decode cX8_next 65 = .ok (.aload_n 0, 1) := by decide +kernel
theorem dX8_next_66 : decode cX8_next 66 = .ok (.iconst 0, 1) := by decide +kernel
theorem dX8_next_67 : decode cX8_next 67 = .ok (.putfield 155, 3) := by decide +kernel
theorem dX8_next_70 : decode cX8_next 70 = .ok (.aload_n 0, 1) := by decide +kernel
theorem dX8_next_71 : decode cX8_next 71 = .ok (.aload_n 0, 1) := by decide +kernel
theorem dX8_next_72 : decode cX8_next 72 = .ok (.getfield 140, 3) := by decide +kernel
theorem dX8_next_75 : decode cX8_next 75 = .ok (.putfield 152, 3) := by decide +kernel
theorem dX8_next_78 : decode cX8_next 78 = .ok (.goto 243, 3) := by decide +kernel
theorem dX8_next_81 : decode cX8_next 81 = .ok (.iload_n 1, 1) := by decide +kernel
theorem dX8_next_82 : decode cX8_next 82 = .ok (.i2l, 1) := by decide +kernel
theorem dX8_next_83 : decode cX8_next 83 = .ok (.ldc2_w 158, 3) := by decide +kernel
theorem dX8_next_86 : decode cX8_next 86 = .ok (.ldc2_w 160, 3) := by decide +kernel
theorem dX8_next_89 : decode cX8_next 89 = .ok (.invokestatic 106, 3) := by decide +kernel
theorem dX8_next_92 : decode cX8_next 92 = .ok (.ifCond .eq 42, 3) := by decide +kernel
theorem dX8_next_95 : decode cX8_next 95 = .ok (.aload_n 0, 1) := by decide +kernel
theorem dX8_next_96 : decode cX8_next 96 = .ok (.iconst 1, 1) := by decide +kernel
theorem dX8_next_97 : decode cX8_next 97 = .ok (.putfield 155, 3) := by decide +kernel
theorem dX8_next_100 : decode cX8_next 100 = .ok (.aload_n 0, 1) := by decide +kernel
theorem dX8_next_101 : decode cX8_next 101 = .ok (.aload_n 0, 1) := by decide +kernel
theorem dX8_next_102 : decode cX8_next 102 = .ok (.getfield 146, 3) := by decide +kernel
theorem dX8_next_105 : decode cX8_next 105 = .ok (.invokevirtual 149, 3) := by decide +kernel
theorem dX8_next_108 : decode cX8_next 108 = .ok (.i2l, 1) := by decide +kernel
theorem dX8_next_109 : decode cX8_next 109 = .ok (.ldc2_w 158, 3) := by decide +kernel
theorem dX8_next_112 : decode cX8_next 112 = .ok (.ldc2_w 160, 3) := by decide +kernel
theorem dX8_next_115 : decode cX8_next 115 = .ok (.invokestatic 106, 3) := by decide +kernel
theorem dX8_next_118 : decode cX8_next 118 = .ok (.ifCond .eq 203, 3) := by decide +kernel
theorem dX8_next_121 : decode cX8_next 121 = .ok (.aload_n 0, 1) := by decide +kernel
theorem dX8_next_122 : decode cX8_next 122 = .ok (.dup, 1) := by decide +kernel
theorem dX8_next_123 : decode cX8_next 123 = .ok (.getfield 146, 3) := by decide +kernel
theorem dX8_next_126 : decode cX8_next 126 = .ok (.iconst 1, 1) := by decide +kernel
theorem dX8_next_127 : decode cX8_next 127 = .ok (.iadd, 1) := by decide +kernel
theorem dX8_next_128 : decode cX8_next 128 = .ok (.putfield 146, 3) := by decide +kernel
theorem dX8_next_131 : decode cX8_next 131 = .ok (.goto (-31), 3) := by decide +kernel
theorem dX8_next_134 : decode cX8_next 134 = .ok (.iload_n 1, 1) := by decide +kernel
theorem dX8_next_135 : decode cX8_next 135 = .ok (.i2l, 1) := by decide +kernel
theorem dX8_next_136 : decode cX8_next 136 = .ok (.ldc2_w 162, 3) := by decide +kernel
theorem dX8_next_139 : decode cX8_next 139 = .ok (.ldc2_w 164, 3) := by decide +kernel
theorem dX8_next_142 : decode cX8_next 142 = .ok (.invokestatic 106, 3) := by decide +kernel
theorem dX8_next_145 : decode cX8_next 145 = .ok (.ifCond .eq 107, 3) := by decide +kernel
theorem dX8_next_148 : decode cX8_next 148 = .ok (.aload_n 0, 1) := by decide +kernel
theorem dX8_next_149 : decode cX8_next 149 = .ok (.iconst 2, 1) := by decide +kernel
theorem dX8_next_150 : decode cX8_next 150 = .ok (.putfield 155, 3) := by decide +kernel
theorem dX8_next_153 : decode cX8_next 153 = .ok (.aload_n 0, 1) := by decide +kernel
theorem dX8_next_154 : decode cX8_next 154 = .ok (.lconst 0, 1) := by decide +kernel
theorem dX8_next_155 : decode cX8_next 155 = .ok (.putfield 166, 3) := by decide +kernel
theorem dX8_next_158 : decode cX8_next 158 = .ok (.iconst 0, 1) := by decide +kernel
theorem dX8_next_159 : decode cX8_next 159 = .ok (.istore_n 2, 1) := by decide +kernel
theorem dX8_next_160 : decode cX8_next 160 = .ok (.aload_n 0, 1) := by decide +kernel
theorem dX8_next_161 : decode cX8_next 161 = .ok (.aload_n 0, 1) := by decide +kernel
theorem dX8_next_162 : decode cX8_next 162 = .ok (.getfield 146, 3) := by decide +kernel
theorem dX8_next_165 : decode cX8_next 165 = .ok (.invokevirtual 149, 3) := by decide +kernel
theorem dX8_next_168 : decode cX8_next 168 = .ok (.i2l, 1) := by decide +kernel
theorem dX8_next_169 : decode cX8_next 169 = .ok (.ldc2_w 162, 3) := by decide +kernel
theorem dX8_next_172 : decode cX8_next 172 = .ok (.ldc2_w 164, 3) := by decide +kernel
theorem dX8_next_175 : decode cX8_next 175 = .ok (.invokestatic 106, 3) := by decide +kernel
theorem dX8_next_178 : decode cX8_next 178 = .ok (.ifCond .eq 57, 3) := by decide +kernel
theorem dX8_next_181 : decode cX8_next 181 = .ok (.aload_n 0, 1) := by decide +kernel
theorem dX8_next_182 : decode cX8_next 182 = .ok (.iload_n 2, 1) := by decide +kernel
theorem dX8_next_183 : decode cX8_next 183 = .ok (.iconst 4, 1) := by decide +kernel
theorem dX8_next_184 : decode cX8_next 184 = .ok (.if_icmp .ge 28, 3) := by decide +kernel
theorem dX8_next_187 : decode cX8_next 187 = .ok (.ldc2_w 112, 3) := by decide +kernel
theorem dX8_next_190 : decode cX8_next 190 = .ok (.aload_n 0, 1) := by decide +kernel
theorem dX8_next_191 : decode cX8_next 191 = .ok (.getfield 166, 3) := by decide +kernel
theorem dX8_next_194 : decode cX8_next 194 = .ok (.lmul, 1) := by decide +kernel
theorem dX8_next_195 : decode cX8_next 195 = .ok (.aload_n 0, 1) := by decide +kernel
theorem dX8_next_196 : decode cX8_next 196 = .ok (.aload_n 0, 1) := by decide +kernel
theorem dX8_next_197 : decode cX8_next 197 = .ok (.getfield 146, 3) := by decide +kernel
theorem dX8_next_200 : decode cX8_next 200 = .ok (.invokevirtual 149, 3) := by decide +kernel
theorem dX8_next_203 : decode cX8_next 203 = .ok (.i2l, 1) := by decide +kernel
theorem dX8_next_204 : decode cX8_next 204 = .ok (.ladd, 1) := by decide +kernel
theorem dX8_next_205 : decode cX8_next 205 = .ok (.ldc2_w 162, 3) := by decide +kernel
theorem dX8_next_208 : decode cX8_next 208 = .ok (.lsub, 1) := by decide +kernel
theorem dX8_next_209 : decode cX8_next 209 = .ok (.goto 7, 3) := by decide +kernel
theorem dX8_next_212 : decode cX8_next 212 = .ok (.aload_n 0, 1) := by decide +kernel
theorem dX8_next_213 : decode cX8_next 213 = .ok (.getfield 166, 3) := by decide +kernel
theorem dX8_next_216 : decode cX8_next 216 = .ok (.putfield 166, 3) := by decide +kernel
theorem dX8_next_219 : decode cX8_next 219 = .ok (.iinc 2 1, 3) := by decide +kernel
theorem dX8_next_222 : decode cX8_next 222 = .ok (.aload_n 0, 1) := by decide +kernel
theorem dX8_next_223 : decode cX8_next 223 = .ok (.dup, 1) := by decide +kernel
theorem dX8_next_224 : decode cX8_next 224 = .ok (.getfield 146, 3) := by decide +kernel
theorem dX8_next_227 : decode cX8_next 227 = .ok (.iconst 1, 1) := by decide +kernel
theorem dX8_next_228 : decode cX8_next 228 = .ok (.iadd, 1) := by decide +kernel
theorem dX8_next_229 : decode cX8_next 229 = .ok (.putfield 146, 3) := by decide +kernel
theorem dX8_next_232 : decode cX8_next 232 = .ok (.goto (-72), 3) := by decide +kernel
theorem dX8_next_235 : decode cX8_next 235 = .ok (.aload_n 0, 1) := by decide +kernel
theorem dX8_next_236 : decode cX8_next 236 = .ok (.iload_n 2, 1) := by decide +kernel
theorem dX8_next_237 : decode cX8_next 237 = .ok (.iconst 4, 1) := by decide +kernel
theorem dX8_next_238 : decode cX8_next 238 = .ok (.if_icmp .le 7, 3) := by decide +kernel
theorem dX8_next_241 : decode cX8_next 241 = .ok (.iconst 4, 1) := by decide +kernel
theorem dX8_next_242 : decode cX8_next 242 = .ok (.goto 4, 3) := by decide +kernel
theorem dX8_next_245 : decode cX8_next 245 = .ok (.iconst 2, 1) := by decide +kernel
theorem dX8_next_246 : decode cX8_next 246 = .ok (.putfield 155, 3) := by decide +kernel
theorem dX8_next_249 : decode cX8_next 249 = .ok (.goto 72, 3) := by decide +kernel
theorem dX8_next_252 : decode cX8_next 252 = .ok (.iload_n 1, 1) := by decide +kernel
theorem dX8_next_253 : decode cX8_next 253 = .ok (.bipush 40, 2) := by decide +kernel
theorem dX8_next_255 : decode cX8_next 255 = .ok (.if_icmp .eq 45, 3) := by decide +kernel
theorem dX8_next_258 : decode cX8_next 258 = .ok (.iload_n 1, 1) := by decide +kernel
theorem dX8_next_259 : decode cX8_next 259 = .ok (.bipush 41, 2) := by decide +kernel
theorem dX8_next_261 : decode cX8_next 261 = .ok (.if_icmp .eq 39, 3) := by decide +kernel
theorem dX8_next_264 : decode cX8_next 264 = .ok (.iload_n 1, 1) := by decide +kernel
theorem dX8_next_265 : decode cX8_next 265 = .ok (.bipush 59, 2) := by decide +kernel
theorem dX8_next_267 : decode cX8_next 267 = .ok (.if_icmp .eq 33, 3) := by decide +kernel
theorem dX8_next_270 : decode cX8_next 270 = .ok (.iload_n 1, 1) := by decide +kernel
theorem dX8_next_271 : decode cX8_next 271 = .ok (.bipush 43, 2) := by decide +kernel
theorem dX8_next_273 : decode cX8_next 273 = .ok (.if_icmp .eq 27, 3) := by decide +kernel
theorem dX8_next_276 : decode cX8_next 276 = .ok (.iload_n 1, 1) := by decide +kernel
theorem dX8_next_277 : decode cX8_next 277 = .ok (.bipush 45, 2) := by decide +kernel
theorem dX8_next_279 : decode cX8_next 279 = .ok (.if_icmp .eq 21, 3) := by decide +kernel
theorem dX8_next_282 : decode cX8_next 282 = .ok (.iload_n 1, 1) := by decide +kernel
theorem dX8_next_283 : decode cX8_next 283 = .ok (.bipush 42, 2) := by decide +kernel
theorem dX8_next_285 : decode cX8_next 285 = .ok (.if_icmp .eq 15, 3) := by decide +kernel
theorem dX8_next_288 : decode cX8_next 288 = .ok (.iload_n 1, 1) := by decide +kernel
theorem dX8_next_289 : decode cX8_next 289 = .ok (.bipush 60, 2) := by decide +kernel
theorem dX8_next_291 : decode cX8_next 291 = .ok (.if_icmp .eq 9, 3) := by decide +kernel
theorem dX8_next_294 : decode cX8_next 294 = .ok (.iload_n 1, 1) := by decide +kernel
theorem dX8_next_295 : decode cX8_next 295 = .ok (.bipush 61, 2) := by decide +kernel
theorem dX8_next_297 : decode cX8_next 297 = .ok (.if_icmp .ne 24, 3) := by decide +kernel
theorem dX8_next_300 : decode cX8_next 300 = .ok (.aload_n 0, 1) := by decide +kernel
theorem dX8_next_301 : decode cX8_next 301 = .ok (.iconst 3, 1) := by decide +kernel
theorem dX8_next_302 : decode cX8_next 302 = .ok (.putfield 155, 3) := by decide +kernel
theorem dX8_next_305 : decode cX8_next 305 = .ok (.aload_n 0, 1) := by decide +kernel
theorem dX8_next_306 : decode cX8_next 306 = .ok (.iload_n 1, 1) := by decide +kernel
theorem dX8_next_307 : decode cX8_next 307 = .ok (.i2l, 1) := by decide +kernel
theorem dX8_next_308 : decode cX8_next 308 = .ok (.putfield 166, 3) := by decide +kernel
theorem dX8_next_311 : decode cX8_next 311 = .ok (.aload_n 0, 1) := by decide +kernel
theorem dX8_next_312 : decode cX8_next 312 = .ok (.dup, 1) := by decide +kernel
theorem dX8_next_313 : decode cX8_next 313 = .ok (.getfield 146, 3) := by decide +kernel
theorem dX8_next_316 : decode cX8_next 316 = .ok (.iconst 1, 1) := by decide +kernel
theorem dX8_next_317 : decode cX8_next 317 = .ok (.iadd, 1) := by decide +kernel
theorem dX8_next_318 : decode cX8_next 318 = .ok (.putfield 146, 3) := by decide +kernel
theorem dX8_next_321 : decode cX8_next 321 = .ok (.return_, 1) := by decide +kernel
theorem dX8_fail_0 : decode cX8_fail 0 = .ok (.aload_n 0, 1) := by decide +kernel
theorem dX8_fail_1 : decode cX8_fail 1 = .ok (.getfield 170, 3) := by decide +kernel
theorem dX8_fail_4 : decode cX8_fail 4 = .ok (.ifCond .ne 16, 3) := by decide +kernel
theorem dX8_fail_7 : decode cX8_fail 7 = .ok (.aload_n 0, 1) := by decide +kernel
theorem dX8_fail_8 : decode cX8_fail 8 = .ok (.iconst 1, 1) := by decide +kernel
theorem dX8_fail_9 : decode cX8_fail 9 = .ok (.putfield 170, 3) := by decide +kernel
theorem dX8_fail_12 : decode cX8_fail 12 = .ok (.aload_n 0, 1) := by decide +kernel
theorem dX8_fail_13 : decode cX8_fail 13 = .ok (.aload_n 0, 1) := by decide +kernel
theorem dX8_fail_14 : decode cX8_fail 14 = .ok (.getfield 152, 3) := by decide +kernel
theorem dX8_fail_17 : decode cX8_fail 17 = .ok (.putfield 174, 3) := by decide +kernel
theorem dX8_fail_20 : decode cX8_fail 20 = .ok (.return_, 1) := by decide +kernel
theorem dX8_isLetter_0 : decode cX8_isLetter 0 = .ok (.aload_n 0, 1) := by decide +kernel
theorem dX8_isLetter_1 : decode cX8_isLetter 1 = .ok (.getfield 152, 3) := by decide +kernel
theorem dX8_isLetter_4 : decode cX8_isLetter 4 = .ok (.iload_n 1, 1) := by decide +kernel
theorem dX8_isLetter_5 : decode cX8_isLetter 5 = .ok (.iadd, 1) := by decide +kernel
theorem dX8_isLetter_6 : decode cX8_isLetter 6 = .ok (.aload_n 0, 1) := by decide +kernel
theorem dX8_isLetter_7 : decode cX8_isLetter 7 = .ok (.getfield 146, 3) := by decide +kernel
theorem dX8_isLetter_10 : decode cX8_isLetter 10 = .ok (.if_icmp .ge 25, 3) := by decide +kernel
theorem dX8_isLetter_13 : decode cX8_isLetter 13 = .ok (.aload_n 0, 1) := by decide +kernel
theorem dX8_isLetter_14 : decode cX8_isLetter 14 = .ok (.aload_n 0, 1) := by decide +kernel
theorem dX8_isLetter_15 : decode cX8_isLetter 15 = .ok (.getfield 152, 3) := by decide +kernel
theorem dX8_isLetter_18 : decode cX8_isLetter 18 = .ok (.iload_n 1, 1) := by decide +kernel
theorem dX8_isLetter_19 : decode cX8_isLetter 19 = .ok (.iadd, 1) := by decide +kernel
theorem dX8_isLetter_20 : decode cX8_isLetter 20 = .ok (.invokevirtual 149, 3) := by decide +kernel
theorem dX8_isLetter_23 : decode cX8_isLetter 23 = .ok (.iload_n 2, 1) := by decide +kernel
theorem dX8_isLetter_24 : decode cX8_isLetter 24 = .ok (.if_icmp .ne 7, 3) := by decide +kernel
theorem dX8_isLetter_27 : decode cX8_isLetter 27 = .ok (.iconst 1, 1) := by decide +kernel
theorem dX8_isLetter_28 : decode cX8_isLetter 28 = .ok (.goto 16, 3) := by decide +kernel
theorem dX8_isLetter_31 : decode cX8_isLetter 31 = .ok (.iconst 0, 1) := by decide +kernel
theorem dX8_isLetter_32 : decode cX8_isLetter 32 = .ok (.goto 12, 3) := by decide +kernel
theorem dX8_isLetter_35 : decode cX8_isLetter 35 = .ok (.iload_n 2, 1) := by decide +kernel
theorem dX8_isLetter_36 : decode cX8_isLetter 36 = .ok (.ifCond .ne 7, 3) := by decide +kernel
theorem dX8_isLetter_39 : decode cX8_isLetter 39 = .ok (.iconst 1, 1) := by decide +kernel
theorem dX8_isLetter_40 : decode cX8_isLetter 40 = .ok (.goto 4, 3) := by decide +kernel
theorem dX8_isLetter_43 : decode cX8_isLetter 43 = .ok (.iconst 0, 1) := by decide +kernel
theorem dX8_isLetter_44 : decode cX8_isLetter 44 = .ok (.ireturn, 1) := by decide +kernel
theorem dX8_isWord_0 : decode cX8_isWord 0 = .ok (.aload_n 0, 1) := by decide +kernel
theorem dX8_isWord_1 : decode cX8_isWord 1 = .ok (.getfield 170, 3) := by decide +kernel
theorem dX8_isWord_4 : decode cX8_isWord 4 = .ok (.ifCond .ne 108, 3) := by decide +kernel
theorem dX8_isWord_7 : decode cX8_isWord 7 = .ok (.aload_n 0, 1) := by decide +kernel
theorem dX8_isWord_8 : decode cX8_isWord 8 = .ok (.getfield 155, 3) := by decide +kernel
theorem dX8_isWord_11 : decode cX8_isWord 11 = .ok (.iconst 1, 1) := by decide +kernel
theorem dX8_isWord_12 : decode cX8_isWord 12 = .ok (.if_icmp .ne 100, 3) := by decide +kernel
theorem dX8_isWord_15 : decode cX8_isWord 15 = .ok (.aload_n 0, 1) := by decide +kernel
theorem dX8_isWord_16 : decode cX8_isWord 16 = .ok (.getfield 146, 3) := by decide +kernel
theorem dX8_isWord_19 : decode cX8_isWord 19 = .ok (.aload_n 0, 1) := by decide +kernel
theorem dX8_isWord_20 : decode cX8_isWord 20 = .ok (.getfield 152, 3) := by decide +kernel
theorem dX8_isWord_23 : decode cX8_isWord 23 = .ok (.bipush 8, 2) := by decide +kernel
theorem dX8_isWord_25 : decode cX8_isWord 25 = .ok (.iadd, 1) := by decide +kernel
theorem dX8_isWord_26 : decode cX8_isWord 26 = .ok (.if_icmp .gt 86, 3) := by decide +kernel
theorem dX8_isWord_29 : decode cX8_isWord 29 = .ok (.aload_n 0, 1) := by decide +kernel
theorem dX8_isWord_30 : decode cX8_isWord 30 = .ok (.iconst 0, 1) := by decide +kernel
theorem dX8_isWord_31 : decode cX8_isWord 31 = .ok (.iload_n 1, 1) := by decide +kernel
theorem dX8_isWord_32 : decode cX8_isWord 32 = .ok (.invokevirtual 177, 3) := by decide +kernel
theorem dX8_isWord_35 : decode cX8_isWord 35 = .ok (.ifCond .eq 77, 3) := by decide +kernel
theorem dX8_isWord_38 : decode cX8_isWord 38 = .ok (.aload_n 0, 1) := by decide +kernel
theorem dX8_isWord_39 : decode cX8_isWord 39 = .ok (.iconst 1, 1) := by decide +kernel
theorem dX8_isWord_40 : decode cX8_isWord 40 = .ok (.iload_n 2, 1) := by decide +kernel
theorem dX8_isWord_41 : decode cX8_isWord 41 = .ok (.invokevirtual 177, 3) := by decide +kernel
theorem dX8_isWord_44 : decode cX8_isWord 44 = .ok (.ifCond .eq 68, 3) := by decide +kernel
theorem dX8_isWord_47 : decode cX8_isWord 47 = .ok (.aload_n 0, 1) := by decide +kernel
theorem dX8_isWord_48 : decode cX8_isWord 48 = .ok (.iconst 2, 1) := by decide +kernel
theorem dX8_isWord_49 : decode cX8_isWord 49 = .ok (.iload_n 3, 1) := by decide +kernel
theorem dX8_isWord_50 : decode cX8_isWord 50 = .ok (.invokevirtual 177, 3) := by decide +kernel
theorem dX8_isWord_53 : decode cX8_isWord 53 = .ok (.ifCond .eq 59, 3) := by decide +kernel
theorem dX8_isWord_56 : decode cX8_isWord 56 = .ok (.aload_n 0, 1) := by decide +kernel
theorem dX8_isWord_57 : decode cX8_isWord 57 = .ok (.iconst 3, 1) := by decide +kernel
theorem dX8_isWord_58 : decode cX8_isWord 58 = .ok (.iload 4, 2) := by decide +kernel
theorem dX8_isWord_60 : decode cX8_isWord 60 = .ok (.invokevirtual 177, 3) := by decide +kernel
theorem dX8_isWord_63 : decode cX8_isWord 63 = .ok (.ifCond .eq 49, 3) := by decide +kernel
theorem dX8_isWord_66 : decode cX8_isWord 66 = .ok (.aload_n 0, 1) := by decide +kernel
theorem dX8_isWord_67 : decode cX8_isWord 67 = .ok (.iconst 4, 1) := by decide +kernel
theorem dX8_isWord_68 : decode cX8_isWord 68 = .ok (.iload 5, 2) := by decide +kernel
theorem dX8_isWord_70 : decode cX8_isWord 70 = .ok (.invokevirtual 177, 3) := by decide +kernel
theorem dX8_isWord_73 : decode cX8_isWord 73 = .ok (.ifCond .eq 39, 3) := by decide +kernel
theorem dX8_isWord_76 : decode cX8_isWord 76 = .ok (.aload_n 0, 1) := by decide +kernel
theorem dX8_isWord_77 : decode cX8_isWord 77 = .ok (.iconst 5, 1) := by decide +kernel
theorem dX8_isWord_78 : decode cX8_isWord 78 = .ok (.iload 6, 2) := by decide +kernel
theorem dX8_isWord_80 : decode cX8_isWord 80 = .ok (.invokevirtual 177, 3) := by decide +kernel
theorem dX8_isWord_83 : decode cX8_isWord 83 = .ok (.ifCond .eq 29, 3) := by decide +kernel
theorem dX8_isWord_86 : decode cX8_isWord 86 = .ok (.aload_n 0, 1) := by decide +kernel
theorem dX8_isWord_87 : decode cX8_isWord 87 = .ok (.bipush 6, 2) := by decide +kernel
theorem dX8_isWord_89 : decode cX8_isWord 89 = .ok (.iload 7, 2) := by decide +kernel
theorem dX8_isWord_91 : decode cX8_isWord 91 = .ok (.invokevirtual 177, 3) := by decide +kernel
theorem dX8_isWord_94 : decode cX8_isWord 94 = .ok (.ifCond .eq 18, 3) := by decide +kernel
theorem dX8_isWord_97 : decode cX8_isWord 97 = .ok (.aload_n 0, 1) := by decide +kernel
theorem dX8_isWord_98 : decode cX8_isWord 98 = .ok (.bipush 7, 2) := by decide +kernel
theorem dX8_isWord_100 : decode cX8_isWord 100 = .ok (.iload 8, 2) := by decide +kernel
theorem dX8_isWord_102 : decode cX8_isWord 102 = .ok (.invokevirtual 177, 3) := by decide +kernel
theorem dX8_isWord_105 : decode cX8_isWord 105 = .ok (.ifCond .eq 7, 3) := by decide +kernel
theorem dX8_isWord_108 : decode cX8_isWord 108 = .ok (.iconst 1, 1) := by decide +kernel
theorem dX8_isWord_109 : decode cX8_isWord 109 = .ok (.goto 4, 3) := by decide +kernel
theorem dX8_isWord_112 : decode cX8_isWord 112 = .ok (.iconst 0, 1) := by decide +kernel
theorem dX8_isWord_113 : decode cX8_isWord 113 = .ok (.ireturn, 1) := by decide +kernel
theorem dX8_isSign_0 : decode cX8_isSign 0 = .ok (.aload_n 0, 1) := by decide +kernel
theorem dX8_isSign_1 : decode cX8_isSign 1 = .ok (.getfield 170, 3) := by decide +kernel
theorem dX8_isSign_4 : decode cX8_isSign 4 = .ok (.ifCond .ne 25, 3) := by decide +kernel
theorem dX8_isSign_7 : decode cX8_isSign 7 = .ok (.aload_n 0, 1) := by decide +kernel
theorem dX8_isSign_8 : decode cX8_isSign 8 = .ok (.getfield 155, 3) := by decide +kernel
theorem dX8_isSign_11 : decode cX8_isSign 11 = .ok (.iconst 3, 1) := by decide +kernel
theorem dX8_isSign_12 : decode cX8_isSign 12 = .ok (.if_icmp .ne 17, 3) := by decide +kernel
theorem dX8_isSign_15 : decode cX8_isSign 15 = .ok (.aload_n 0, 1) := by decide +kernel
theorem dX8_isSign_16 : decode cX8_isSign 16 = .ok (.getfield 166, 3) := by decide +kernel
theorem dX8_isSign_19 : decode cX8_isSign 19 = .ok (.iload_n 1, 1) := by decide +kernel
theorem dX8_isSign_20 : decode cX8_isSign 20 = .ok (.i2l, 1) := by decide +kernel
theorem dX8_isSign_21 : decode cX8_isSign 21 = .ok (.lcmp, 1) := by decide +kernel
theorem dX8_isSign_22 : decode cX8_isSign 22 = .ok (.ifCond .ne 7, 3) := by decide +kernel
theorem dX8_isSign_25 : decode cX8_isSign 25 = .ok (.iconst 1, 1) := by decide +kernel
theorem dX8_isSign_26 : decode cX8_isSign 26 = .ok (.goto 4, 3) := by decide +kernel
theorem dX8_isSign_29 : decode cX8_isSign 29 = .ok (.iconst 0, 1) := by decide +kernel
theorem dX8_isSign_30 : decode cX8_isSign 30 = .ok (.ireturn, 1) := by decide +kernel
theorem dX8_opens_0 : decode cX8_opens 0 = .ok (.aload_n 0, 1) := by decide +kernel
theorem dX8_opens_1 : decode cX8_opens 1 = .ok (.getfield 181, 3) := by decide +kernel
theorem dX8_opens_4 : decode cX8_opens 4 = .ok (.iconst 5, 1) := by decide +kernel
theorem dX8_opens_5 : decode cX8_opens 5 = .ok (.if_icmp .ne 9, 3) := by decide +kernel
theorem dX8_opens_8 : decode cX8_opens 8 = .ok (.aload_n 0, 1) := by decide +kernel
theorem dX8_opens_9 : decode cX8_opens 9 = .ok (.invokevirtual 184, 3) := by decide +kernel
theorem dX8_opens_12 : decode cX8_opens 12 = .ok (.iconst 0, 1) := by decide +kernel
theorem dX8_opens_13 : decode cX8_opens 13 = .ok (.ireturn, 1) := by decide +kernel
theorem dX8_opens_14 : decode cX8_opens 14 = .ok (.aload_n 0, 1) := by decide +kernel
theorem dX8_opens_15 : decode cX8_opens 15 = .ok (.dup, 1) := by decide +kernel
theorem dX8_opens_16 : decode cX8_opens 16 = .ok (.getfield 181, 3) := by decide +kernel
theorem dX8_opens_19 : decode cX8_opens 19 = .ok (.iconst 1, 1) := by decide +kernel
theorem dX8_opens_20 : decode cX8_opens 20 = .ok (.iadd, 1) := by decide +kernel
theorem dX8_opens_21 : decode cX8_opens 21 = .ok (.putfield 181, 3) := by decide +kernel
theorem dX8_opens_24 : decode cX8_opens 24 = .ok (.aload_n 0, 1) := by decide +kernel
theorem dX8_opens_25 : decode cX8_opens 25 = .ok (.invokevirtual 187, 3) := by decide +kernel
theorem dX8_opens_28 : decode cX8_opens 28 = .ok (.iconst 1, 1) := by decide +kernel
theorem dX8_opens_29 : decode cX8_opens 29 = .ok (.ireturn, 1) := by decide +kernel
theorem dX8_name_0 : decode cX8_name 0 = .ok (.aload_n 0, 1) := by decide +kernel
theorem dX8_name_1 : decode cX8_name 1 = .ok (.bipush 111, 2) := by decide +kernel
theorem dX8_name_3 : decode cX8_name 3 = .ok (.bipush 110, 2) := by decide +kernel
theorem dX8_name_5 : decode cX8_name 5 = .ok (.bipush 101, 2) := by decide +kernel
theorem dX8_name_7 : decode cX8_name 7 = .ok (.iconst 0, 1) := by decide +kernel
theorem dX8_name_8 : decode cX8_name 8 = .ok (.iconst 0, 1) := by decide +kernel
theorem dX8_name_9 : decode cX8_name 9 = .ok (.iconst 0, 1) := by decide +kernel
theorem dX8_name_10 : decode cX8_name 10 = .ok (.iconst 0, 1) := by decide +kernel
theorem dX8_name_11 : decode cX8_name 11 = .ok (.iconst 0, 1) := by decide +kernel
theorem dX8_name_12 : decode cX8_name 12 = .ok (.invokevirtual 190, 3) := by decide +kernel
theorem dX8_name_15 : decode cX8_name 15 = .ok (.ifCond .eq 8, 3) := by decide +kernel
theorem dX8_name_18 : decode cX8_name 18 = .ok (.aload_n 0, 1) := by decide +kernel
theorem dX8_name_19 : decode cX8_name 19 = .ok (.getfield 194, 3) := by decide +kernel
theorem dX8_name_22 : decode cX8_name 22 = .ok (.ireturn, 1) := by decide +kernel
theorem dX8_name_23 : decode cX8_name 23 = .ok (.aload_n 0, 1) := by decide +kernel
theorem dX8_name_24 : decode cX8_name 24 = .ok (.bipush 111, 2) := by decide +kernel
theorem dX8_name_26 : decode cX8_name 26 = .ok (.bipush 116, 2) := by decide +kernel
theorem dX8_name_28 : decode cX8_name 28 = .ok (.bipush 104, 2) := by decide +kernel
theorem dX8_name_30 : decode cX8_name 30 = .ok (.bipush 101, 2) := by decide +kernel
theorem dX8_name_32 : decode cX8_name 32 = .ok (.bipush 114, 2) := by decide +kernel
theorem dX8_name_34 : decode cX8_name 34 = .ok (.iconst 0, 1) := by decide +kernel
theorem dX8_name_35 : decode cX8_name 35 = .ok (.iconst 0, 1) := by decide +kernel
theorem dX8_name_36 : decode cX8_name 36 = .ok (.iconst 0, 1) := by decide +kernel
theorem dX8_name_37 : decode cX8_name 37 = .ok (.invokevirtual 190, 3) := by decide +kernel
theorem dX8_name_40 : decode cX8_name 40 = .ok (.ifCond .eq 8, 3) := by decide +kernel
theorem dX8_name_43 : decode cX8_name 43 = .ok (.aload_n 0, 1) := by decide +kernel
theorem dX8_name_44 : decode cX8_name 44 = .ok (.getfield 197, 3) := by decide +kernel
theorem dX8_name_47 : decode cX8_name 47 = .ok (.ireturn, 1) := by decide +kernel
theorem dX8_name_48 : decode cX8_name 48 = .ok (.aload_n 0, 1) := by decide +kernel
theorem dX8_name_49 : decode cX8_name 49 = .ok (.bipush 112, 2) := by decide +kernel
theorem dX8_name_51 : decode cX8_name 51 = .ok (.bipush 97, 2) := by decide +kernel
theorem dX8_name_53 : decode cX8_name 53 = .ok (.bipush 99, 2) := by decide +kernel
theorem dX8_name_55 : decode cX8_name 55 = .ok (.bipush 101, 2) := by decide +kernel
theorem dX8_name_57 : decode cX8_name 57 = .ok (.iconst 0, 1) := by decide +kernel
theorem dX8_name_58 : decode cX8_name 58 = .ok (.iconst 0, 1) := by decide +kernel
theorem dX8_name_59 : decode cX8_name 59 = .ok (.iconst 0, 1) := by decide +kernel
theorem dX8_name_60 : decode cX8_name 60 = .ok (.iconst 0, 1) := by decide +kernel
theorem dX8_name_61 : decode cX8_name 61 = .ok (.invokevirtual 190, 3) := by decide +kernel
theorem dX8_name_64 : decode cX8_name 64 = .ok (.ifCond .eq 8, 3) := by decide +kernel
theorem dX8_name_67 : decode cX8_name 67 = .ok (.aload_n 0, 1) := by decide +kernel
theorem dX8_name_68 : decode cX8_name 68 = .ok (.getfield 200, 3) := by decide +kernel
theorem dX8_name_71 : decode cX8_name 71 = .ok (.ireturn, 1) := by decide +kernel
theorem dX8_name_72 : decode cX8_name 72 = .ok (.aload_n 0, 1) := by decide +kernel
theorem dX8_name_73 : decode cX8_name 73 = .ok (.bipush 110, 2) := by decide +kernel
theorem dX8_name_75 : decode cX8_name 75 = .ok (.bipush 101, 2) := by decide +kernel
theorem dX8_name_77 : decode cX8_name 77 = .ok (.bipush 97, 2) := by decide +kernel
theorem dX8_name_79 : decode cX8_name 79 = .ok (.bipush 114, 2) := by decide +kernel
theorem dX8_name_81 : decode cX8_name 81 = .ok (.iconst 0, 1) := by decide +kernel
theorem dX8_name_82 : decode cX8_name 82 = .ok (.iconst 0, 1) := by decide +kernel
theorem dX8_name_83 : decode cX8_name 83 = .ok (.iconst 0, 1) := by decide +kernel
theorem dX8_name_84 : decode cX8_name 84 = .ok (.iconst 0, 1) := by decide +kernel
theorem dX8_name_85 : decode cX8_name 85 = .ok (.invokevirtual 190, 3) := by decide +kernel
theorem dX8_name_88 : decode cX8_name 88 = .ok (.ifCond .eq 8, 3) := by decide +kernel
theorem dX8_name_91 : decode cX8_name 91 = .ok (.aload_n 0, 1) := by decide +kernel
theorem dX8_name_92 : decode cX8_name 92 = .ok (.getfield 203, 3) := by decide +kernel
theorem dX8_name_95 : decode cX8_name 95 = .ok (.ireturn, 1) := by decide +kernel
theorem dX8_name_96 : decode cX8_name 96 = .ok (.aload_n 0, 1) := by decide +kernel
theorem dX8_name_97 : decode cX8_name 97 = .ok (.bipush 109, 2) := by decide +kernel
theorem dX8_name_99 : decode cX8_name 99 = .ok (.bipush 97, 2) := by decide +kernel
theorem dX8_name_101 : decode cX8_name 101 = .ok (.bipush 110, 2) := by decide +kernel
theorem dX8_name_103 : decode cX8_name 103 = .ok (.bipush 121, 2) := by decide +kernel
theorem dX8_name_105 : decode cX8_name 105 = .ok (.iconst 0, 1) := by decide +kernel
theorem dX8_name_106 : decode cX8_name 106 = .ok (.iconst 0, 1) := by decide +kernel
theorem dX8_name_107 : decode cX8_name 107 = .ok (.iconst 0, 1) := by decide +kernel
theorem dX8_name_108 : decode cX8_name 108 = .ok (.iconst 0, 1) := by decide +kernel
theorem dX8_name_109 : decode cX8_name 109 = .ok (.invokevirtual 190, 3) := by decide +kernel
theorem dX8_name_112 : decode cX8_name 112 = .ok (.ifCond .eq 8, 3) := by decide +kernel
theorem dX8_name_115 : decode cX8_name 115 = .ok (.aload_n 0, 1) := by decide +kernel
theorem dX8_name_116 : decode cX8_name 116 = .ok (.getfield 206, 3) := by decide +kernel
theorem dX8_name_119 : decode cX8_name 119 = .ok (.ireturn, 1) := by decide +kernel
theorem dX8_name_120 : decode cX8_name 120 = .ok (.aload_n 0, 1) := by decide +kernel
theorem dX8_name_121 : decode cX8_name 121 = .ok (.bipush 104, 2) := by decide +kernel
theorem dX8_name_123 : decode cX8_name 123 = .ok (.bipush 97, 2) := by decide +kernel
theorem dX8_name_125 : decode cX8_name 125 = .ok (.bipush 110, 2) := by decide +kernel
theorem dX8_name_127 : decode cX8_name 127 = .ok (.bipush 100, 2) := by decide +kernel
theorem dX8_name_129 : decode cX8_name 129 = .ok (.iconst 0, 1) := by decide +kernel
theorem dX8_name_130 : decode cX8_name 130 = .ok (.iconst 0, 1) := by decide +kernel
theorem dX8_name_131 : decode cX8_name 131 = .ok (.iconst 0, 1) := by decide +kernel
theorem dX8_name_132 : decode cX8_name 132 = .ok (.iconst 0, 1) := by decide +kernel
theorem dX8_name_133 : decode cX8_name 133 = .ok (.invokevirtual 190, 3) := by decide +kernel
theorem dX8_name_136 : decode cX8_name 136 = .ok (.ifCond .eq 8, 3) := by decide +kernel
theorem dX8_name_139 : decode cX8_name 139 = .ok (.aload_n 0, 1) := by decide +kernel
theorem dX8_name_140 : decode cX8_name 140 = .ok (.getfield 209, 3) := by decide +kernel
theorem dX8_name_143 : decode cX8_name 143 = .ok (.ireturn, 1) := by decide +kernel
theorem dX8_name_144 : decode cX8_name 144 = .ok (.aload_n 0, 1) := by decide +kernel
theorem dX8_name_145 : decode cX8_name 145 = .ok (.invokevirtual 184, 3) := by decide +kernel
theorem dX8_name_148 : decode cX8_name 148 = .ok (.iconst 0, 1) := by decide +kernel
theorem dX8_name_149 : decode cX8_name 149 = .ok (.ireturn, 1) := by decide +kernel
theorem dX8_atom_0 : decode cX8_atom 0 = .ok (.iconst 0, 1) := by decide +kernel
theorem dX8_atom_1 : decode cX8_atom 1 = .ok (.istore_n 1, 1) := by decide +kernel
theorem dX8_atom_2 : decode cX8_atom 2 = .ok (.aload_n 0, 1) := by decide +kernel
theorem dX8_atom_3 : decode cX8_atom 3 = .ok (.bipush 45, 2) := by decide +kernel
theorem dX8_atom_5 : decode cX8_atom 5 = .ok (.invokevirtual 212, 3) := by decide +kernel
theorem dX8_atom_8 : decode cX8_atom 8 = .ok (.ifCond .eq 29, 3) := by decide +kernel
theorem dX8_atom_11 : decode cX8_atom 11 = .ok (.aload_n 0, 1) := by decide +kernel
theorem dX8_atom_12 : decode cX8_atom 12 = .ok (.invokevirtual 215, 3) := by decide +kernel
theorem dX8_atom_15 : decode cX8_atom 15 = .ok (.ifCond .eq 146, 3) := by decide +kernel
theorem dX8_atom_18 : decode cX8_atom 18 = .ok (.aload_n 0, 1) := by decide +kernel
theorem dX8_atom_19 : decode cX8_atom 19 = .ok (.invokevirtual 219, 3) := by decide +kernel
theorem dX8_atom_22 : decode cX8_atom 22 = .ok (.ineg, 1) := by decide +kernel
theorem dX8_atom_23 : decode cX8_atom 23 = .ok (.istore_n 1, 1) := by decide +kernel
theorem dX8_atom_24 : decode cX8_atom 24 = .ok (.aload_n 0, 1) := by decide +kernel
theorem dX8_atom_25 : decode cX8_atom 25 = .ok (.dup, 1) := by decide +kernel
theorem dX8_atom_26 : decode cX8_atom 26 = .ok (.getfield 181, 3) := by decide +kernel
theorem dX8_atom_29 : decode cX8_atom 29 = .ok (.iconst 1, 1) := by decide +kernel
theorem dX8_atom_30 : decode cX8_atom 30 = .ok (.isub, 1) := by decide +kernel
theorem dX8_atom_31 : decode cX8_atom 31 = .ok (.putfield 181, 3) := by decide +kernel
theorem dX8_atom_34 : decode cX8_atom 34 = .ok (.goto 127, 3) := by decide +kernel
theorem dX8_atom_37 : decode cX8_atom 37 = .ok (.aload_n 0, 1) := by decide +kernel
theorem dX8_atom_38 : decode cX8_atom 38 = .ok (.bipush 40, 2) := by decide +kernel
theorem dX8_atom_40 : decode cX8_atom 40 = .ok (.invokevirtual 212, 3) := by decide +kernel
theorem dX8_atom_43 : decode cX8_atom 43 = .ok (.ifCond .eq 52, 3) := by decide +kernel
theorem dX8_atom_46 : decode cX8_atom 46 = .ok (.aload_n 0, 1) := by decide +kernel
theorem dX8_atom_47 : decode cX8_atom 47 = .ok (.invokevirtual 215, 3) := by decide +kernel
theorem dX8_atom_50 : decode cX8_atom 50 = .ok (.ifCond .eq 111, 3) := by decide +kernel
theorem dX8_atom_53 : decode cX8_atom 53 = .ok (.aload_n 0, 1) := by decide +kernel
theorem dX8_atom_54 : decode cX8_atom 54 = .ok (.invokevirtual 223, 3) := by decide +kernel
theorem dX8_atom_57 : decode cX8_atom 57 = .ok (.istore_n 1, 1) := by decide +kernel
theorem dX8_atom_58 : decode cX8_atom 58 = .ok (.aload_n 0, 1) := by decide +kernel
theorem dX8_atom_59 : decode cX8_atom 59 = .ok (.bipush 41, 2) := by decide +kernel
theorem dX8_atom_61 : decode cX8_atom 61 = .ok (.invokevirtual 212, 3) := by decide +kernel
theorem dX8_atom_64 : decode cX8_atom 64 = .ok (.ifCond .ne 7, 3) := by decide +kernel
theorem dX8_atom_67 : decode cX8_atom 67 = .ok (.aload_n 0, 1) := by decide +kernel
theorem dX8_atom_68 : decode cX8_atom 68 = .ok (.invokevirtual 184, 3) := by decide +kernel
theorem dX8_atom_71 : decode cX8_atom 71 = .ok (.aload_n 0, 1) := by decide +kernel
theorem dX8_atom_72 : decode cX8_atom 72 = .ok (.dup, 1) := by decide +kernel
theorem dX8_atom_73 : decode cX8_atom 73 = .ok (.getfield 181, 3) := by decide +kernel
theorem dX8_atom_76 : decode cX8_atom 76 = .ok (.iconst 1, 1) := by decide +kernel
theorem dX8_atom_77 : decode cX8_atom 77 = .ok (.isub, 1) := by decide +kernel
theorem dX8_atom_78 : decode cX8_atom 78 = .ok (.putfield 181, 3) := by decide +kernel
theorem dX8_atom_81 : decode cX8_atom 81 = .ok (.aload_n 0, 1) := by decide +kernel
theorem dX8_atom_82 : decode cX8_atom 82 = .ok (.getfield 170, 3) := by decide +kernel
theorem dX8_atom_85 : decode cX8_atom 85 = .ok (.ifCond .ne 76, 3) := by decide +kernel
theorem dX8_atom_88 : decode cX8_atom 88 = .ok (.aload_n 0, 1) := by decide +kernel
theorem dX8_atom_89 : decode cX8_atom 89 = .ok (.invokevirtual 187, 3) := by decide +kernel
theorem dX8_atom_92 : decode cX8_atom 92 = .ok (.goto 69, 3) := by decide +kernel
theorem dX8_atom_95 : decode cX8_atom 95 = .ok (.aload_n 0, 1) := by decide +kernel
theorem dX8_atom_96 : decode cX8_atom 96 = .ok (.getfield 170, 3) := by decide +kernel
theorem dX8_atom_99 : decode cX8_atom 99 = .ok (.ifCond .ne 24, 3) := by decide +kernel
theorem dX8_atom_102 : decode cX8_atom 102 = .ok (.aload_n 0, 1) := by decide +kernel
theorem dX8_atom_103 : decode cX8_atom 103 = .ok (.getfield 155, 3) := by decide +kernel
theorem dX8_atom_106 : decode cX8_atom 106 = .ok (.iconst 2, 1) := by decide +kernel
theorem dX8_atom_107 : decode cX8_atom 107 = .ok (.if_icmp .ne 16, 3) := by decide +kernel
theorem dX8_atom_110 : decode cX8_atom 110 = .ok (.aload_n 0, 1) := by decide +kernel
theorem dX8_atom_111 : decode cX8_atom 111 = .ok (.getfield 166, 3) := by decide +kernel
theorem dX8_atom_114 : decode cX8_atom 114 = .ok (.l2i, 1) := by decide +kernel
theorem dX8_atom_115 : decode cX8_atom 115 = .ok (.istore_n 1, 1) := by decide +kernel
theorem dX8_atom_116 : decode cX8_atom 116 = .ok (.aload_n 0, 1) := by decide +kernel
theorem dX8_atom_117 : decode cX8_atom 117 = .ok (.invokevirtual 187, 3) := by decide +kernel
theorem dX8_atom_120 : decode cX8_atom 120 = .ok (.goto 41, 3) := by decide +kernel
theorem dX8_atom_123 : decode cX8_atom 123 = .ok (.aload_n 0, 1) := by decide +kernel
theorem dX8_atom_124 : decode cX8_atom 124 = .ok (.getfield 170, 3) := by decide +kernel
theorem dX8_atom_127 : decode cX8_atom 127 = .ok (.ifCond .ne 30, 3) := by decide +kernel
theorem dX8_atom_130 : decode cX8_atom 130 = .ok (.aload_n 0, 1) := by decide +kernel
theorem dX8_atom_131 : decode cX8_atom 131 = .ok (.getfield 155, 3) := by decide +kernel
theorem dX8_atom_134 : decode cX8_atom 134 = .ok (.iconst 1, 1) := by decide +kernel
theorem dX8_atom_135 : decode cX8_atom 135 = .ok (.if_icmp .ne 22, 3) := by decide +kernel
theorem dX8_atom_138 : decode cX8_atom 138 = .ok (.aload_n 0, 1) := by decide +kernel
theorem dX8_atom_139 : decode cX8_atom 139 = .ok (.invokevirtual 226, 3) := by decide +kernel
theorem dX8_atom_142 : decode cX8_atom 142 = .ok (.istore_n 1, 1) := by decide +kernel
theorem dX8_atom_143 : decode cX8_atom 143 = .ok (.aload_n 0, 1) := by decide +kernel
theorem dX8_atom_144 : decode cX8_atom 144 = .ok (.getfield 170, 3) := by decide +kernel
theorem dX8_atom_147 : decode cX8_atom 147 = .ok (.ifCond .ne 14, 3) := by decide +kernel
theorem dX8_atom_150 : decode cX8_atom 150 = .ok (.aload_n 0, 1) := by decide +kernel
theorem dX8_atom_151 : decode cX8_atom 151 = .ok (.invokevirtual 187, 3) := by decide +kernel
theorem dX8_atom_154 : decode cX8_atom 154 = .ok (.goto 7, 3) := by decide +kernel
theorem dX8_atom_157 : decode cX8_atom 157 = .ok (.aload_n 0, 1) := by decide +kernel
theorem dX8_atom_158 : decode cX8_atom 158 = .ok (.invokevirtual 184, 3) := by decide +kernel
theorem dX8_atom_161 : decode cX8_atom 161 = .ok (.iload_n 1, 1) := by decide +kernel
theorem dX8_atom_162 : decode cX8_atom 162 = .ok (.ireturn, 1) := by decide +kernel
theorem dX8_term_0 : decode cX8_term 0 = .ok (.aload_n 0, 1) := by decide +kernel
theorem dX8_term_1 : decode cX8_term 1 = .ok (.invokevirtual 219, 3) := by decide +kernel
theorem dX8_term_4 : decode cX8_term 4 = .ok (.istore_n 1, 1) := by decide +kernel
theorem dX8_term_5 : decode cX8_term 5 = .ok (.aload_n 0, 1) := by decide +kernel
theorem dX8_term_6 : decode cX8_term 6 = .ok (.bipush 42, 2) := by decide +kernel
theorem dX8_term_8 : decode cX8_term 8 = .ok (.invokevirtual 212, 3) := by decide +kernel
theorem dX8_term_11 : decode cX8_term 11 = .ok (.ifCond .eq 17, 3) := by decide +kernel
theorem dX8_term_14 : decode cX8_term 14 = .ok (.aload_n 0, 1) := by decide +kernel
theorem dX8_term_15 : decode cX8_term 15 = .ok (.invokevirtual 187, 3) := by decide +kernel
theorem dX8_term_18 : decode cX8_term 18 = .ok (.iload_n 1, 1) := by decide +kernel
theorem dX8_term_19 : decode cX8_term 19 = .ok (.aload_n 0, 1) := by decide +kernel
theorem dX8_term_20 : decode cX8_term 20 = .ok (.invokevirtual 219, 3) := by decide +kernel
theorem dX8_term_23 : decode cX8_term 23 = .ok (.imul, 1) := by decide +kernel
theorem dX8_term_24 : decode cX8_term 24 = .ok (.istore_n 1, 1) := by decide +kernel
theorem dX8_term_25 : decode cX8_term 25 = .ok (.goto (-20), 3) := by decide +kernel
theorem dX8_term_28 : decode cX8_term 28 = .ok (.iload_n 1, 1) := by decide +kernel
theorem dX8_term_29 : decode cX8_term 29 = .ok (.ireturn, 1) := by decide +kernel
theorem dX8_added_0 : decode cX8_added 0 = .ok (.aload_n 0, 1) := by decide +kernel
theorem dX8_added_1 : decode cX8_added 1 = .ok (.invokevirtual 229, 3) := by decide +kernel
theorem dX8_added_4 : decode cX8_added 4 = .ok (.istore_n 1, 1) := by decide +kernel
theorem dX8_added_5 : decode cX8_added 5 = .ok (.aload_n 0, 1) := by decide +kernel
theorem dX8_added_6 : decode cX8_added 6 = .ok (.bipush 43, 2) := by decide +kernel
theorem dX8_added_8 : decode cX8_added 8 = .ok (.invokevirtual 212, 3) := by decide +kernel
theorem dX8_added_11 : decode cX8_added 11 = .ok (.ifCond .ne 12, 3) := by decide +kernel
theorem dX8_added_14 : decode cX8_added 14 = .ok (.aload_n 0, 1) := by decide +kernel
theorem dX8_added_15 : decode cX8_added 15 = .ok (.bipush 45, 2) := by decide +kernel
theorem dX8_added_17 : decode cX8_added 17 = .ok (.invokevirtual 212, 3) := by decide +kernel
theorem dX8_added_20 : decode cX8_added 20 = .ok (.ifCond .eq 46, 3) := by decide +kernel
theorem dX8_added_23 : decode cX8_added 23 = .ok (.aload_n 0, 1) := by decide +kernel
theorem dX8_added_24 : decode cX8_added 24 = .ok (.getfield 166, 3) := by decide +kernel
theorem dX8_added_27 : decode cX8_added 27 = .ok (.ldc2_w 232, 3) := by decide +kernel
theorem dX8_added_30 : decode cX8_added 30 = .ok (.lcmp, 1) := by decide +kernel
theorem dX8_added_31 : decode cX8_added 31 = .ok (.ifCond .ne 7, 3) := by decide +kernel
theorem dX8_added_34 : decode cX8_added 34 = .ok (.iconst 1, 1) := by decide +kernel
theorem dX8_added_35 : decode cX8_added 35 = .ok (.goto 4, 3) := by decide +kernel
theorem dX8_added_38 : decode cX8_added 38 = .ok (.iconst 0, 1) := by decide +kernel
theorem dX8_added_39 : decode cX8_added 39 = .ok (.istore_n 2, 1) := by decide +kernel
theorem dX8_added_40 : decode cX8_added 40 = .ok (.aload_n 0, 1) := by decide +kernel
theorem dX8_added_41 : decode cX8_added 41 = .ok (.invokevirtual 187, 3) := by decide +kernel
theorem dX8_added_44 : decode cX8_added 44 = .ok (.aload_n 0, 1) := by decide +kernel
theorem dX8_added_45 : decode cX8_added 45 = .ok (.invokevirtual 229, 3) := by decide +kernel
theorem dX8_added_48 : decode cX8_added 48 = .ok (.istore_n 3, 1) := by decide +kernel
theorem dX8_added_49 : decode cX8_added 49 = .ok (.iload_n 2, 1) := by decide +kernel
theorem dX8_added_50 : decode cX8_added 50 = .ok (.ifCond .eq 9, 3) := by decide +kernel
theorem dX8_added_53 : decode cX8_added 53 = .ok (.iload_n 1, 1) := by decide +kernel
theorem dX8_added_54 : decode cX8_added 54 = .ok (.iload_n 3, 1) := by decide +kernel
theorem dX8_added_55 : decode cX8_added 55 = .ok (.iadd, 1) := by decide +kernel
theorem dX8_added_56 : decode cX8_added 56 = .ok (.goto 6, 3) := by decide +kernel
theorem dX8_added_59 : decode cX8_added 59 = .ok (.iload_n 1, 1) := by decide +kernel
theorem dX8_added_60 : decode cX8_added 60 = .ok (.iload_n 3, 1) := by decide +kernel
theorem dX8_added_61 : decode cX8_added 61 = .ok (.isub, 1) := by decide +kernel
theorem dX8_added_62 : decode cX8_added 62 = .ok (.istore_n 1, 1) := by decide +kernel
theorem dX8_added_63 : decode cX8_added 63 = .ok (.goto (-58), 3) := by decide +kernel
theorem dX8_added_66 : decode cX8_added 66 = .ok (.iload_n 1, 1) := by decide +kernel
theorem dX8_added_67 : decode cX8_added 67 = .ok (.ireturn, 1) := by decide +kernel
theorem dX8_not_0 : decode cX8_not 0 = .ok (.aload_n 0, 1) := by decide +kernel
theorem dX8_not_1 : decode cX8_not 1 = .ok (.bipush 110, 2) := by decide +kernel
theorem dX8_not_3 : decode cX8_not 3 = .ok (.bipush 111, 2) := by decide +kernel
theorem dX8_not_5 : decode cX8_not 5 = .ok (.bipush 116, 2) := by decide +kernel
theorem dX8_not_7 : decode cX8_not 7 = .ok (.iconst 0, 1) := by decide +kernel
theorem dX8_not_8 : decode cX8_not 8 = .ok (.iconst 0, 1) := by decide +kernel
theorem dX8_not_9 : decode cX8_not 9 = .ok (.iconst 0, 1) := by decide +kernel
theorem dX8_not_10 : decode cX8_not 10 = .ok (.iconst 0, 1) := by decide +kernel
theorem dX8_not_11 : decode cX8_not 11 = .ok (.iconst 0, 1) := by decide +kernel
theorem dX8_not_12 : decode cX8_not 12 = .ok (.invokevirtual 190, 3) := by decide +kernel
theorem dX8_not_15 : decode cX8_not 15 = .ok (.ifCond .eq 37, 3) := by decide +kernel
theorem dX8_not_18 : decode cX8_not 18 = .ok (.aload_n 0, 1) := by decide +kernel
theorem dX8_not_19 : decode cX8_not 19 = .ok (.invokevirtual 215, 3) := by decide +kernel
theorem dX8_not_22 : decode cX8_not 22 = .ok (.ifCond .ne 5, 3) := by decide +kernel
theorem dX8_not_25 : decode cX8_not 25 = .ok (.iconst 0, 1) := by decide +kernel
theorem dX8_not_26 : decode cX8_not 26 = .ok (.ireturn, 1) := by decide +kernel
theorem dX8_not_27 : decode cX8_not 27 = .ok (.aload_n 0, 1) := by decide +kernel
theorem dX8_not_28 : decode cX8_not 28 = .ok (.invokevirtual 234, 3) := by decide +kernel
theorem dX8_not_31 : decode cX8_not 31 = .ok (.istore_n 1, 1) := by decide +kernel
theorem dX8_not_32 : decode cX8_not 32 = .ok (.aload_n 0, 1) := by decide +kernel
theorem dX8_not_33 : decode cX8_not 33 = .ok (.dup, 1) := by decide +kernel
theorem dX8_not_34 : decode cX8_not 34 = .ok (.getfield 181, 3) := by decide +kernel
theorem dX8_not_37 : decode cX8_not 37 = .ok (.iconst 1, 1) := by decide +kernel
theorem dX8_not_38 : decode cX8_not 38 = .ok (.isub, 1) := by decide +kernel
theorem dX8_not_39 : decode cX8_not 39 = .ok (.putfield 181, 3) := by decide +kernel
theorem dX8_not_42 : decode cX8_not 42 = .ok (.iload_n 1, 1) := by decide +kernel
theorem dX8_not_43 : decode cX8_not 43 = .ok (.ifCond .ne 7, 3) := by decide +kernel
theorem dX8_not_46 : decode cX8_not 46 = .ok (.iconst 1, 1) := by decide +kernel
theorem dX8_not_47 : decode cX8_not 47 = .ok (.goto 4, 3) := by decide +kernel
theorem dX8_not_50 : decode cX8_not 50 = .ok (.iconst 0, 1) := by decide +kernel
theorem dX8_not_51 : decode cX8_not 51 = .ok (.ireturn, 1) := by decide +kernel
theorem dX8_not_52 : decode cX8_not 52 = .ok (.aload_n 0, 1) := by decide +kernel
theorem dX8_not_53 : decode cX8_not 53 = .ok (.invokevirtual 237, 3) := by decide +kernel
theorem dX8_not_56 : decode cX8_not 56 = .ok (.istore_n 1, 1) := by decide +kernel
theorem dX8_not_57 : decode cX8_not 57 = .ok (.aload_n 0, 1) := by decide +kernel
theorem dX8_not_58 : decode cX8_not 58 = .ok (.bipush 60, 2) := by decide +kernel
theorem dX8_not_60 : decode cX8_not 60 = .ok (.invokevirtual 212, 3) := by decide +kernel
theorem dX8_not_63 : decode cX8_not 63 = .ok (.ifCond .ne 14, 3) := by decide +kernel
theorem dX8_not_66 : decode cX8_not 66 = .ok (.aload_n 0, 1) := by decide +kernel
theorem dX8_not_67 : decode cX8_not 67 = .ok (.bipush 61, 2) := by decide +kernel
theorem dX8_not_69 : decode cX8_not 69 = .ok (.invokevirtual 212, 3) := by decide +kernel
theorem dX8_not_72 : decode cX8_not 72 = .ok (.ifCond .ne 5, 3) := by decide +kernel
theorem dX8_not_75 : decode cX8_not 75 = .ok (.iload_n 1, 1) := by decide +kernel
theorem dX8_not_76 : decode cX8_not 76 = .ok (.ireturn, 1) := by decide +kernel
theorem dX8_not_77 : decode cX8_not 77 = .ok (.aload_n 0, 1) := by decide +kernel
theorem dX8_not_78 : decode cX8_not 78 = .ok (.getfield 166, 3) := by decide +kernel
theorem dX8_not_81 : decode cX8_not 81 = .ok (.ldc2_w 240, 3) := by decide +kernel
theorem dX8_not_84 : decode cX8_not 84 = .ok (.lcmp, 1) := by decide +kernel
theorem dX8_not_85 : decode cX8_not 85 = .ok (.ifCond .ne 7, 3) := by decide +kernel
theorem dX8_not_88 : decode cX8_not 88 = .ok (.iconst 1, 1) := by decide +kernel
theorem dX8_not_89 : decode cX8_not 89 = .ok (.goto 4, 3) := by decide +kernel
theorem dX8_not_92 : decode cX8_not 92 = .ok (.iconst 0, 1) := by decide +kernel
theorem dX8_not_93 : decode cX8_not 93 = .ok (.istore_n 2, 1) := by decide +kernel
theorem dX8_not_94 : decode cX8_not 94 = .ok (.aload_n 0, 1) := by decide +kernel
theorem dX8_not_95 : decode cX8_not 95 = .ok (.invokevirtual 187, 3) := by decide +kernel
theorem dX8_not_98 : decode cX8_not 98 = .ok (.aload_n 0, 1) := by decide +kernel
theorem dX8_not_99 : decode cX8_not 99 = .ok (.invokevirtual 237, 3) := by decide +kernel
theorem dX8_not_102 : decode cX8_not 102 = .ok (.istore_n 3, 1) := by decide +kernel
theorem dX8_not_103 : decode cX8_not 103 = .ok (.iload_n 2, 1) := by decide +kernel
theorem dX8_not_104 : decode cX8_not 104 = .ok (.ifCond .eq 11, 3) := by decide +kernel
theorem dX8_not_107 : decode cX8_not 107 = .ok (.iload_n 1, 1) := by decide +kernel
theorem dX8_not_108 : decode cX8_not 108 = .ok (.iload_n 3, 1) := by decide +kernel
theorem dX8_not_109 : decode cX8_not 109 = .ok (.if_icmp .ge 15, 3) := by decide +kernel
theorem dX8_not_112 : decode cX8_not 112 = .ok (.goto 8, 3) := by decide +kernel
theorem dX8_not_115 : decode cX8_not 115 = .ok (.iload_n 1, 1) := by decide +kernel
theorem dX8_not_116 : decode cX8_not 116 = .ok (.iload_n 3, 1) := by decide +kernel
theorem dX8_not_117 : decode cX8_not 117 = .ok (.if_icmp .ne 7, 3) := by decide +kernel
theorem dX8_not_120 : decode cX8_not 120 = .ok (.iconst 1, 1) := by decide +kernel
theorem dX8_not_121 : decode cX8_not 121 = .ok (.goto 4, 3) := by decide +kernel
theorem dX8_not_124 : decode cX8_not 124 = .ok (.iconst 0, 1) := by decide +kernel
theorem dX8_not_125 : decode cX8_not 125 = .ok (.ireturn, 1) := by decide +kernel
theorem dX8_both_0 : decode cX8_both 0 = .ok (.aload_n 0, 1) := by decide +kernel
theorem dX8_both_1 : decode cX8_both 1 = .ok (.invokevirtual 234, 3) := by decide +kernel
theorem dX8_both_4 : decode cX8_both 4 = .ok (.istore_n 1, 1) := by decide +kernel
theorem dX8_both_5 : decode cX8_both 5 = .ok (.aload_n 0, 1) := by decide +kernel
theorem dX8_both_6 : decode cX8_both 6 = .ok (.bipush 97, 2) := by decide +kernel
theorem dX8_both_8 : decode cX8_both 8 = .ok (.bipush 110, 2) := by decide +kernel
theorem dX8_both_10 : decode cX8_both 10 = .ok (.bipush 100, 2) := by decide +kernel
theorem dX8_both_12 : decode cX8_both 12 = .ok (.iconst 0, 1) := by decide +kernel
theorem dX8_both_13 : decode cX8_both 13 = .ok (.iconst 0, 1) := by decide +kernel
theorem dX8_both_14 : decode cX8_both 14 = .ok (.iconst 0, 1) := by decide +kernel
theorem dX8_both_15 : decode cX8_both 15 = .ok (.iconst 0, 1) := by decide +kernel
theorem dX8_both_16 : decode cX8_both 16 = .ok (.iconst 0, 1) := by decide +kernel
theorem dX8_both_17 : decode cX8_both 17 = .ok (.invokevirtual 190, 3) := by decide +kernel
theorem dX8_both_20 : decode cX8_both 20 = .ok (.ifCond .eq 29, 3) := by decide +kernel
theorem dX8_both_23 : decode cX8_both 23 = .ok (.aload_n 0, 1) := by decide +kernel
theorem dX8_both_24 : decode cX8_both 24 = .ok (.invokevirtual 187, 3) := by decide +kernel
theorem dX8_both_27 : decode cX8_both 27 = .ok (.aload_n 0, 1) := by decide +kernel
theorem dX8_both_28 : decode cX8_both 28 = .ok (.invokevirtual 234, 3) := by decide +kernel
theorem dX8_both_31 : decode cX8_both 31 = .ok (.istore_n 2, 1) := by decide +kernel
theorem dX8_both_32 : decode cX8_both 32 = .ok (.iload_n 1, 1) := by decide +kernel
theorem dX8_both_33 : decode cX8_both 33 = .ok (.ifCond .eq 11, 3) := by decide +kernel
theorem dX8_both_36 : decode cX8_both 36 = .ok (.iload_n 2, 1) := by decide +kernel
theorem dX8_both_37 : decode cX8_both 37 = .ok (.ifCond .eq 7, 3) := by decide +kernel
theorem dX8_both_40 : decode cX8_both 40 = .ok (.iconst 1, 1) := by decide +kernel
theorem dX8_both_41 : decode cX8_both 41 = .ok (.goto 4, 3) := by decide +kernel
theorem dX8_both_44 : decode cX8_both 44 = .ok (.iconst 0, 1) := by decide +kernel
theorem dX8_both_45 : decode cX8_both 45 = .ok (.istore_n 1, 1) := by decide +kernel
theorem dX8_both_46 : decode cX8_both 46 = .ok (.goto (-41), 3) := by decide +kernel
theorem dX8_both_49 : decode cX8_both 49 = .ok (.iload_n 1, 1) := by decide +kernel
theorem dX8_both_50 : decode cX8_both 50 = .ok (.ireturn, 1) := by decide +kernel
theorem dX8_either_0 : decode cX8_either 0 = .ok (.aload_n 0, 1) := by decide +kernel
theorem dX8_either_1 : decode cX8_either 1 = .ok (.invokevirtual 242, 3) := by decide +kernel
theorem dX8_either_4 : decode cX8_either 4 = .ok (.istore_n 1, 1) := by decide +kernel
theorem dX8_either_5 : decode cX8_either 5 = .ok (.aload_n 0, 1) := by decide +kernel
theorem dX8_either_6 : decode cX8_either 6 = .ok (.bipush 111, 2) := by decide +kernel
theorem dX8_either_8 : decode cX8_either 8 = .ok (.bipush 114, 2) := by decide +kernel
theorem dX8_either_10 : decode cX8_either 10 = .ok (.iconst 0, 1) := by decide +kernel
theorem dX8_either_11 : decode cX8_either 11 = .ok (.iconst 0, 1) := by decide +kernel
theorem dX8_either_12 : decode cX8_either 12 = .ok (.iconst 0, 1) := by decide +kernel
theorem dX8_either_13 : decode cX8_either 13 = .ok (.iconst 0, 1) := by decide +kernel
theorem dX8_either_14 : decode cX8_either 14 = .ok (.iconst 0, 1) := by decide +kernel
theorem dX8_either_15 : decode cX8_either 15 = .ok (.iconst 0, 1) := by decide +kernel
theorem dX8_either_16 : decode cX8_either 16 = .ok (.invokevirtual 190, 3) := by decide +kernel
theorem dX8_either_19 : decode cX8_either 19 = .ok (.ifCond .eq 29, 3) := by decide +kernel
theorem dX8_either_22 : decode cX8_either 22 = .ok (.aload_n 0, 1) := by decide +kernel
theorem dX8_either_23 : decode cX8_either 23 = .ok (.invokevirtual 187, 3) := by decide +kernel
theorem dX8_either_26 : decode cX8_either 26 = .ok (.aload_n 0, 1) := by decide +kernel
theorem dX8_either_27 : decode cX8_either 27 = .ok (.invokevirtual 242, 3) := by decide +kernel
theorem dX8_either_30 : decode cX8_either 30 = .ok (.istore_n 2, 1) := by decide +kernel
theorem dX8_either_31 : decode cX8_either 31 = .ok (.iload_n 1, 1) := by decide +kernel
theorem dX8_either_32 : decode cX8_either 32 = .ok (.ifCond .ne 7, 3) := by decide +kernel
theorem dX8_either_35 : decode cX8_either 35 = .ok (.iload_n 2, 1) := by decide +kernel
theorem dX8_either_36 : decode cX8_either 36 = .ok (.ifCond .eq 7, 3) := by decide +kernel
theorem dX8_either_39 : decode cX8_either 39 = .ok (.iconst 1, 1) := by decide +kernel
theorem dX8_either_40 : decode cX8_either 40 = .ok (.goto 4, 3) := by decide +kernel
theorem dX8_either_43 : decode cX8_either 43 = .ok (.iconst 0, 1) := by decide +kernel
theorem dX8_either_44 : decode cX8_either 44 = .ok (.istore_n 1, 1) := by decide +kernel
theorem dX8_either_45 : decode cX8_either 45 = .ok (.goto (-40), 3) := by decide +kernel
theorem dX8_either_48 : decode cX8_either 48 = .ok (.iload_n 1, 1) := by decide +kernel
theorem dX8_either_49 : decode cX8_either 49 = .ok (.ireturn, 1) := by decide +kernel
theorem dX8_part_0 : decode cX8_part 0 = .ok (.iload_n 1, 1) := by decide +kernel
theorem dX8_part_1 : decode cX8_part 1 = .ok (.ifCond .ne 7, 3) := by decide +kernel
theorem dX8_part_4 : decode cX8_part 4 = .ok (.aload_n 0, 1) := by decide +kernel
theorem dX8_part_5 : decode cX8_part 5 = .ok (.invokevirtual 184, 3) := by decide +kernel
theorem dX8_part_8 : decode cX8_part 8 = .ok (.aload_n 0, 1) := by decide +kernel
theorem dX8_part_9 : decode cX8_part 9 = .ok (.getfield 170, 3) := by decide +kernel
theorem dX8_part_12 : decode cX8_part 12 = .ok (.ifCond .ne 7, 3) := by decide +kernel
theorem dX8_part_15 : decode cX8_part 15 = .ok (.aload_n 0, 1) := by decide +kernel
theorem dX8_part_16 : decode cX8_part 16 = .ok (.invokevirtual 187, 3) := by decide +kernel
theorem dX8_part_19 : decode cX8_part 19 = .ok (.aload_n 0, 1) := by decide +kernel
theorem dX8_part_20 : decode cX8_part 20 = .ok (.getfield 170, 3) := by decide +kernel
theorem dX8_part_23 : decode cX8_part 23 = .ok (.ifCond .eq 7, 3) := by decide +kernel
theorem dX8_part_26 : decode cX8_part 26 = .ok (.iconst 0, 1) := by decide +kernel
theorem dX8_part_27 : decode cX8_part 27 = .ok (.goto 7, 3) := by decide +kernel
theorem dX8_part_30 : decode cX8_part 30 = .ok (.aload_n 0, 1) := by decide +kernel
theorem dX8_part_31 : decode cX8_part 31 = .ok (.invokevirtual 223, 3) := by decide +kernel
theorem dX8_part_34 : decode cX8_part 34 = .ok (.istore_n 2, 1) := by decide +kernel
theorem dX8_part_35 : decode cX8_part 35 = .ok (.aload_n 0, 1) := by decide +kernel
theorem dX8_part_36 : decode cX8_part 36 = .ok (.bipush 59, 2) := by decide +kernel
theorem dX8_part_38 : decode cX8_part 38 = .ok (.invokevirtual 212, 3) := by decide +kernel
theorem dX8_part_41 : decode cX8_part 41 = .ok (.ifCond .ne 7, 3) := by decide +kernel
theorem dX8_part_44 : decode cX8_part 44 = .ok (.aload_n 0, 1) := by decide +kernel
theorem dX8_part_45 : decode cX8_part 45 = .ok (.invokevirtual 184, 3) := by decide +kernel
theorem dX8_part_48 : decode cX8_part 48 = .ok (.aload_n 0, 1) := by decide +kernel
theorem dX8_part_49 : decode cX8_part 49 = .ok (.getfield 170, 3) := by decide +kernel
theorem dX8_part_52 : decode cX8_part 52 = .ok (.ifCond .ne 7, 3) := by decide +kernel
theorem dX8_part_55 : decode cX8_part 55 = .ok (.aload_n 0, 1) := by decide +kernel
theorem dX8_part_56 : decode cX8_part 56 = .ok (.invokevirtual 187, 3) := by decide +kernel
theorem dX8_part_59 : decode cX8_part 59 = .ok (.iload_n 2, 1) := by decide +kernel
theorem dX8_part_60 : decode cX8_part 60 = .ok (.ireturn, 1) := by decide +kernel
theorem dX8_read_0 : decode cX8_read 0 = .ok (.aload_n 0, 1) := by decide +kernel
theorem dX8_read_1 : decode cX8_read 1 = .ok (.sipush 160, 3) := by decide +kernel
theorem dX8_read_4 : decode cX8_read 4 = .ok (.iload_n 1, 1) := by decide +kernel
theorem dX8_read_5 : decode cX8_read 5 = .ok (.imul, 1) := by decide +kernel
theorem dX8_read_6 : decode cX8_read 6 = .ok (.putfield 143, 3) := by decide +kernel
theorem dX8_read_9 : decode cX8_read 9 = .ok (.aload_n 0, 1) := by decide +kernel
theorem dX8_read_10 : decode cX8_read 10 = .ok (.aload_n 0, 1) := by decide +kernel
theorem dX8_read_11 : decode cX8_read 11 = .ok (.getfield 17, 3) := by decide +kernel
theorem dX8_read_14 : decode cX8_read 14 = .ok (.iload_n 1, 1) := by decide +kernel
theorem dX8_read_15 : decode cX8_read 15 = .ok (.iaload, 1) := by decide +kernel
theorem dX8_read_16 : decode cX8_read 16 = .ok (.putfield 140, 3) := by decide +kernel
theorem dX8_read_19 : decode cX8_read 19 = .ok (.aload_n 0, 1) := by decide +kernel
theorem dX8_read_20 : decode cX8_read 20 = .ok (.iconst 0, 1) := by decide +kernel
theorem dX8_read_21 : decode cX8_read 21 = .ok (.putfield 146, 3) := by decide +kernel
theorem dX8_read_24 : decode cX8_read 24 = .ok (.aload_n 0, 1) := by decide +kernel
theorem dX8_read_25 : decode cX8_read 25 = .ok (.iconst 0, 1) := by decide +kernel
theorem dX8_read_26 : decode cX8_read 26 = .ok (.putfield 181, 3) := by decide +kernel
theorem dX8_read_29 : decode cX8_read 29 = .ok (.aload_n 0, 1) := by decide +kernel
theorem dX8_read_30 : decode cX8_read 30 = .ok (.iconst 0, 1) := by decide +kernel
theorem dX8_read_31 : decode cX8_read 31 = .ok (.putfield 170, 3) := by decide +kernel
theorem dX8_read_34 : decode cX8_read 34 = .ok (.aload_n 0, 1) := by decide +kernel
theorem dX8_read_35 : decode cX8_read 35 = .ok (.invokevirtual 187, 3) := by decide +kernel
theorem dX8_read_38 : decode cX8_read 38 = .ok (.aload_n 0, 1) := by decide +kernel
theorem dX8_read_39 : decode cX8_read 39 = .ok (.aload_n 0, 1) := by decide +kernel
theorem dX8_read_40 : decode cX8_read 40 = .ok (.bipush 111, 2) := by decide +kernel
theorem dX8_read_42 : decode cX8_read 42 = .ok (.bipush 100, 2) := by decide +kernel
theorem dX8_read_44 : decode cX8_read 44 = .ok (.bipush 100, 2) := by decide +kernel
theorem dX8_read_46 : decode cX8_read 46 = .ok (.bipush 115, 2) := by decide +kernel
theorem dX8_read_48 : decode cX8_read 48 = .ok (.iconst 0, 1) := by decide +kernel
theorem dX8_read_49 : decode cX8_read 49 = .ok (.iconst 0, 1) := by decide +kernel
theorem dX8_read_50 : decode cX8_read 50 = .ok (.iconst 0, 1) := by decide +kernel
theorem dX8_read_51 : decode cX8_read 51 = .ok (.iconst 0, 1) := by decide +kernel
theorem dX8_read_52 : decode cX8_read 52 = .ok (.invokevirtual 190, 3) := by decide +kernel
theorem dX8_read_55 : decode cX8_read 55 = .ok (.invokevirtual 245, 3) := by decide +kernel
theorem dX8_read_58 : decode cX8_read 58 = .ok (.istore_n 3, 1) := by decide +kernel
theorem dX8_read_59 : decode cX8_read 59 = .ok (.aload_n 0, 1) := by decide +kernel
theorem dX8_read_60 : decode cX8_read 60 = .ok (.getfield 170, 3) := by decide +kernel
theorem dX8_read_63 : decode cX8_read 63 = .ok (.ifCond .eq 7, 3) := by decide +kernel
theorem dX8_read_66 : decode cX8_read 66 = .ok (.iconst 0, 1) := by decide +kernel
theorem dX8_read_67 : decode cX8_read 67 = .ok (.goto 24, 3) := by decide +kernel
theorem dX8_read_70 : decode cX8_read 70 = .ok (.aload_n 0, 1) := by decide +kernel
theorem dX8_read_71 : decode cX8_read 71 = .ok (.aload_n 0, 1) := by decide +kernel
theorem dX8_read_72 : decode cX8_read 72 = .ok (.bipush 119, 2) := by decide +kernel
theorem dX8_read_74 : decode cX8_read 74 = .ok (.bipush 111, 2) := by decide +kernel
theorem dX8_read_76 : decode cX8_read 76 = .ok (.bipush 114, 2) := by decide +kernel
theorem dX8_read_78 : decode cX8_read 78 = .ok (.bipush 116, 2) := by decide +kernel
theorem dX8_read_80 : decode cX8_read 80 = .ok (.bipush 104, 2) := by decide +kernel
theorem dX8_read_82 : decode cX8_read 82 = .ok (.iconst 0, 1) := by decide +kernel
theorem dX8_read_83 : decode cX8_read 83 = .ok (.iconst 0, 1) := by decide +kernel
theorem dX8_read_84 : decode cX8_read 84 = .ok (.iconst 0, 1) := by decide +kernel
theorem dX8_read_85 : decode cX8_read 85 = .ok (.invokevirtual 190, 3) := by decide +kernel
theorem dX8_read_88 : decode cX8_read 88 = .ok (.invokevirtual 245, 3) := by decide +kernel
theorem dX8_read_91 : decode cX8_read 91 = .ok (.istore 4, 2) := by decide +kernel
theorem dX8_read_93 : decode cX8_read 93 = .ok (.aload_n 0, 1) := by decide +kernel
theorem dX8_read_94 : decode cX8_read 94 = .ok (.getfield 170, 3) := by decide +kernel
theorem dX8_read_97 : decode cX8_read 97 = .ok (.ifCond .eq 7, 3) := by decide +kernel
theorem dX8_read_100 : decode cX8_read 100 = .ok (.iconst 0, 1) := by decide +kernel
theorem dX8_read_101 : decode cX8_read 101 = .ok (.goto 24, 3) := by decide +kernel
theorem dX8_read_104 : decode cX8_read 104 = .ok (.aload_n 0, 1) := by decide +kernel
theorem dX8_read_105 : decode cX8_read 105 = .ok (.aload_n 0, 1) := by decide +kernel
theorem dX8_read_106 : decode cX8_read 106 = .ok (.bipush 109, 2) := by decide +kernel
theorem dX8_read_108 : decode cX8_read 108 = .ok (.bipush 105, 2) := by decide +kernel
theorem dX8_read_110 : decode cX8_read 110 = .ok (.bipush 110, 2) := by decide +kernel
theorem dX8_read_112 : decode cX8_read 112 = .ok (.bipush 100, 2) := by decide +kernel
theorem dX8_read_114 : decode cX8_read 114 = .ok (.bipush 115, 2) := by decide +kernel
theorem dX8_read_116 : decode cX8_read 116 = .ok (.iconst 0, 1) := by decide +kernel
theorem dX8_read_117 : decode cX8_read 117 = .ok (.iconst 0, 1) := by decide +kernel
theorem dX8_read_118 : decode cX8_read 118 = .ok (.iconst 0, 1) := by decide +kernel
theorem dX8_read_119 : decode cX8_read 119 = .ok (.invokevirtual 190, 3) := by decide +kernel
theorem dX8_read_122 : decode cX8_read 122 = .ok (.invokevirtual 245, 3) := by decide +kernel
theorem dX8_read_125 : decode cX8_read 125 = .ok (.istore 5, 2) := by decide +kernel
theorem dX8_read_127 : decode cX8_read 127 = .ok (.aload_n 0, 1) := by decide +kernel
theorem dX8_read_128 : decode cX8_read 128 = .ok (.getfield 170, 3) := by decide +kernel
theorem dX8_read_131 : decode cX8_read 131 = .ok (.ifCond .ne 14, 3) := by decide +kernel
theorem dX8_read_134 : decode cX8_read 134 = .ok (.aload_n 0, 1) := by decide +kernel
theorem dX8_read_135 : decode cX8_read 135 = .ok (.getfield 155, 3) := by decide +kernel
theorem dX8_read_138 : decode cX8_read 138 = .ok (.ifCond .eq 7, 3) := by decide +kernel
theorem dX8_read_141 : decode cX8_read 141 = .ok (.aload_n 0, 1) := by decide +kernel
theorem dX8_read_142 : decode cX8_read 142 = .ok (.invokevirtual 184, 3) := by decide +kernel
theorem dX8_read_145 : decode cX8_read 145 = .ok (.iload_n 2, 1) := by decide +kernel
theorem dX8_read_146 : decode cX8_read 146 = .ok (.ifCond .ne 7, 3) := by decide +kernel
theorem dX8_read_149 : decode cX8_read 149 = .ok (.iload_n 3, 1) := by decide +kernel
theorem dX8_read_150 : decode cX8_read 150 = .ok (.goto 15, 3) := by decide +kernel
theorem dX8_read_153 : decode cX8_read 153 = .ok (.iload_n 2, 1) := by decide +kernel
theorem dX8_read_154 : decode cX8_read 154 = .ok (.iconst 1, 1) := by decide +kernel
theorem dX8_read_155 : decode cX8_read 155 = .ok (.if_icmp .ne 8, 3) := by decide +kernel
theorem dX8_read_158 : decode cX8_read 158 = .ok (.iload 4, 2) := by decide +kernel
theorem dX8_read_160 : decode cX8_read 160 = .ok (.goto 5, 3) := by decide +kernel
theorem dX8_read_163 : decode cX8_read 163 = .ok (.iload 5, 2) := by decide +kernel
theorem dX8_read_165 : decode cX8_read 165 = .ok (.ireturn, 1) := by decide +kernel
theorem dX8_text_0 : decode cX8_text 0 = .ok (.aload_n 0, 1) := by decide +kernel
theorem dX8_text_1 : decode cX8_text 1 = .ok (.getfield 100, 3) := by decide +kernel
theorem dX8_text_4 : decode cX8_text 4 = .ok (.bipush 6, 2) := by decide +kernel
theorem dX8_text_6 : decode cX8_text 6 = .ok (.if_icmp .ne 6, 3) := by decide +kernel
theorem dX8_text_9 : decode cX8_text 9 = .ok (.bipush (-4), 2) := by decide +kernel
theorem dX8_text_11 : decode cX8_text 11 = .ok (.ireturn, 1) := by decide +kernel
theorem dX8_text_12 : decode cX8_text 12 = .ok (.iconst 0, 1) := by decide +kernel
theorem dX8_text_13 : decode cX8_text 13 = .ok (.istore_n 1, 1) := by decide +kernel
theorem dX8_text_14 : decode cX8_text 14 = .ok (.iload_n 1, 1) := by decide +kernel
theorem dX8_text_15 : decode cX8_text 15 = .ok (.aload_n 0, 1) := by decide +kernel
theorem dX8_text_16 : decode cX8_text 16 = .ok (.getfield 137, 3) := by decide +kernel
theorem dX8_text_19 : decode cX8_text 19 = .ok (.if_icmp .ge 30, 3) := by decide +kernel
theorem dX8_text_22 : decode cX8_text 22 = .ok (.aload_n 0, 1) := by decide +kernel
theorem dX8_text_23 : decode cX8_text 23 = .ok (.getfield 13, 3) := by decide +kernel
theorem dX8_text_26 : decode cX8_text 26 = .ok (.sipush 160, 3) := by decide +kernel
theorem dX8_text_29 : decode cX8_text 29 = .ok (.aload_n 0, 1) := by decide +kernel
theorem dX8_text_30 : decode cX8_text 30 = .ok (.getfield 100, 3) := by decide +kernel
theorem dX8_text_33 : decode cX8_text 33 = .ok (.imul, 1) := by decide +kernel
theorem dX8_text_34 : decode cX8_text 34 = .ok (.iload_n 1, 1) := by decide +kernel
theorem dX8_text_35 : decode cX8_text 35 = .ok (.iadd, 1) := by decide +kernel
theorem dX8_text_36 : decode cX8_text 36 = .ok (.aload_n 0, 1) := by decide +kernel
theorem dX8_text_37 : decode cX8_text 37 = .ok (.getfield 20, 3) := by decide +kernel
theorem dX8_text_40 : decode cX8_text 40 = .ok (.iload_n 1, 1) := by decide +kernel
theorem dX8_text_41 : decode cX8_text 41 = .ok (.iaload, 1) := by decide +kernel
theorem dX8_text_42 : decode cX8_text 42 = .ok (.iastore, 1) := by decide +kernel
theorem dX8_text_43 : decode cX8_text 43 = .ok (.iinc 1 1, 3) := by decide +kernel
theorem dX8_text_46 : decode cX8_text 46 = .ok (.goto (-32), 3) := by decide +kernel
theorem dX8_text_49 : decode cX8_text 49 = .ok (.aload_n 0, 1) := by decide +kernel
theorem dX8_text_50 : decode cX8_text 50 = .ok (.getfield 17, 3) := by decide +kernel
theorem dX8_text_53 : decode cX8_text 53 = .ok (.aload_n 0, 1) := by decide +kernel
theorem dX8_text_54 : decode cX8_text 54 = .ok (.getfield 100, 3) := by decide +kernel
theorem dX8_text_57 : decode cX8_text 57 = .ok (.aload_n 0, 1) := by decide +kernel
theorem dX8_text_58 : decode cX8_text 58 = .ok (.getfield 137, 3) := by decide +kernel
theorem dX8_text_61 : decode cX8_text 61 = .ok (.iastore, 1) := by decide +kernel
theorem dX8_text_62 : decode cX8_text 62 = .ok (.aload_n 0, 1) := by decide +kernel
theorem dX8_text_63 : decode cX8_text 63 = .ok (.iconst 0, 1) := by decide +kernel
theorem dX8_text_64 : decode cX8_text 64 = .ok (.putfield 137, 3) := by decide +kernel
theorem dX8_text_67 : decode cX8_text 67 = .ok (.aload_n 0, 1) := by decide +kernel
theorem dX8_text_68 : decode cX8_text 68 = .ok (.aload_n 0, 1) := by decide +kernel
theorem dX8_text_69 : decode cX8_text 69 = .ok (.getfield 100, 3) := by decide +kernel
theorem dX8_text_72 : decode cX8_text 72 = .ok (.iconst 0, 1) := by decide +kernel
theorem dX8_text_73 : decode cX8_text 73 = .ok (.invokevirtual 249, 3) := by decide +kernel
theorem dX8_text_76 : decode cX8_text 76 = .ok (.istore_n 1, 1) := by decide +kernel
theorem dX8_text_77 : decode cX8_text 77 = .ok (.aload_n 0, 1) := by decide +kernel
theorem dX8_text_78 : decode cX8_text 78 = .ok (.getfield 170, 3) := by decide +kernel
theorem dX8_text_81 : decode cX8_text 81 = .ok (.ifCond .eq 11, 3) := by decide +kernel
theorem dX8_text_84 : decode cX8_text 84 = .ok (.bipush (-100), 2) := by decide +kernel
theorem dX8_text_86 : decode cX8_text 86 = .ok (.aload_n 0, 1) := by decide +kernel
theorem dX8_text_87 : decode cX8_text 87 = .ok (.getfield 174, 3) := by decide +kernel
theorem dX8_text_90 : decode cX8_text 90 = .ok (.isub, 1) := by decide +kernel
theorem dX8_text_91 : decode cX8_text 91 = .ok (.ireturn, 1) := by decide +kernel
theorem dX8_text_92 : decode cX8_text 92 = .ok (.aload_n 0, 1) := by decide +kernel
theorem dX8_text_93 : decode cX8_text 93 = .ok (.dup, 1) := by decide +kernel
theorem dX8_text_94 : decode cX8_text 94 = .ok (.getfield 100, 3) := by decide +kernel
theorem dX8_text_97 : decode cX8_text 97 = .ok (.iconst 1, 1) := by decide +kernel
theorem dX8_text_98 : decode cX8_text 98 = .ok (.iadd, 1) := by decide +kernel
theorem dX8_text_99 : decode cX8_text 99 = .ok (.putfield 100, 3) := by decide +kernel
theorem dX8_text_102 : decode cX8_text 102 = .ok (.aload_n 0, 1) := by decide +kernel
theorem dX8_text_103 : decode cX8_text 103 = .ok (.getfield 100, 3) := by decide +kernel
theorem dX8_text_106 : decode cX8_text 106 = .ok (.iconst 1, 1) := by decide +kernel
theorem dX8_text_107 : decode cX8_text 107 = .ok (.isub, 1) := by decide +kernel
theorem dX8_text_108 : decode cX8_text 108 = .ok (.ireturn, 1) := by decide +kernel
theorem dX8_force_0 : decode cX8_force 0 = .ok (.iload_n 1, 1) := by decide +kernel
theorem dX8_force_1 : decode cX8_force 1 = .ok (.i2l, 1) := by decide +kernel
theorem dX8_force_2 : decode cX8_force 2 = .ok (.lconst 0, 1) := by decide +kernel
theorem dX8_force_3 : decode cX8_force 3 = .ok (.aload_n 0, 1) := by decide +kernel
theorem dX8_force_4 : decode cX8_force 4 = .ok (.getfield 100, 3) := by decide +kernel
theorem dX8_force_7 : decode cX8_force 7 = .ok (.iconst 1, 1) := by decide +kernel
theorem dX8_force_8 : decode cX8_force 8 = .ok (.isub, 1) := by decide +kernel
theorem dX8_force_9 : decode cX8_force 9 = .ok (.i2l, 1) := by decide +kernel
theorem dX8_force_10 : decode cX8_force 10 = .ok (.invokestatic 106, 3) := by decide +kernel
theorem dX8_force_13 : decode cX8_force 13 = .ok (.ifCond .ne 6, 3) := by decide +kernel
theorem dX8_force_16 : decode cX8_force 16 = .ok (.bipush (-2), 2) := by decide +kernel
theorem dX8_force_18 : decode cX8_force 18 = .ok (.ireturn, 1) := by decide +kernel
theorem dX8_force_19 : decode cX8_force 19 = .ok (.aload_n 0, 1) := by decide +kernel
theorem dX8_force_20 : decode cX8_force 20 = .ok (.getfield 252, 3) := by decide +kernel
theorem dX8_force_23 : decode cX8_force 23 = .ok (.istore_n 2, 1) := by decide +kernel
theorem dX8_force_24 : decode cX8_force 24 = .ok (.aload_n 0, 1) := by decide +kernel
theorem dX8_force_25 : decode cX8_force 25 = .ok (.iload_n 1, 1) := by decide +kernel
theorem dX8_force_26 : decode cX8_force 26 = .ok (.putfield 252, 3) := by decide +kernel
theorem dX8_force_29 : decode cX8_force 29 = .ok (.iload_n 2, 1) := by decide +kernel
theorem dX8_force_30 : decode cX8_force 30 = .ok (.ireturn, 1) := by decide +kernel
theorem dX8_says_0 : decode cX8_says 0 = .ok (.iload_n 2, 1) := by decide +kernel
theorem dX8_says_1 : decode cX8_says 1 = .ok (.iload_n 3, 1) := by decide +kernel
theorem dX8_says_2 : decode cX8_says 2 = .ok (.if_icmp .ge 7, 3) := by decide +kernel
theorem dX8_says_5 : decode cX8_says 5 = .ok (.iload_n 2, 1) := by decide +kernel
theorem dX8_says_6 : decode cX8_says 6 = .ok (.goto 4, 3) := by decide +kernel
theorem dX8_says_9 : decode cX8_says 9 = .ok (.iload_n 3, 1) := by decide +kernel
theorem dX8_says_10 : decode cX8_says 10 = .ok (.istore 5, 2) := by decide +kernel
theorem dX8_says_12 : decode cX8_says 12 = .ok (.iload_n 2, 1) := by decide +kernel
theorem dX8_says_13 : decode cX8_says 13 = .ok (.iload_n 3, 1) := by decide +kernel
theorem dX8_says_14 : decode cX8_says 14 = .ok (.if_icmp .ge 7, 3) := by decide +kernel
theorem dX8_says_17 : decode cX8_says 17 = .ok (.iload_n 3, 1) := by decide +kernel
theorem dX8_says_18 : decode cX8_says 18 = .ok (.goto 4, 3) := by decide +kernel
theorem dX8_says_21 : decode cX8_says 21 = .ok (.iload_n 2, 1) := by decide +kernel
theorem dX8_says_22 : decode cX8_says 22 = .ok (.istore 6, 2) := by decide +kernel
theorem dX8_says_24 : decode cX8_says 24 = .ok (.aload_n 0, 1) := by decide +kernel
theorem dX8_says_25 : decode cX8_says 25 = .ok (.iload 5, 2) := by decide +kernel
theorem dX8_says_27 : decode cX8_says 27 = .ok (.putfield 194, 3) := by decide +kernel
theorem dX8_says_30 : decode cX8_says 30 = .ok (.aload_n 0, 1) := by decide +kernel
theorem dX8_says_31 : decode cX8_says 31 = .ok (.iload 6, 2) := by decide +kernel
theorem dX8_says_33 : decode cX8_says 33 = .ok (.putfield 197, 3) := by decide +kernel
theorem dX8_says_36 : decode cX8_says 36 = .ok (.aload_n 0, 1) := by decide +kernel
theorem dX8_says_37 : decode cX8_says 37 = .ok (.aload_n 0, 1) := by decide +kernel
theorem dX8_says_38 : decode cX8_says 38 = .ok (.getfield 26, 3) := by decide +kernel
theorem dX8_says_41 : decode cX8_says 41 = .ok (.iload_n 2, 1) := by decide +kernel
theorem dX8_says_42 : decode cX8_says 42 = .ok (.iaload, 1) := by decide +kernel
theorem dX8_says_43 : decode cX8_says 43 = .ok (.aload_n 0, 1) := by decide +kernel
theorem dX8_says_44 : decode cX8_says 44 = .ok (.getfield 26, 3) := by decide +kernel
theorem dX8_says_47 : decode cX8_says 47 = .ok (.iload_n 3, 1) := by decide +kernel
theorem dX8_says_48 : decode cX8_says 48 = .ok (.iaload, 1) := by decide +kernel
theorem dX8_says_49 : decode cX8_says 49 = .ok (.invokestatic 255, 3) := by decide +kernel
theorem dX8_says_52 : decode cX8_says 52 = .ok (.putfield 200, 3) := by decide +kernel
theorem dX8_says_55 : decode cX8_says 55 = .ok (.aload_n 0, 1) := by decide +kernel
theorem dX8_says_56 : decode cX8_says 56 = .ok (.iload 4, 2) := by decide +kernel
theorem dX8_says_58 : decode cX8_says 58 = .ok (.putfield 203, 3) := by decide +kernel
theorem dX8_says_61 : decode cX8_says 61 = .ok (.aload_n 0, 1) := by decide +kernel
theorem dX8_says_62 : decode cX8_says 62 = .ok (.aload_n 0, 1) := by decide +kernel
theorem dX8_says_63 : decode cX8_says 63 = .ok (.getfield 103, 3) := by decide +kernel
theorem dX8_says_66 : decode cX8_says 66 = .ok (.putfield 206, 3) := by decide +kernel
theorem dX8_says_69 : decode cX8_says 69 = .ok (.aload_n 0, 1) := by decide +kernel
theorem dX8_says_70 : decode cX8_says 70 = .ok (.aload_n 0, 1) := by decide +kernel
theorem dX8_says_71 : decode cX8_says 71 = .ok (.iload 5, 2) := by decide +kernel
theorem dX8_says_73 : decode cX8_says 73 = .ok (.invokevirtual 127, 3) := by decide +kernel
theorem dX8_says_76 : decode cX8_says 76 = .ok (.putfield 209, 3) := by decide +kernel
theorem dX8_says_79 : decode cX8_says 79 = .ok (.aload_n 0, 1) := by decide +kernel
theorem dX8_says_80 : decode cX8_says 80 = .ok (.aload_n 0, 1) := by decide +kernel
theorem dX8_says_81 : decode cX8_says 81 = .ok (.getfield 252, 3) := by decide +kernel
theorem dX8_says_84 : decode cX8_says 84 = .ok (.iload_n 1, 1) := by decide +kernel
theorem dX8_says_85 : decode cX8_says 85 = .ok (.invokevirtual 249, 3) := by decide +kernel
theorem dX8_says_88 : decode cX8_says 88 = .ok (.iload_n 1, 1) := by decide +kernel
theorem dX8_says_89 : decode cX8_says 89 = .ok (.iconst 1, 1) := by decide +kernel
theorem dX8_says_90 : decode cX8_says 90 = .ok (.if_icmp .ne 8, 3) := by decide +kernel
theorem dX8_says_93 : decode cX8_says 93 = .ok (.bipush (-99), 2) := by decide +kernel
theorem dX8_says_95 : decode cX8_says 95 = .ok (.goto 4, 3) := by decide +kernel
theorem dX8_says_98 : decode cX8_says 98 = .ok (.iconst 0, 1) := by decide +kernel
theorem dX8_says_99 : decode cX8_says 99 = .ok (.bipush 99, 2) := by decide +kernel
theorem dX8_says_101 : decode cX8_says 101 = .ok (.invokestatic 258, 3) := by decide +kernel
theorem dX8_says_104 : decode cX8_says 104 = .ok (.ireturn, 1) := by decide +kernel
theorem dX8_told2_0 : decode cX8_told2 0 = .ok (.aload_n 0, 1) := by decide +kernel
theorem dX8_told2_1 : decode cX8_told2 1 = .ok (.iload_n 1, 1) := by decide +kernel
theorem dX8_told2_2 : decode cX8_told2 2 = .ok (.iload_n 2, 1) := by decide +kernel
theorem dX8_told2_3 : decode cX8_told2 3 = .ok (.iload_n 3, 1) := by decide +kernel
theorem dX8_told2_4 : decode cX8_told2 4 = .ok (.aload_n 0, 1) := by decide +kernel
theorem dX8_told2_5 : decode cX8_told2 5 = .ok (.iload_n 2, 1) := by decide +kernel
theorem dX8_told2_6 : decode cX8_told2 6 = .ok (.invokevirtual 127, 3) := by decide +kernel
theorem dX8_told2_9 : decode cX8_told2 9 = .ok (.aload_n 0, 1) := by decide +kernel
theorem dX8_told2_10 : decode cX8_told2 10 = .ok (.iload_n 3, 1) := by decide +kernel
theorem dX8_told2_11 : decode cX8_told2 11 = .ok (.invokevirtual 127, 3) := by decide +kernel
theorem dX8_told2_14 : decode cX8_told2 14 = .ok (.invokestatic 255, 3) := by decide +kernel
theorem dX8_told2_17 : decode cX8_told2 17 = .ok (.invokevirtual 262, 3) := by decide +kernel
theorem dX8_told2_20 : decode cX8_told2 20 = .ok (.ireturn, 1) := by decide +kernel
theorem dX8_asks_0 : decode cX8_asks 0 = .ok (.aload_n 0, 1) := by decide +kernel
theorem dX8_asks_1 : decode cX8_asks 1 = .ok (.iload_n 1, 1) := by decide +kernel
theorem dX8_asks_2 : decode cX8_asks 2 = .ok (.invokevirtual 119, 3) := by decide +kernel
theorem dX8_asks_5 : decode cX8_asks 5 = .ok (.ifCond .eq 38, 3) := by decide +kernel
theorem dX8_asks_8 : decode cX8_asks 8 = .ok (.aload_n 0, 1) := by decide +kernel
theorem dX8_asks_9 : decode cX8_asks 9 = .ok (.iload_n 2, 1) := by decide +kernel
theorem dX8_asks_10 : decode cX8_asks 10 = .ok (.invokevirtual 119, 3) := by decide +kernel
theorem dX8_asks_13 : decode cX8_asks 13 = .ok (.ifCond .eq 30, 3) := by decide +kernel
theorem dX8_asks_16 : decode cX8_asks 16 = .ok (.iload_n 1, 1) := by decide +kernel
theorem dX8_asks_17 : decode cX8_asks 17 = .ok (.iload_n 2, 1) := by decide +kernel
theorem dX8_asks_18 : decode cX8_asks 18 = .ok (.if_icmp .eq 25, 3) := by decide +kernel
theorem dX8_asks_21 : decode cX8_asks 21 = .ok (.iload_n 3, 1) := by decide +kernel
theorem dX8_asks_22 : decode cX8_asks 22 = .ok (.i2l, 1) := by decide +kernel
theorem dX8_asks_23 : decode cX8_asks 23 = .ok (.lconst 0, 1) := by decide +kernel
theorem dX8_asks_24 : decode cX8_asks 24 = .ok (.ldc2_w 123, 3) := by decide +kernel
theorem dX8_asks_27 : decode cX8_asks 27 = .ok (.invokestatic 106, 3) := by decide +kernel
theorem dX8_asks_30 : decode cX8_asks 30 = .ok (.ifCond .eq 13, 3) := by decide +kernel
theorem dX8_asks_33 : decode cX8_asks 33 = .ok (.aload_n 0, 1) := by decide +kernel
theorem dX8_asks_34 : decode cX8_asks 34 = .ok (.iload_n 3, 1) := by decide +kernel
theorem dX8_asks_35 : decode cX8_asks 35 = .ok (.iload_n 1, 1) := by decide +kernel
theorem dX8_asks_36 : decode cX8_asks 36 = .ok (.iload_n 2, 1) := by decide +kernel
theorem dX8_asks_37 : decode cX8_asks 37 = .ok (.invokevirtual 266, 3) := by decide +kernel
theorem dX8_asks_40 : decode cX8_asks 40 = .ok (.goto 6, 3) := by decide +kernel
theorem dX8_asks_43 : decode cX8_asks 43 = .ok (.ldc_w 269, 3) := by decide +kernel
theorem dX8_asks_46 : decode cX8_asks 46 = .ok (.ireturn, 1) := by decide +kernel
theorem dX8_swap_0 : decode cX8_swap 0 = .ok (.aload_n 0, 1) := by decide +kernel
theorem dX8_swap_1 : decode cX8_swap 1 = .ok (.getfield 35, 3) := by decide +kernel
theorem dX8_swap_4 : decode cX8_swap 4 = .ok (.iload_n 1, 1) := by decide +kernel
theorem dX8_swap_5 : decode cX8_swap 5 = .ok (.iaload, 1) := by decide +kernel
theorem dX8_swap_6 : decode cX8_swap 6 = .ok (.istore_n 2, 1) := by decide +kernel
theorem dX8_swap_7 : decode cX8_swap 7 = .ok (.aload_n 0, 1) := by decide +kernel
theorem dX8_swap_8 : decode cX8_swap 8 = .ok (.getfield 35, 3) := by decide +kernel
theorem dX8_swap_11 : decode cX8_swap 11 = .ok (.iload_n 1, 1) := by decide +kernel
theorem dX8_swap_12 : decode cX8_swap 12 = .ok (.aload_n 0, 1) := by decide +kernel
theorem dX8_swap_13 : decode cX8_swap 13 = .ok (.getfield 35, 3) := by decide +kernel
theorem dX8_swap_16 : decode cX8_swap 16 = .ok (.iload_n 1, 1) := by decide +kernel
theorem dX8_swap_17 : decode cX8_swap 17 = .ok (.iconst 1, 1) := by decide +kernel
theorem dX8_swap_18 : decode cX8_swap 18 = .ok (.iadd, 1) := by decide +kernel
theorem dX8_swap_19 : decode cX8_swap 19 = .ok (.iaload, 1) := by decide +kernel
theorem dX8_swap_20 : decode cX8_swap 20 = .ok (.iastore, 1) := by decide +kernel
theorem dX8_swap_21 : decode cX8_swap 21 = .ok (.aload_n 0, 1) := by decide +kernel
theorem dX8_swap_22 : decode cX8_swap 22 = .ok (.getfield 35, 3) := by decide +kernel
theorem dX8_swap_25 : decode cX8_swap 25 = .ok (.iload_n 1, 1) := by decide +kernel
theorem dX8_swap_26 : decode cX8_swap 26 = .ok (.iconst 1, 1) := by decide +kernel
theorem dX8_swap_27 : decode cX8_swap 27 = .ok (.iadd, 1) := by decide +kernel
theorem dX8_swap_28 : decode cX8_swap 28 = .ok (.iload_n 2, 1) := by decide +kernel
theorem dX8_swap_29 : decode cX8_swap 29 = .ok (.iastore, 1) := by decide +kernel
theorem dX8_swap_30 : decode cX8_swap 30 = .ok (.return_, 1) := by decide +kernel
theorem dX8_cross_0 : decode cX8_cross 0 = .ok (.iload_n 1, 1) := by decide +kernel
theorem dX8_cross_1 : decode cX8_cross 1 = .ok (.i2l, 1) := by decide +kernel
theorem dX8_cross_2 : decode cX8_cross 2 = .ok (.lconst 0, 1) := by decide +kernel
theorem dX8_cross_3 : decode cX8_cross 3 = .ok (.aload_n 0, 1) := by decide +kernel
theorem dX8_cross_4 : decode cX8_cross 4 = .ok (.getfield 103, 3) := by decide +kernel
theorem dX8_cross_7 : decode cX8_cross 7 = .ok (.iconst 2, 1) := by decide +kernel
theorem dX8_cross_8 : decode cX8_cross 8 = .ok (.isub, 1) := by decide +kernel
theorem dX8_cross_9 : decode cX8_cross 9 = .ok (.i2l, 1) := by decide +kernel
theorem dX8_cross_10 : decode cX8_cross 10 = .ok (.invokestatic 106, 3) := by decide +kernel
theorem dX8_cross_13 : decode cX8_cross 13 = .ok (.ifCond .eq 13, 3) := by decide +kernel
theorem dX8_cross_16 : decode cX8_cross 16 = .ok (.iload_n 2, 1) := by decide +kernel
theorem dX8_cross_17 : decode cX8_cross 17 = .ok (.i2l, 1) := by decide +kernel
theorem dX8_cross_18 : decode cX8_cross 18 = .ok (.lconst 0, 1) := by decide +kernel
theorem dX8_cross_19 : decode cX8_cross 19 = .ok (.lconst 1, 1) := by decide +kernel
theorem dX8_cross_20 : decode cX8_cross 20 = .ok (.invokestatic 106, 3) := by decide +kernel
theorem dX8_cross_23 : decode cX8_cross 23 = .ok (.ifCond .ne 6, 3) := by decide +kernel
theorem dX8_cross_26 : decode cX8_cross 26 = .ok (.bipush (-2), 2) := by decide +kernel
theorem dX8_cross_28 : decode cX8_cross 28 = .ok (.ireturn, 1) := by decide +kernel
theorem dX8_cross_29 : decode cX8_cross 29 = .ok (.aload_n 0, 1) := by decide +kernel
theorem dX8_cross_30 : decode cX8_cross 30 = .ok (.getfield 116, 3) := by decide +kernel
theorem dX8_cross_33 : decode cX8_cross 33 = .ok (.bipush 40, 2) := by decide +kernel
theorem dX8_cross_35 : decode cX8_cross 35 = .ok (.if_icmp .ne 6, 3) := by decide +kernel
theorem dX8_cross_38 : decode cX8_cross 38 = .ok (.bipush (-4), 2) := by decide +kernel
theorem dX8_cross_40 : decode cX8_cross 40 = .ok (.ireturn, 1) := by decide +kernel
theorem dX8_cross_41 : decode cX8_cross 41 = .ok (.aload_n 0, 1) := by decide +kernel
theorem dX8_cross_42 : decode cX8_cross 42 = .ok (.iload_n 1, 1) := by decide +kernel
theorem dX8_cross_43 : decode cX8_cross 43 = .ok (.invokevirtual 270, 3) := by decide +kernel
theorem dX8_cross_46 : decode cX8_cross 46 = .ok (.aload_n 0, 1) := by decide +kernel
theorem dX8_cross_47 : decode cX8_cross 47 = .ok (.getfield 38, 3) := by decide +kernel
theorem dX8_cross_50 : decode cX8_cross 50 = .ok (.aload_n 0, 1) := by decide +kernel
theorem dX8_cross_51 : decode cX8_cross 51 = .ok (.getfield 116, 3) := by decide +kernel
theorem dX8_cross_54 : decode cX8_cross 54 = .ok (.iload_n 1, 1) := by decide +kernel
theorem dX8_cross_55 : decode cX8_cross 55 = .ok (.iastore, 1) := by decide +kernel
theorem dX8_cross_56 : decode cX8_cross 56 = .ok (.aload_n 0, 1) := by decide +kernel
theorem dX8_cross_57 : decode cX8_cross 57 = .ok (.getfield 41, 3) := by decide +kernel
theorem dX8_cross_60 : decode cX8_cross 60 = .ok (.aload_n 0, 1) := by decide +kernel
theorem dX8_cross_61 : decode cX8_cross 61 = .ok (.getfield 116, 3) := by decide +kernel
theorem dX8_cross_64 : decode cX8_cross 64 = .ok (.iload_n 2, 1) := by decide +kernel
theorem dX8_cross_65 : decode cX8_cross 65 = .ok (.iastore, 1) := by decide +kernel
theorem dX8_cross_66 : decode cX8_cross 66 = .ok (.aload_n 0, 1) := by decide +kernel
theorem dX8_cross_67 : decode cX8_cross 67 = .ok (.dup, 1) := by decide +kernel
theorem dX8_cross_68 : decode cX8_cross 68 = .ok (.getfield 116, 3) := by decide +kernel
theorem dX8_cross_71 : decode cX8_cross 71 = .ok (.iconst 1, 1) := by decide +kernel
theorem dX8_cross_72 : decode cX8_cross 72 = .ok (.iadd, 1) := by decide +kernel
theorem dX8_cross_73 : decode cX8_cross 73 = .ok (.putfield 116, 3) := by decide +kernel
theorem dX8_cross_76 : decode cX8_cross 76 = .ok (.aload_n 0, 1) := by decide +kernel
theorem dX8_cross_77 : decode cX8_cross 77 = .ok (.getfield 116, 3) := by decide +kernel
theorem dX8_cross_80 : decode cX8_cross 80 = .ok (.ireturn, 1) := by decide +kernel
theorem dX8_undo_0 : decode cX8_undo 0 = .ok (.aload_n 0, 1) := by decide +kernel
theorem dX8_undo_1 : decode cX8_undo 1 = .ok (.getfield 116, 3) := by decide +kernel
theorem dX8_undo_4 : decode cX8_undo 4 = .ok (.ifCond .ne 6, 3) := by decide +kernel
theorem dX8_undo_7 : decode cX8_undo 7 = .ok (.bipush (-3), 2) := by decide +kernel
theorem dX8_undo_9 : decode cX8_undo 9 = .ok (.ireturn, 1) := by decide +kernel
theorem dX8_undo_10 : decode cX8_undo 10 = .ok (.aload_n 0, 1) := by decide +kernel
theorem dX8_undo_11 : decode cX8_undo 11 = .ok (.dup, 1) := by decide +kernel
theorem dX8_undo_12 : decode cX8_undo 12 = .ok (.getfield 116, 3) := by decide +kernel
theorem dX8_undo_15 : decode cX8_undo 15 = .ok (.iconst 1, 1) := by decide +kernel
theorem dX8_undo_16 : decode cX8_undo 16 = .ok (.isub, 1) := by decide +kernel
theorem dX8_undo_17 : decode cX8_undo 17 = .ok (.putfield 116, 3) := by decide +kernel
theorem dX8_undo_20 : decode cX8_undo 20 = .ok (.aload_n 0, 1) := by decide +kernel
theorem dX8_undo_21 : decode cX8_undo 21 = .ok (.aload_n 0, 1) := by decide +kernel
theorem dX8_undo_22 : decode cX8_undo 22 = .ok (.getfield 38, 3) := by decide +kernel
theorem dX8_undo_25 : decode cX8_undo 25 = .ok (.aload_n 0, 1) := by decide +kernel
theorem dX8_undo_26 : decode cX8_undo 26 = .ok (.getfield 116, 3) := by decide +kernel
theorem dX8_undo_29 : decode cX8_undo 29 = .ok (.iaload, 1) := by decide +kernel
theorem dX8_undo_30 : decode cX8_undo 30 = .ok (.invokevirtual 270, 3) := by decide +kernel
theorem dX8_undo_33 : decode cX8_undo 33 = .ok (.aload_n 0, 1) := by decide +kernel
theorem dX8_undo_34 : decode cX8_undo 34 = .ok (.getfield 116, 3) := by decide +kernel
theorem dX8_undo_37 : decode cX8_undo 37 = .ok (.ireturn, 1) := by decide +kernel
theorem dX8_comes_0 : decode cX8_comes 0 = .ok (.aload_n 0, 1) := by decide +kernel
theorem dX8_comes_1 : decode cX8_comes 1 = .ok (.getfield 274, 3) := by decide +kernel
theorem dX8_comes_4 : decode cX8_comes 4 = .ok (.iconst 1, 1) := by decide +kernel
theorem dX8_comes_5 : decode cX8_comes 5 = .ok (.isub, 1) := by decide +kernel
theorem dX8_comes_6 : decode cX8_comes 6 = .ok (.istore 4, 2) := by decide +kernel
theorem dX8_comes_8 : decode cX8_comes 8 = .ok (.iload 4, 2) := by decide +kernel
theorem dX8_comes_10 : decode cX8_comes 10 = .ok (.ifCond .lt 24, 3) := by decide +kernel
theorem dX8_comes_13 : decode cX8_comes 13 = .ok (.aload_n 0, 1) := by decide +kernel
theorem dX8_comes_14 : decode cX8_comes 14 = .ok (.getfield 44, 3) := by decide +kernel
theorem dX8_comes_17 : decode cX8_comes 17 = .ok (.iload 4, 2) := by decide +kernel
theorem dX8_comes_19 : decode cX8_comes 19 = .ok (.iaload, 1) := by decide +kernel
theorem dX8_comes_20 : decode cX8_comes 20 = .ok (.iload_n 1, 1) := by decide +kernel
theorem dX8_comes_21 : decode cX8_comes 21 = .ok (.invokestatic 255, 3) := by decide +kernel
theorem dX8_comes_24 : decode cX8_comes 24 = .ok (.iconst 1, 1) := by decide +kernel
theorem dX8_comes_25 : decode cX8_comes 25 = .ok (.if_icmp .le 9, 3) := by decide +kernel
theorem dX8_comes_28 : decode cX8_comes 28 = .ok (.iinc 4 (-1), 3) := by decide +kernel
theorem dX8_comes_31 : decode cX8_comes 31 = .ok (.goto (-23), 3) := by decide +kernel
theorem dX8_comes_34 : decode cX8_comes 34 = .ok (.iload 4, 2) := by decide +kernel
theorem dX8_comes_36 : decode cX8_comes 36 = .ok (.ifCond .lt 105, 3) := by decide +kernel
theorem dX8_comes_39 : decode cX8_comes 39 = .ok (.aload_n 0, 1) := by decide +kernel
theorem dX8_comes_40 : decode cX8_comes 40 = .ok (.getfield 44, 3) := by decide +kernel
theorem dX8_comes_43 : decode cX8_comes 43 = .ok (.iload 4, 2) := by decide +kernel
theorem dX8_comes_45 : decode cX8_comes 45 = .ok (.iaload, 1) := by decide +kernel
theorem dX8_comes_46 : decode cX8_comes 46 = .ok (.iload_n 1, 1) := by decide +kernel
theorem dX8_comes_47 : decode cX8_comes 47 = .ok (.if_icmp .ne 94, 3) := by decide +kernel
theorem dX8_comes_50 : decode cX8_comes 50 = .ok (.aload_n 0, 1) := by decide +kernel
theorem dX8_comes_51 : decode cX8_comes 51 = .ok (.getfield 47, 3) := by decide +kernel
theorem dX8_comes_54 : decode cX8_comes 54 = .ok (.iload 4, 2) := by decide +kernel
theorem dX8_comes_56 : decode cX8_comes 56 = .ok (.iaload, 1) := by decide +kernel
theorem dX8_comes_57 : decode cX8_comes 57 = .ok (.iload_n 2, 1) := by decide +kernel
theorem dX8_comes_58 : decode cX8_comes 58 = .ok (.if_icmp .eq 83, 3) := by decide +kernel
theorem dX8_comes_61 : decode cX8_comes 61 = .ok (.iload 4, 2) := by decide +kernel
theorem dX8_comes_63 : decode cX8_comes 63 = .ok (.iconst 1, 1) := by decide +kernel
theorem dX8_comes_64 : decode cX8_comes 64 = .ok (.iadd, 1) := by decide +kernel
theorem dX8_comes_65 : decode cX8_comes 65 = .ok (.istore 5, 2) := by decide +kernel
theorem dX8_comes_67 : decode cX8_comes 67 = .ok (.iload 5, 2) := by decide +kernel
theorem dX8_comes_69 : decode cX8_comes 69 = .ok (.aload_n 0, 1) := by decide +kernel
theorem dX8_comes_70 : decode cX8_comes 70 = .ok (.getfield 274, 3) := by decide +kernel
theorem dX8_comes_73 : decode cX8_comes 73 = .ok (.if_icmp .ge 57, 3) := by decide +kernel
theorem dX8_comes_76 : decode cX8_comes 76 = .ok (.aload_n 0, 1) := by decide +kernel
theorem dX8_comes_77 : decode cX8_comes 77 = .ok (.getfield 44, 3) := by decide +kernel
theorem dX8_comes_80 : decode cX8_comes 80 = .ok (.iload 5, 2) := by decide +kernel
theorem dX8_comes_82 : decode cX8_comes 82 = .ok (.iconst 1, 1) := by decide +kernel
theorem dX8_comes_83 : decode cX8_comes 83 = .ok (.isub, 1) := by decide +kernel
theorem dX8_comes_84 : decode cX8_comes 84 = .ok (.aload_n 0, 1) := by decide +kernel
theorem dX8_comes_85 : decode cX8_comes 85 = .ok (.getfield 44, 3) := by decide +kernel
theorem dX8_comes_88 : decode cX8_comes 88 = .ok (.iload 5, 2) := by decide +kernel
theorem dX8_comes_90 : decode cX8_comes 90 = .ok (.iaload, 1) := by decide +kernel
theorem dX8_comes_91 : decode cX8_comes 91 = .ok (.iastore, 1) := by decide +kernel
theorem dX8_comes_92 : decode cX8_comes 92 = .ok (.aload_n 0, 1) := by decide +kernel
theorem dX8_comes_93 : decode cX8_comes 93 = .ok (.getfield 47, 3) := by decide +kernel
theorem dX8_comes_96 : decode cX8_comes 96 = .ok (.iload 5, 2) := by decide +kernel
theorem dX8_comes_98 : decode cX8_comes 98 = .ok (.iconst 1, 1) := by decide +kernel
theorem dX8_comes_99 : decode cX8_comes 99 = .ok (.isub, 1) := by decide +kernel
theorem dX8_comes_100 : decode cX8_comes 100 = .ok (.aload_n 0, 1) := by decide +kernel
theorem dX8_comes_101 : decode cX8_comes 101 = .ok (.getfield 47, 3) := by decide +kernel
theorem dX8_comes_104 : decode cX8_comes 104 = .ok (.iload 5, 2) := by decide +kernel
theorem dX8_comes_106 : decode cX8_comes 106 = .ok (.iaload, 1) := by decide +kernel
theorem dX8_comes_107 : decode cX8_comes 107 = .ok (.iastore, 1) := by decide +kernel
theorem dX8_comes_108 : decode cX8_comes 108 = .ok (.aload_n 0, 1) := by decide +kernel
theorem dX8_comes_109 : decode cX8_comes 109 = .ok (.getfield 50, 3) := by decide +kernel
theorem dX8_comes_112 : decode cX8_comes 112 = .ok (.iload 5, 2) := by decide +kernel
theorem dX8_comes_114 : decode cX8_comes 114 = .ok (.iconst 1, 1) := by decide +kernel
theorem dX8_comes_115 : decode cX8_comes 115 = .ok (.isub, 1) := by decide +kernel
theorem dX8_comes_116 : decode cX8_comes 116 = .ok (.aload_n 0, 1) := by decide +kernel
theorem dX8_comes_117 : decode cX8_comes 117 = .ok (.getfield 50, 3) := by decide +kernel
theorem dX8_comes_120 : decode cX8_comes 120 = .ok (.iload 5, 2) := by decide +kernel
theorem dX8_comes_122 : decode cX8_comes 122 = .ok (.iaload, 1) := by decide +kernel
theorem dX8_comes_123 : decode cX8_comes 123 = .ok (.iastore, 1) := by decide +kernel
theorem dX8_comes_124 : decode cX8_comes 124 = .ok (.iinc 5 1, 3) := by decide +kernel
theorem dX8_comes_127 : decode cX8_comes 127 = .ok (.goto (-60), 3) := by decide +kernel
theorem dX8_comes_130 : decode cX8_comes 130 = .ok (.aload_n 0, 1) := by decide +kernel
theorem dX8_comes_131 : decode cX8_comes 131 = .ok (.dup, 1) := by decide +kernel
theorem dX8_comes_132 : decode cX8_comes 132 = .ok (.getfield 274, 3) := by decide +kernel
theorem dX8_comes_135 : decode cX8_comes 135 = .ok (.iconst 1, 1) := by decide +kernel
theorem dX8_comes_136 : decode cX8_comes 136 = .ok (.isub, 1) := by decide +kernel
theorem dX8_comes_137 : decode cX8_comes 137 = .ok (.putfield 274, 3) := by decide +kernel
theorem dX8_comes_140 : decode cX8_comes 140 = .ok (.return_, 1) := by decide +kernel
theorem dX8_comes_141 : decode cX8_comes 141 = .ok (.aload_n 0, 1) := by decide +kernel
theorem dX8_comes_142 : decode cX8_comes 142 = .ok (.getfield 44, 3) := by decide +kernel
theorem dX8_comes_145 : decode cX8_comes 145 = .ok (.aload_n 0, 1) := by decide +kernel
theorem dX8_comes_146 : decode cX8_comes 146 = .ok (.getfield 274, 3) := by decide +kernel
theorem dX8_comes_149 : decode cX8_comes 149 = .ok (.iload_n 1, 1) := by decide +kernel
theorem dX8_comes_150 : decode cX8_comes 150 = .ok (.iastore, 1) := by decide +kernel
theorem dX8_comes_151 : decode cX8_comes 151 = .ok (.aload_n 0, 1) := by decide +kernel
theorem dX8_comes_152 : decode cX8_comes 152 = .ok (.getfield 47, 3) := by decide +kernel
theorem dX8_comes_155 : decode cX8_comes 155 = .ok (.aload_n 0, 1) := by decide +kernel
theorem dX8_comes_156 : decode cX8_comes 156 = .ok (.getfield 274, 3) := by decide +kernel
theorem dX8_comes_159 : decode cX8_comes 159 = .ok (.iload_n 2, 1) := by decide +kernel
theorem dX8_comes_160 : decode cX8_comes 160 = .ok (.iastore, 1) := by decide +kernel
theorem dX8_comes_161 : decode cX8_comes 161 = .ok (.aload_n 0, 1) := by decide +kernel
theorem dX8_comes_162 : decode cX8_comes 162 = .ok (.getfield 50, 3) := by decide +kernel
theorem dX8_comes_165 : decode cX8_comes 165 = .ok (.aload_n 0, 1) := by decide +kernel
theorem dX8_comes_166 : decode cX8_comes 166 = .ok (.getfield 274, 3) := by decide +kernel
theorem dX8_comes_169 : decode cX8_comes 169 = .ok (.iload_n 3, 1) := by decide +kernel
theorem dX8_comes_170 : decode cX8_comes 170 = .ok (.iastore, 1) := by decide +kernel
theorem dX8_comes_171 : decode cX8_comes 171 = .ok (.aload_n 0, 1) := by decide +kernel
theorem dX8_comes_172 : decode cX8_comes 172 = .ok (.dup, 1) := by decide +kernel
theorem dX8_comes_173 : decode cX8_comes 173 = .ok (.getfield 274, 3) := by decide +kernel
theorem dX8_comes_176 : decode cX8_comes 176 = .ok (.iconst 1, 1) := by decide +kernel
theorem dX8_comes_177 : decode cX8_comes 177 = .ok (.iadd, 1) := by decide +kernel
theorem dX8_comes_178 : decode cX8_comes 178 = .ok (.putfield 274, 3) := by decide +kernel
theorem dX8_comes_181 : decode cX8_comes 181 = .ok (.return_, 1) := by decide +kernel
theorem dX8_tangle_0 : decode cX8_tangle 0 = .ok (.aload_n 0, 1) := by decide +kernel
theorem dX8_tangle_1 : decode cX8_tangle 1 = .ok (.getfield 116, 3) := by decide +kernel
theorem dX8_tangle_4 : decode cX8_tangle 4 = .ok (.iconst 1, 1) := by decide +kernel
theorem dX8_tangle_5 : decode cX8_tangle 5 = .ok (.isub, 1) := by decide +kernel
theorem dX8_tangle_6 : decode cX8_tangle 6 = .ok (.istore_n 2, 1) := by decide +kernel
theorem dX8_tangle_7 : decode cX8_tangle 7 = .ok (.iload_n 2, 1) := by decide +kernel
theorem dX8_tangle_8 : decode cX8_tangle 8 = .ok (.ifCond .lt 19, 3) := by decide +kernel
theorem dX8_tangle_11 : decode cX8_tangle 11 = .ok (.aload_n 0, 1) := by decide +kernel
theorem dX8_tangle_12 : decode cX8_tangle 12 = .ok (.aload_n 0, 1) := by decide +kernel
theorem dX8_tangle_13 : decode cX8_tangle 13 = .ok (.getfield 38, 3) := by decide +kernel
theorem dX8_tangle_16 : decode cX8_tangle 16 = .ok (.iload_n 2, 1) := by decide +kernel
theorem dX8_tangle_17 : decode cX8_tangle 17 = .ok (.iaload, 1) := by decide +kernel
theorem dX8_tangle_18 : decode cX8_tangle 18 = .ok (.invokevirtual 270, 3) := by decide +kernel
theorem dX8_tangle_21 : decode cX8_tangle 21 = .ok (.iinc 2 (-1), 3) := by decide +kernel
theorem dX8_tangle_24 : decode cX8_tangle 24 = .ok (.goto (-17), 3) := by decide +kernel
theorem dX8_tangle_27 : decode cX8_tangle 27 = .ok (.aload_n 0, 1) := by decide +kernel
theorem dX8_tangle_28 : decode cX8_tangle 28 = .ok (.iconst 0, 1) := by decide +kernel
theorem dX8_tangle_29 : decode cX8_tangle 29 = .ok (.putfield 274, 3) := by decide +kernel
theorem dX8_tangle_32 : decode cX8_tangle 32 = .ok (.iconst 0, 1) := by decide +kernel
theorem dX8_tangle_33 : decode cX8_tangle 33 = .ok (.istore_n 2, 1) := by decide +kernel
theorem dX8_tangle_34 : decode cX8_tangle 34 = .ok (.iload_n 2, 1) := by decide +kernel
theorem dX8_tangle_35 : decode cX8_tangle 35 = .ok (.aload_n 0, 1) := by decide +kernel
theorem dX8_tangle_36 : decode cX8_tangle 36 = .ok (.getfield 116, 3) := by decide +kernel
theorem dX8_tangle_39 : decode cX8_tangle 39 = .ok (.if_icmp .ge 113, 3) := by decide +kernel
theorem dX8_tangle_42 : decode cX8_tangle 42 = .ok (.aload_n 0, 1) := by decide +kernel
theorem dX8_tangle_43 : decode cX8_tangle 43 = .ok (.getfield 38, 3) := by decide +kernel
theorem dX8_tangle_46 : decode cX8_tangle 46 = .ok (.iload_n 2, 1) := by decide +kernel
theorem dX8_tangle_47 : decode cX8_tangle 47 = .ok (.iaload, 1) := by decide +kernel
theorem dX8_tangle_48 : decode cX8_tangle 48 = .ok (.istore_n 3, 1) := by decide +kernel
theorem dX8_tangle_49 : decode cX8_tangle 49 = .ok (.aload_n 0, 1) := by decide +kernel
theorem dX8_tangle_50 : decode cX8_tangle 50 = .ok (.getfield 35, 3) := by decide +kernel
theorem dX8_tangle_53 : decode cX8_tangle 53 = .ok (.iload_n 3, 1) := by decide +kernel
theorem dX8_tangle_54 : decode cX8_tangle 54 = .ok (.iaload, 1) := by decide +kernel
theorem dX8_tangle_55 : decode cX8_tangle 55 = .ok (.istore 4, 2) := by decide +kernel
theorem dX8_tangle_57 : decode cX8_tangle 57 = .ok (.aload_n 0, 1) := by decide +kernel
theorem dX8_tangle_58 : decode cX8_tangle 58 = .ok (.getfield 35, 3) := by decide +kernel
theorem dX8_tangle_61 : decode cX8_tangle 61 = .ok (.iload_n 3, 1) := by decide +kernel
theorem dX8_tangle_62 : decode cX8_tangle 62 = .ok (.iconst 1, 1) := by decide +kernel
theorem dX8_tangle_63 : decode cX8_tangle 63 = .ok (.iadd, 1) := by decide +kernel
theorem dX8_tangle_64 : decode cX8_tangle 64 = .ok (.iaload, 1) := by decide +kernel
theorem dX8_tangle_65 : decode cX8_tangle 65 = .ok (.istore 5, 2) := by decide +kernel
theorem dX8_tangle_67 : decode cX8_tangle 67 = .ok (.iconst 0, 1) := by decide +kernel
theorem dX8_tangle_68 : decode cX8_tangle 68 = .ok (.istore 6, 2) := by decide +kernel
theorem dX8_tangle_70 : decode cX8_tangle 70 = .ok (.iconst 0, 1) := by decide +kernel
theorem dX8_tangle_71 : decode cX8_tangle 71 = .ok (.istore 7, 2) := by decide +kernel
theorem dX8_tangle_73 : decode cX8_tangle 73 = .ok (.iload 7, 2) := by decide +kernel
theorem dX8_tangle_75 : decode cX8_tangle 75 = .ok (.iload_n 3, 1) := by decide +kernel
theorem dX8_tangle_76 : decode cX8_tangle 76 = .ok (.if_icmp .ge 27, 3) := by decide +kernel
theorem dX8_tangle_79 : decode cX8_tangle 79 = .ok (.iload 6, 2) := by decide +kernel
theorem dX8_tangle_81 : decode cX8_tangle 81 = .ok (.iconst 1, 1) := by decide +kernel
theorem dX8_tangle_82 : decode cX8_tangle 82 = .ok (.iload_n 1, 1) := by decide +kernel
theorem dX8_tangle_83 : decode cX8_tangle 83 = .ok (.aload_n 0, 1) := by decide +kernel
theorem dX8_tangle_84 : decode cX8_tangle 84 = .ok (.getfield 35, 3) := by decide +kernel
theorem dX8_tangle_87 : decode cX8_tangle 87 = .ok (.iload 7, 2) := by decide +kernel
theorem dX8_tangle_89 : decode cX8_tangle 89 = .ok (.iaload, 1) := by decide +kernel
theorem dX8_tangle_90 : decode cX8_tangle 90 = .ok (.ishr, 1) := by decide +kernel
theorem dX8_tangle_91 : decode cX8_tangle 91 = .ok (.iconst 1, 1) := by decide +kernel
theorem dX8_tangle_92 : decode cX8_tangle 92 = .ok (.iand, 1) := by decide +kernel
theorem dX8_tangle_93 : decode cX8_tangle 93 = .ok (.isub, 1) := by decide +kernel
theorem dX8_tangle_94 : decode cX8_tangle 94 = .ok (.iadd, 1) := by decide +kernel
theorem dX8_tangle_95 : decode cX8_tangle 95 = .ok (.istore 6, 2) := by decide +kernel
theorem dX8_tangle_97 : decode cX8_tangle 97 = .ok (.iinc 7 1, 3) := by decide +kernel
theorem dX8_tangle_100 : decode cX8_tangle 100 = .ok (.goto (-27), 3) := by decide +kernel
theorem dX8_tangle_103 : decode cX8_tangle 103 = .ok (.iload_n 1, 1) := by decide +kernel
theorem dX8_tangle_104 : decode cX8_tangle 104 = .ok (.iload 4, 2) := by decide +kernel
theorem dX8_tangle_106 : decode cX8_tangle 106 = .ok (.ishr, 1) := by decide +kernel
theorem dX8_tangle_107 : decode cX8_tangle 107 = .ok (.iconst 1, 1) := by decide +kernel
theorem dX8_tangle_108 : decode cX8_tangle 108 = .ok (.iand, 1) := by decide +kernel
theorem dX8_tangle_109 : decode cX8_tangle 109 = .ok (.ifCond .ne 32, 3) := by decide +kernel
theorem dX8_tangle_112 : decode cX8_tangle 112 = .ok (.iload_n 1, 1) := by decide +kernel
theorem dX8_tangle_113 : decode cX8_tangle 113 = .ok (.iload 5, 2) := by decide +kernel
theorem dX8_tangle_115 : decode cX8_tangle 115 = .ok (.ishr, 1) := by decide +kernel
theorem dX8_tangle_116 : decode cX8_tangle 116 = .ok (.iconst 1, 1) := by decide +kernel
theorem dX8_tangle_117 : decode cX8_tangle 117 = .ok (.iand, 1) := by decide +kernel
theorem dX8_tangle_118 : decode cX8_tangle 118 = .ok (.ifCond .ne 23, 3) := by decide +kernel
theorem dX8_tangle_121 : decode cX8_tangle 121 = .ok (.aload_n 0, 1) := by decide +kernel
theorem dX8_tangle_122 : decode cX8_tangle 122 = .ok (.iload 6, 2) := by decide +kernel
theorem dX8_tangle_124 : decode cX8_tangle 124 = .ok (.aload_n 0, 1) := by decide +kernel
theorem dX8_tangle_125 : decode cX8_tangle 125 = .ok (.getfield 41, 3) := by decide +kernel
theorem dX8_tangle_128 : decode cX8_tangle 128 = .ok (.iload_n 2, 1) := by decide +kernel
theorem dX8_tangle_129 : decode cX8_tangle 129 = .ok (.iaload, 1) := by decide +kernel
theorem dX8_tangle_130 : decode cX8_tangle 130 = .ok (.bipush 10, 2) := by decide +kernel
theorem dX8_tangle_132 : decode cX8_tangle 132 = .ok (.iload 4, 2) := by decide +kernel
theorem dX8_tangle_134 : decode cX8_tangle 134 = .ok (.imul, 1) := by decide +kernel
theorem dX8_tangle_135 : decode cX8_tangle 135 = .ok (.iload 5, 2) := by decide +kernel
theorem dX8_tangle_137 : decode cX8_tangle 137 = .ok (.iadd, 1) := by decide +kernel
theorem dX8_tangle_138 : decode cX8_tangle 138 = .ok (.invokevirtual 277, 3) := by decide +kernel
theorem dX8_tangle_141 : decode cX8_tangle 141 = .ok (.aload_n 0, 1) := by decide +kernel
theorem dX8_tangle_142 : decode cX8_tangle 142 = .ok (.iload_n 3, 1) := by decide +kernel
theorem dX8_tangle_143 : decode cX8_tangle 143 = .ok (.invokevirtual 270, 3) := by decide +kernel
theorem dX8_tangle_146 : decode cX8_tangle 146 = .ok (.iinc 2 1, 3) := by decide +kernel
theorem dX8_tangle_149 : decode cX8_tangle 149 = .ok (.goto (-115), 3) := by decide +kernel
theorem dX8_tangle_152 : decode cX8_tangle 152 = .ok (.return_, 1) := by decide +kernel
theorem dX8_comb_0 : decode cX8_comb 0 = .ok (.aload_n 0, 1) := by decide +kernel
theorem dX8_comb_1 : decode cX8_comb 1 = .ok (.iconst 0, 1) := by decide +kernel
theorem dX8_comb_2 : decode cX8_comb 2 = .ok (.invokevirtual 281, 3) := by decide +kernel
theorem dX8_comb_5 : decode cX8_comb 5 = .ok (.aload_n 0, 1) := by decide +kernel
theorem dX8_comb_6 : decode cX8_comb 6 = .ok (.getfield 116, 3) := by decide +kernel
theorem dX8_comb_9 : decode cX8_comb 9 = .ok (.aload_n 0, 1) := by decide +kernel
theorem dX8_comb_10 : decode cX8_comb 10 = .ok (.getfield 274, 3) := by decide +kernel
theorem dX8_comb_13 : decode cX8_comb 13 = .ok (.isub, 1) := by decide +kernel
theorem dX8_comb_14 : decode cX8_comb 14 = .ok (.istore_n 1, 1) := by decide +kernel
theorem dX8_comb_15 : decode cX8_comb 15 = .ok (.iconst 0, 1) := by decide +kernel
theorem dX8_comb_16 : decode cX8_comb 16 = .ok (.istore_n 2, 1) := by decide +kernel
theorem dX8_comb_17 : decode cX8_comb 17 = .ok (.iload_n 2, 1) := by decide +kernel
theorem dX8_comb_18 : decode cX8_comb 18 = .ok (.aload_n 0, 1) := by decide +kernel
theorem dX8_comb_19 : decode cX8_comb 19 = .ok (.getfield 274, 3) := by decide +kernel
theorem dX8_comb_22 : decode cX8_comb 22 = .ok (.if_icmp .ge 33, 3) := by decide +kernel
theorem dX8_comb_25 : decode cX8_comb 25 = .ok (.aload_n 0, 1) := by decide +kernel
theorem dX8_comb_26 : decode cX8_comb 26 = .ok (.getfield 38, 3) := by decide +kernel
theorem dX8_comb_29 : decode cX8_comb 29 = .ok (.iload_n 2, 1) := by decide +kernel
theorem dX8_comb_30 : decode cX8_comb 30 = .ok (.aload_n 0, 1) := by decide +kernel
theorem dX8_comb_31 : decode cX8_comb 31 = .ok (.getfield 44, 3) := by decide +kernel
theorem dX8_comb_34 : decode cX8_comb 34 = .ok (.iload_n 2, 1) := by decide +kernel
theorem dX8_comb_35 : decode cX8_comb 35 = .ok (.iaload, 1) := by decide +kernel
theorem dX8_comb_36 : decode cX8_comb 36 = .ok (.iastore, 1) := by decide +kernel
theorem dX8_comb_37 : decode cX8_comb 37 = .ok (.aload_n 0, 1) := by decide +kernel
theorem dX8_comb_38 : decode cX8_comb 38 = .ok (.getfield 41, 3) := by decide +kernel
theorem dX8_comb_41 : decode cX8_comb 41 = .ok (.iload_n 2, 1) := by decide +kernel
theorem dX8_comb_42 : decode cX8_comb 42 = .ok (.aload_n 0, 1) := by decide +kernel
theorem dX8_comb_43 : decode cX8_comb 43 = .ok (.getfield 47, 3) := by decide +kernel
theorem dX8_comb_46 : decode cX8_comb 46 = .ok (.iload_n 2, 1) := by decide +kernel
theorem dX8_comb_47 : decode cX8_comb 47 = .ok (.iaload, 1) := by decide +kernel
theorem dX8_comb_48 : decode cX8_comb 48 = .ok (.iastore, 1) := by decide +kernel
theorem dX8_comb_49 : decode cX8_comb 49 = .ok (.iinc 2 1, 3) := by decide +kernel
theorem dX8_comb_52 : decode cX8_comb 52 = .ok (.goto (-35), 3) := by decide +kernel
theorem dX8_comb_55 : decode cX8_comb 55 = .ok (.aload_n 0, 1) := by decide +kernel
theorem dX8_comb_56 : decode cX8_comb 56 = .ok (.aload_n 0, 1) := by decide +kernel
theorem dX8_comb_57 : decode cX8_comb 57 = .ok (.getfield 274, 3) := by decide +kernel
theorem dX8_comb_60 : decode cX8_comb 60 = .ok (.putfield 116, 3) := by decide +kernel
theorem dX8_comb_63 : decode cX8_comb 63 = .ok (.iload_n 1, 1) := by decide +kernel
theorem dX8_comb_64 : decode cX8_comb 64 = .ok (.ireturn, 1) := by decide +kernel
theorem dX8_at_0 : decode cX8_at 0 = .ok (.aload_n 0, 1) := by decide +kernel
theorem dX8_at_1 : decode cX8_at 1 = .ok (.iload_n 1, 1) := by decide +kernel
theorem dX8_at_2 : decode cX8_at 2 = .ok (.invokevirtual 119, 3) := by decide +kernel
theorem dX8_at_5 : decode cX8_at 5 = .ok (.ifCond .eq 12, 3) := by decide +kernel
theorem dX8_at_8 : decode cX8_at 8 = .ok (.aload_n 0, 1) := by decide +kernel
theorem dX8_at_9 : decode cX8_at 9 = .ok (.getfield 35, 3) := by decide +kernel
theorem dX8_at_12 : decode cX8_at 12 = .ok (.iload_n 1, 1) := by decide +kernel
theorem dX8_at_13 : decode cX8_at 13 = .ok (.iaload, 1) := by decide +kernel
theorem dX8_at_14 : decode cX8_at 14 = .ok (.goto 5, 3) := by decide +kernel
theorem dX8_at_17 : decode cX8_at 17 = .ok (.bipush (-2), 2) := by decide +kernel
theorem dX8_at_19 : decode cX8_at 19 = .ok (.ireturn, 1) := by decide +kernel
theorem dX8_left_0 : decode cX8_left 0 = .ok (.aload_n 0, 1) := by decide +kernel
theorem dX8_left_1 : decode cX8_left 1 = .ok (.iconst 0, 1) := by decide +kernel
theorem dX8_left_2 : decode cX8_left 2 = .ok (.invokevirtual 281, 3) := by decide +kernel
theorem dX8_left_5 : decode cX8_left 5 = .ok (.iload_n 1, 1) := by decide +kernel
theorem dX8_left_6 : decode cX8_left 6 = .ok (.i2l, 1) := by decide +kernel
theorem dX8_left_7 : decode cX8_left 7 = .ok (.lconst 0, 1) := by decide +kernel
theorem dX8_left_8 : decode cX8_left 8 = .ok (.aload_n 0, 1) := by decide +kernel
theorem dX8_left_9 : decode cX8_left 9 = .ok (.getfield 274, 3) := by decide +kernel
theorem dX8_left_12 : decode cX8_left 12 = .ok (.iconst 1, 1) := by decide +kernel
theorem dX8_left_13 : decode cX8_left 13 = .ok (.isub, 1) := by decide +kernel
theorem dX8_left_14 : decode cX8_left 14 = .ok (.i2l, 1) := by decide +kernel
theorem dX8_left_15 : decode cX8_left 15 = .ok (.invokestatic 106, 3) := by decide +kernel
theorem dX8_left_18 : decode cX8_left 18 = .ok (.ifCond .eq 22, 3) := by decide +kernel
theorem dX8_left_21 : decode cX8_left 21 = .ok (.bipush 10, 2) := by decide +kernel
theorem dX8_left_23 : decode cX8_left 23 = .ok (.aload_n 0, 1) := by decide +kernel
theorem dX8_left_24 : decode cX8_left 24 = .ok (.getfield 44, 3) := by decide +kernel
theorem dX8_left_27 : decode cX8_left 27 = .ok (.iload_n 1, 1) := by decide +kernel
theorem dX8_left_28 : decode cX8_left 28 = .ok (.iaload, 1) := by decide +kernel
theorem dX8_left_29 : decode cX8_left 29 = .ok (.imul, 1) := by decide +kernel
theorem dX8_left_30 : decode cX8_left 30 = .ok (.aload_n 0, 1) := by decide +kernel
theorem dX8_left_31 : decode cX8_left 31 = .ok (.getfield 47, 3) := by decide +kernel
theorem dX8_left_34 : decode cX8_left 34 = .ok (.iload_n 1, 1) := by decide +kernel
theorem dX8_left_35 : decode cX8_left 35 = .ok (.iaload, 1) := by decide +kernel
theorem dX8_left_36 : decode cX8_left 36 = .ok (.iadd, 1) := by decide +kernel
theorem dX8_left_37 : decode cX8_left 37 = .ok (.goto 4, 3) := by decide +kernel
theorem dX8_left_40 : decode cX8_left 40 = .ok (.iconst (-1), 1) := by decide +kernel
theorem dX8_left_41 : decode cX8_left 41 = .ok (.ireturn, 1) := by decide +kernel
theorem dX8_who_0 : decode cX8_who 0 = .ok (.aload_n 0, 1) := by decide +kernel
theorem dX8_who_1 : decode cX8_who 1 = .ok (.iload_n 1, 1) := by decide +kernel
theorem dX8_who_2 : decode cX8_who 2 = .ok (.invokevirtual 119, 3) := by decide +kernel
theorem dX8_who_5 : decode cX8_who 5 = .ok (.ifCond .eq 11, 3) := by decide +kernel
theorem dX8_who_8 : decode cX8_who 8 = .ok (.aload_n 0, 1) := by decide +kernel
theorem dX8_who_9 : decode cX8_who 9 = .ok (.iload_n 2, 1) := by decide +kernel
theorem dX8_who_10 : decode cX8_who 10 = .ok (.invokevirtual 119, 3) := by decide +kernel
theorem dX8_who_13 : decode cX8_who 13 = .ok (.ifCond .ne 6, 3) := by decide +kernel
theorem dX8_who_16 : decode cX8_who 16 = .ok (.bipush (-2), 2) := by decide +kernel
theorem dX8_who_18 : decode cX8_who 18 = .ok (.ireturn, 1) := by decide +kernel
theorem dX8_who_19 : decode cX8_who 19 = .ok (.aload_n 0, 1) := by decide +kernel
theorem dX8_who_20 : decode cX8_who 20 = .ok (.iconst 0, 1) := by decide +kernel
theorem dX8_who_21 : decode cX8_who 21 = .ok (.invokevirtual 281, 3) := by decide +kernel
theorem dX8_who_24 : decode cX8_who 24 = .ok (.iconst 0, 1) := by decide +kernel
theorem dX8_who_25 : decode cX8_who 25 = .ok (.istore_n 3, 1) := by decide +kernel
theorem dX8_who_26 : decode cX8_who 26 = .ok (.iconst 0, 1) := by decide +kernel
theorem dX8_who_27 : decode cX8_who 27 = .ok (.istore 4, 2) := by decide +kernel
theorem dX8_who_29 : decode cX8_who 29 = .ok (.iload 4, 2) := by decide +kernel
theorem dX8_who_31 : decode cX8_who 31 = .ok (.aload_n 0, 1) := by decide +kernel
theorem dX8_who_32 : decode cX8_who 32 = .ok (.getfield 274, 3) := by decide +kernel
theorem dX8_who_35 : decode cX8_who 35 = .ok (.if_icmp .ge 80, 3) := by decide +kernel
theorem dX8_who_38 : decode cX8_who 38 = .ok (.aload_n 0, 1) := by decide +kernel
theorem dX8_who_39 : decode cX8_who 39 = .ok (.getfield 50, 3) := by decide +kernel
theorem dX8_who_42 : decode cX8_who 42 = .ok (.iload 4, 2) := by decide +kernel
theorem dX8_who_44 : decode cX8_who 44 = .ok (.iaload, 1) := by decide +kernel
theorem dX8_who_45 : decode cX8_who 45 = .ok (.bipush 10, 2) := by decide +kernel
theorem dX8_who_47 : decode cX8_who 47 = .ok (.idiv, 1) := by decide +kernel
theorem dX8_who_48 : decode cX8_who 48 = .ok (.istore 5, 2) := by decide +kernel
theorem dX8_who_50 : decode cX8_who 50 = .ok (.aload_n 0, 1) := by decide +kernel
theorem dX8_who_51 : decode cX8_who 51 = .ok (.getfield 50, 3) := by decide +kernel
theorem dX8_who_54 : decode cX8_who 54 = .ok (.iload 4, 2) := by decide +kernel
theorem dX8_who_56 : decode cX8_who 56 = .ok (.iaload, 1) := by decide +kernel
theorem dX8_who_57 : decode cX8_who 57 = .ok (.bipush 10, 2) := by decide +kernel
theorem dX8_who_59 : decode cX8_who 59 = .ok (.irem, 1) := by decide +kernel
theorem dX8_who_60 : decode cX8_who 60 = .ok (.istore 6, 2) := by decide +kernel
theorem dX8_who_62 : decode cX8_who 62 = .ok (.iload_n 1, 1) := by decide +kernel
theorem dX8_who_63 : decode cX8_who 63 = .ok (.iload_n 2, 1) := by decide +kernel
theorem dX8_who_64 : decode cX8_who 64 = .ok (.if_icmp .ne 18, 3) := by decide +kernel
theorem dX8_who_67 : decode cX8_who 67 = .ok (.iload 5, 2) := by decide +kernel
theorem dX8_who_69 : decode cX8_who 69 = .ok (.iload_n 1, 1) := by decide +kernel
theorem dX8_who_70 : decode cX8_who 70 = .ok (.if_icmp .eq 36, 3) := by decide +kernel
theorem dX8_who_73 : decode cX8_who 73 = .ok (.iload 6, 2) := by decide +kernel
theorem dX8_who_75 : decode cX8_who 75 = .ok (.iload_n 1, 1) := by decide +kernel
theorem dX8_who_76 : decode cX8_who 76 = .ok (.if_icmp .ne 33, 3) := by decide +kernel
theorem dX8_who_79 : decode cX8_who 79 = .ok (.goto 27, 3) := by decide +kernel
theorem dX8_who_82 : decode cX8_who 82 = .ok (.iload 5, 2) := by decide +kernel
theorem dX8_who_84 : decode cX8_who 84 = .ok (.iload_n 1, 1) := by decide +kernel
theorem dX8_who_85 : decode cX8_who 85 = .ok (.if_icmp .ne 9, 3) := by decide +kernel
theorem dX8_who_88 : decode cX8_who 88 = .ok (.iload 6, 2) := by decide +kernel
theorem dX8_who_90 : decode cX8_who 90 = .ok (.iload_n 2, 1) := by decide +kernel
theorem dX8_who_91 : decode cX8_who 91 = .ok (.if_icmp .eq 15, 3) := by decide +kernel
theorem dX8_who_94 : decode cX8_who 94 = .ok (.iload 5, 2) := by decide +kernel
theorem dX8_who_96 : decode cX8_who 96 = .ok (.iload_n 2, 1) := by decide +kernel
theorem dX8_who_97 : decode cX8_who 97 = .ok (.if_icmp .ne 12, 3) := by decide +kernel
theorem dX8_who_100 : decode cX8_who 100 = .ok (.iload 6, 2) := by decide +kernel
theorem dX8_who_102 : decode cX8_who 102 = .ok (.iload_n 1, 1) := by decide +kernel
theorem dX8_who_103 : decode cX8_who 103 = .ok (.if_icmp .ne 6, 3) := by decide +kernel
theorem dX8_who_106 : decode cX8_who 106 = .ok (.iinc 3 1, 3) := by decide +kernel
theorem dX8_who_109 : decode cX8_who 109 = .ok (.iinc 4 1, 3) := by decide +kernel
theorem dX8_who_112 : decode cX8_who 112 = .ok (.goto (-83), 3) := by decide +kernel
theorem dX8_who_115 : decode cX8_who 115 = .ok (.iload_n 1, 1) := by decide +kernel
theorem dX8_who_116 : decode cX8_who 116 = .ok (.iload_n 2, 1) := by decide +kernel
theorem dX8_who_117 : decode cX8_who 117 = .ok (.if_icmp .ne 11, 3) := by decide +kernel
theorem dX8_who_120 : decode cX8_who 120 = .ok (.iload_n 3, 1) := by decide +kernel
theorem dX8_who_121 : decode cX8_who 121 = .ok (.ifCond .le 7, 3) := by decide +kernel
theorem dX8_who_124 : decode cX8_who 124 = .ok (.iconst 1, 1) := by decide +kernel
theorem dX8_who_125 : decode cX8_who 125 = .ok (.goto 4, 3) := by decide +kernel
theorem dX8_who_128 : decode cX8_who 128 = .ok (.iload_n 3, 1) := by decide +kernel
theorem dX8_who_129 : decode cX8_who 129 = .ok (.ireturn, 1) := by decide +kernel
theorem dX8_without_0 : decode cX8_without 0 = .ok (.iload_n 1, 1) := by decide +kernel
theorem dX8_without_1 : decode cX8_without 1 = .ok (.i2l, 1) := by decide +kernel
theorem dX8_without_2 : decode cX8_without 2 = .ok (.lconst 0, 1) := by decide +kernel
theorem dX8_without_3 : decode cX8_without 3 = .ok (.iconst 1, 1) := by decide +kernel
theorem dX8_without_4 : decode cX8_without 4 = .ok (.aload_n 0, 1) := by decide +kernel
theorem dX8_without_5 : decode cX8_without 5 = .ok (.getfield 103, 3) := by decide +kernel
theorem dX8_without_8 : decode cX8_without 8 = .ok (.ishl, 1) := by decide +kernel
theorem dX8_without_9 : decode cX8_without 9 = .ok (.iconst 1, 1) := by decide +kernel
theorem dX8_without_10 : decode cX8_without 10 = .ok (.isub, 1) := by decide +kernel
theorem dX8_without_11 : decode cX8_without 11 = .ok (.i2l, 1) := by decide +kernel
theorem dX8_without_12 : decode cX8_without 12 = .ok (.invokestatic 106, 3) := by decide +kernel
theorem dX8_without_15 : decode cX8_without 15 = .ok (.ifCond .ne 6, 3) := by decide +kernel
theorem dX8_without_18 : decode cX8_without 18 = .ok (.bipush (-2), 2) := by decide +kernel
theorem dX8_without_20 : decode cX8_without 20 = .ok (.ireturn, 1) := by decide +kernel
theorem dX8_without_21 : decode cX8_without 21 = .ok (.aload_n 0, 1) := by decide +kernel
theorem dX8_without_22 : decode cX8_without 22 = .ok (.iload_n 1, 1) := by decide +kernel
theorem dX8_without_23 : decode cX8_without 23 = .ok (.invokevirtual 281, 3) := by decide +kernel
theorem dX8_without_26 : decode cX8_without 26 = .ok (.aload_n 0, 1) := by decide +kernel
theorem dX8_without_27 : decode cX8_without 27 = .ok (.getfield 274, 3) := by decide +kernel
theorem dX8_without_30 : decode cX8_without 30 = .ok (.ireturn, 1) := by decide +kernel
theorem dX8_unclip_0 : decode cX8_unclip 0 = .ok (.iload_n 1, 1) := by decide +kernel
theorem dX8_unclip_1 : decode cX8_unclip 1 = .ok (.i2l, 1) := by decide +kernel
theorem dX8_unclip_2 : decode cX8_unclip 2 = .ok (.lconst 0, 1) := by decide +kernel
theorem dX8_unclip_3 : decode cX8_unclip 3 = .ok (.lconst 1, 1) := by decide +kernel
theorem dX8_unclip_4 : decode cX8_unclip 4 = .ok (.invokestatic 106, 3) := by decide +kernel
theorem dX8_unclip_7 : decode cX8_unclip 7 = .ok (.ifCond .ne 6, 3) := by decide +kernel
theorem dX8_unclip_10 : decode cX8_unclip 10 = .ok (.bipush (-2), 2) := by decide +kernel
theorem dX8_unclip_12 : decode cX8_unclip 12 = .ok (.ireturn, 1) := by decide +kernel
theorem dX8_unclip_13 : decode cX8_unclip 13 = .ok (.iconst (-1), 1) := by decide +kernel
theorem dX8_unclip_14 : decode cX8_unclip 14 = .ok (.istore_n 2, 1) := by decide +kernel
theorem dX8_unclip_15 : decode cX8_unclip 15 = .ok (.iconst 0, 1) := by decide +kernel
theorem dX8_unclip_16 : decode cX8_unclip 16 = .ok (.istore_n 3, 1) := by decide +kernel
theorem dX8_unclip_17 : decode cX8_unclip 17 = .ok (.iload_n 3, 1) := by decide +kernel
theorem dX8_unclip_18 : decode cX8_unclip 18 = .ok (.iconst 1, 1) := by decide +kernel
theorem dX8_unclip_19 : decode cX8_unclip 19 = .ok (.aload_n 0, 1) := by decide +kernel
theorem dX8_unclip_20 : decode cX8_unclip 20 = .ok (.getfield 103, 3) := by decide +kernel
theorem dX8_unclip_23 : decode cX8_unclip 23 = .ok (.ishl, 1) := by decide +kernel
theorem dX8_unclip_24 : decode cX8_unclip 24 = .ok (.if_icmp .ge 39, 3) := by decide +kernel
theorem dX8_unclip_27 : decode cX8_unclip 27 = .ok (.iload_n 2, 1) := by decide +kernel
theorem dX8_unclip_28 : decode cX8_unclip 28 = .ok (.iconst (-1), 1) := by decide +kernel
theorem dX8_unclip_29 : decode cX8_unclip 29 = .ok (.if_icmp .eq 14, 3) := by decide +kernel
theorem dX8_unclip_32 : decode cX8_unclip 32 = .ok (.iload_n 3, 1) := by decide +kernel
theorem dX8_unclip_33 : decode cX8_unclip 33 = .ok (.invokestatic 284, 3) := by decide +kernel
theorem dX8_unclip_36 : decode cX8_unclip 36 = .ok (.iload_n 2, 1) := by decide +kernel
theorem dX8_unclip_37 : decode cX8_unclip 37 = .ok (.invokestatic 284, 3) := by decide +kernel
theorem dX8_unclip_40 : decode cX8_unclip 40 = .ok (.if_icmp .ge 17, 3) := by decide +kernel
theorem dX8_unclip_43 : decode cX8_unclip 43 = .ok (.aload_n 0, 1) := by decide +kernel
theorem dX8_unclip_44 : decode cX8_unclip 44 = .ok (.iload_n 3, 1) := by decide +kernel
theorem dX8_unclip_45 : decode cX8_unclip 45 = .ok (.invokevirtual 281, 3) := by decide +kernel
theorem dX8_unclip_48 : decode cX8_unclip 48 = .ok (.aload_n 0, 1) := by decide +kernel
theorem dX8_unclip_49 : decode cX8_unclip 49 = .ok (.getfield 274, 3) := by decide +kernel
theorem dX8_unclip_52 : decode cX8_unclip 52 = .ok (.ifCond .ne 5, 3) := by decide +kernel
theorem dX8_unclip_55 : decode cX8_unclip 55 = .ok (.iload_n 3, 1) := by decide +kernel
theorem dX8_unclip_56 : decode cX8_unclip 56 = .ok (.istore_n 2, 1) := by decide +kernel
theorem dX8_unclip_57 : decode cX8_unclip 57 = .ok (.iinc 3 1, 3) := by decide +kernel
theorem dX8_unclip_60 : decode cX8_unclip 60 = .ok (.goto (-43), 3) := by decide +kernel
theorem dX8_unclip_63 : decode cX8_unclip 63 = .ok (.iload_n 1, 1) := by decide +kernel
theorem dX8_unclip_64 : decode cX8_unclip 64 = .ok (.ifCond .ne 7, 3) := by decide +kernel
theorem dX8_unclip_67 : decode cX8_unclip 67 = .ok (.iload_n 2, 1) := by decide +kernel
theorem dX8_unclip_68 : decode cX8_unclip 68 = .ok (.goto 7, 3) := by decide +kernel
theorem dX8_unclip_71 : decode cX8_unclip 71 = .ok (.iload_n 2, 1) := by decide +kernel
theorem dX8_unclip_72 : decode cX8_unclip 72 = .ok (.invokestatic 284, 3) := by decide +kernel
theorem dX8_unclip_75 : decode cX8_unclip 75 = .ok (.ireturn, 1) := by decide +kernel
theorem dX8_cost_0 : decode cX8_cost 0 = .ok (.aload_n 0, 1) := by decide +kernel
theorem dX8_cost_1 : decode cX8_cost 1 = .ok (.iconst 0, 1) := by decide +kernel
theorem dX8_cost_2 : decode cX8_cost 2 = .ok (.invokevirtual 281, 3) := by decide +kernel
theorem dX8_cost_5 : decode cX8_cost 5 = .ok (.iconst 0, 1) := by decide +kernel
theorem dX8_cost_6 : decode cX8_cost 6 = .ok (.istore_n 1, 1) := by decide +kernel
theorem dX8_cost_7 : decode cX8_cost 7 = .ok (.iconst 0, 1) := by decide +kernel
theorem dX8_cost_8 : decode cX8_cost 8 = .ok (.istore_n 2, 1) := by decide +kernel
theorem dX8_cost_9 : decode cX8_cost 9 = .ok (.iload_n 2, 1) := by decide +kernel
theorem dX8_cost_10 : decode cX8_cost 10 = .ok (.aload_n 0, 1) := by decide +kernel
theorem dX8_cost_11 : decode cX8_cost 11 = .ok (.getfield 274, 3) := by decide +kernel
theorem dX8_cost_14 : decode cX8_cost 14 = .ok (.if_icmp .ge 35, 3) := by decide +kernel
theorem dX8_cost_17 : decode cX8_cost 17 = .ok (.iload_n 1, 1) := by decide +kernel
theorem dX8_cost_18 : decode cX8_cost 18 = .ok (.aload_n 0, 1) := by decide +kernel
theorem dX8_cost_19 : decode cX8_cost 19 = .ok (.iconst 2, 1) := by decide +kernel
theorem dX8_cost_20 : decode cX8_cost 20 = .ok (.aload_n 0, 1) := by decide +kernel
theorem dX8_cost_21 : decode cX8_cost 21 = .ok (.getfield 50, 3) := by decide +kernel
theorem dX8_cost_24 : decode cX8_cost 24 = .ok (.iload_n 2, 1) := by decide +kernel
theorem dX8_cost_25 : decode cX8_cost 25 = .ok (.iaload, 1) := by decide +kernel
theorem dX8_cost_26 : decode cX8_cost 26 = .ok (.bipush 10, 2) := by decide +kernel
theorem dX8_cost_28 : decode cX8_cost 28 = .ok (.idiv, 1) := by decide +kernel
theorem dX8_cost_29 : decode cX8_cost 29 = .ok (.aload_n 0, 1) := by decide +kernel
theorem dX8_cost_30 : decode cX8_cost 30 = .ok (.getfield 50, 3) := by decide +kernel
theorem dX8_cost_33 : decode cX8_cost 33 = .ok (.iload_n 2, 1) := by decide +kernel
theorem dX8_cost_34 : decode cX8_cost 34 = .ok (.iaload, 1) := by decide +kernel
theorem dX8_cost_35 : decode cX8_cost 35 = .ok (.bipush 10, 2) := by decide +kernel
theorem dX8_cost_37 : decode cX8_cost 37 = .ok (.irem, 1) := by decide +kernel
theorem dX8_cost_38 : decode cX8_cost 38 = .ok (.invokevirtual 266, 3) := by decide +kernel
theorem dX8_cost_41 : decode cX8_cost 41 = .ok (.iadd, 1) := by decide +kernel
theorem dX8_cost_42 : decode cX8_cost 42 = .ok (.istore_n 1, 1) := by decide +kernel
theorem dX8_cost_43 : decode cX8_cost 43 = .ok (.iinc 2 1, 3) := by decide +kernel
theorem dX8_cost_46 : decode cX8_cost 46 = .ok (.goto (-37), 3) := by decide +kernel
theorem dX8_cost_49 : decode cX8_cost 49 = .ok (.iload_n 1, 1) := by decide +kernel
theorem dX8_cost_50 : decode cX8_cost 50 = .ok (.ireturn, 1) := by decide +kernel
theorem dX8_atOddsNow_0 : decode cX8_atOddsNow 0 = .ok (.iconst 0, 1) := by decide +kernel
theorem dX8_atOddsNow_1 : decode cX8_atOddsNow 1 = .ok (.istore_n 1, 1) := by decide +kernel
theorem dX8_atOddsNow_2 : decode cX8_atOddsNow 2 = .ok (.iconst 0, 1) := by decide +kernel
theorem dX8_atOddsNow_3 : decode cX8_atOddsNow 3 = .ok (.istore_n 2, 1) := by decide +kernel
theorem dX8_atOddsNow_4 : decode cX8_atOddsNow 4 = .ok (.iload_n 2, 1) := by decide +kernel
theorem dX8_atOddsNow_5 : decode cX8_atOddsNow 5 = .ok (.iconst 1, 1) := by decide +kernel
theorem dX8_atOddsNow_6 : decode cX8_atOddsNow 6 = .ok (.iadd, 1) := by decide +kernel
theorem dX8_atOddsNow_7 : decode cX8_atOddsNow 7 = .ok (.aload_n 0, 1) := by decide +kernel
theorem dX8_atOddsNow_8 : decode cX8_atOddsNow 8 = .ok (.getfield 103, 3) := by decide +kernel
theorem dX8_atOddsNow_11 : decode cX8_atOddsNow 11 = .ok (.if_icmp .ge 31, 3) := by decide +kernel
theorem dX8_atOddsNow_14 : decode cX8_atOddsNow 14 = .ok (.iload_n 1, 1) := by decide +kernel
theorem dX8_atOddsNow_15 : decode cX8_atOddsNow 15 = .ok (.aload_n 0, 1) := by decide +kernel
theorem dX8_atOddsNow_16 : decode cX8_atOddsNow 16 = .ok (.iconst 0, 1) := by decide +kernel
theorem dX8_atOddsNow_17 : decode cX8_atOddsNow 17 = .ok (.aload_n 0, 1) := by decide +kernel
theorem dX8_atOddsNow_18 : decode cX8_atOddsNow 18 = .ok (.getfield 35, 3) := by decide +kernel
theorem dX8_atOddsNow_21 : decode cX8_atOddsNow 21 = .ok (.iload_n 2, 1) := by decide +kernel
theorem dX8_atOddsNow_22 : decode cX8_atOddsNow 22 = .ok (.iaload, 1) := by decide +kernel
theorem dX8_atOddsNow_23 : decode cX8_atOddsNow 23 = .ok (.aload_n 0, 1) := by decide +kernel
theorem dX8_atOddsNow_24 : decode cX8_atOddsNow 24 = .ok (.getfield 35, 3) := by decide +kernel
theorem dX8_atOddsNow_27 : decode cX8_atOddsNow 27 = .ok (.iload_n 2, 1) := by decide +kernel
theorem dX8_atOddsNow_28 : decode cX8_atOddsNow 28 = .ok (.iconst 1, 1) := by decide +kernel
theorem dX8_atOddsNow_29 : decode cX8_atOddsNow 29 = .ok (.iadd, 1) := by decide +kernel
theorem dX8_atOddsNow_30 : decode cX8_atOddsNow 30 = .ok (.iaload, 1) := by decide +kernel
theorem dX8_atOddsNow_31 : decode cX8_atOddsNow 31 = .ok (.invokevirtual 266, 3) := by decide +kernel
theorem dX8_atOddsNow_34 : decode cX8_atOddsNow 34 = .ok (.iadd, 1) := by decide +kernel
theorem dX8_atOddsNow_35 : decode cX8_atOddsNow 35 = .ok (.istore_n 1, 1) := by decide +kernel
theorem dX8_atOddsNow_36 : decode cX8_atOddsNow 36 = .ok (.iinc 2 1, 3) := by decide +kernel
theorem dX8_atOddsNow_39 : decode cX8_atOddsNow 39 = .ok (.goto (-35), 3) := by decide +kernel
theorem dX8_atOddsNow_42 : decode cX8_atOddsNow 42 = .ok (.iload_n 1, 1) := by decide +kernel
theorem dX8_atOddsNow_43 : decode cX8_atOddsNow 43 = .ok (.ireturn, 1) := by decide +kernel
theorem dX8_orders_0 : decode cX8_orders 0 = .ok (.iload_n 1, 1) := by decide +kernel
theorem dX8_orders_1 : decode cX8_orders 1 = .ok (.aload_n 0, 1) := by decide +kernel
theorem dX8_orders_2 : decode cX8_orders 2 = .ok (.getfield 103, 3) := by decide +kernel
theorem dX8_orders_5 : decode cX8_orders 5 = .ok (.if_icmp .ne 62, 3) := by decide +kernel
theorem dX8_orders_8 : decode cX8_orders 8 = .ok (.aload_n 0, 1) := by decide +kernel
theorem dX8_orders_9 : decode cX8_orders 9 = .ok (.invokevirtual 287, 3) := by decide +kernel
theorem dX8_orders_12 : decode cX8_orders 12 = .ok (.istore_n 3, 1) := by decide +kernel
theorem dX8_orders_13 : decode cX8_orders 13 = .ok (.aload_n 0, 1) := by decide +kernel
theorem dX8_orders_14 : decode cX8_orders 14 = .ok (.getfield 290, 3) := by decide +kernel
theorem dX8_orders_17 : decode cX8_orders 17 = .ok (.iconst (-1), 1) := by decide +kernel
theorem dX8_orders_18 : decode cX8_orders 18 = .ok (.if_icmp .eq 11, 3) := by decide +kernel
theorem dX8_orders_21 : decode cX8_orders 21 = .ok (.iload_n 3, 1) := by decide +kernel
theorem dX8_orders_22 : decode cX8_orders 22 = .ok (.aload_n 0, 1) := by decide +kernel
theorem dX8_orders_23 : decode cX8_orders 23 = .ok (.getfield 290, 3) := by decide +kernel
theorem dX8_orders_26 : decode cX8_orders 26 = .ok (.if_icmp .ge 40, 3) := by decide +kernel
theorem dX8_orders_29 : decode cX8_orders 29 = .ok (.aload_n 0, 1) := by decide +kernel
theorem dX8_orders_30 : decode cX8_orders 30 = .ok (.iload_n 3, 1) := by decide +kernel
theorem dX8_orders_31 : decode cX8_orders 31 = .ok (.putfield 290, 3) := by decide +kernel
theorem dX8_orders_34 : decode cX8_orders 34 = .ok (.iconst 0, 1) := by decide +kernel
theorem dX8_orders_35 : decode cX8_orders 35 = .ok (.istore 4, 2) := by decide +kernel
theorem dX8_orders_37 : decode cX8_orders 37 = .ok (.iload 4, 2) := by decide +kernel
theorem dX8_orders_39 : decode cX8_orders 39 = .ok (.aload_n 0, 1) := by decide +kernel
theorem dX8_orders_40 : decode cX8_orders 40 = .ok (.getfield 103, 3) := by decide +kernel
theorem dX8_orders_43 : decode cX8_orders 43 = .ok (.if_icmp .ge 23, 3) := by decide +kernel
theorem dX8_orders_46 : decode cX8_orders 46 = .ok (.aload_n 0, 1) := by decide +kernel
theorem dX8_orders_47 : decode cX8_orders 47 = .ok (.getfield 56, 3) := by decide +kernel
theorem dX8_orders_50 : decode cX8_orders 50 = .ok (.iload 4, 2) := by decide +kernel
theorem dX8_orders_52 : decode cX8_orders 52 = .ok (.aload_n 0, 1) := by decide +kernel
theorem dX8_orders_53 : decode cX8_orders 53 = .ok (.getfield 35, 3) := by decide +kernel
theorem dX8_orders_56 : decode cX8_orders 56 = .ok (.iload 4, 2) := by decide +kernel
theorem dX8_orders_58 : decode cX8_orders 58 = .ok (.iaload, 1) := by decide +kernel
theorem dX8_orders_59 : decode cX8_orders 59 = .ok (.iastore, 1) := by decide +kernel
theorem dX8_orders_60 : decode cX8_orders 60 = .ok (.iinc 4 1, 3) := by decide +kernel
theorem dX8_orders_63 : decode cX8_orders 63 = .ok (.goto (-26), 3) := by decide +kernel
theorem dX8_orders_66 : decode cX8_orders 66 = .ok (.return_, 1) := by decide +kernel
theorem dX8_orders_67 : decode cX8_orders 67 = .ok (.iconst 0, 1) := by decide +kernel
theorem dX8_orders_68 : decode cX8_orders 68 = .ok (.istore_n 3, 1) := by decide +kernel
theorem dX8_orders_69 : decode cX8_orders 69 = .ok (.iload_n 3, 1) := by decide +kernel
theorem dX8_orders_70 : decode cX8_orders 70 = .ok (.aload_n 0, 1) := by decide +kernel
theorem dX8_orders_71 : decode cX8_orders 71 = .ok (.getfield 103, 3) := by decide +kernel
theorem dX8_orders_74 : decode cX8_orders 74 = .ok (.if_icmp .ge 36, 3) := by decide +kernel
theorem dX8_orders_77 : decode cX8_orders 77 = .ok (.iload_n 2, 1) := by decide +kernel
theorem dX8_orders_78 : decode cX8_orders 78 = .ok (.iload_n 3, 1) := by decide +kernel
theorem dX8_orders_79 : decode cX8_orders 79 = .ok (.ishr, 1) := by decide +kernel
theorem dX8_orders_80 : decode cX8_orders 80 = .ok (.iconst 1, 1) := by decide +kernel
theorem dX8_orders_81 : decode cX8_orders 81 = .ok (.iand, 1) := by decide +kernel
theorem dX8_orders_82 : decode cX8_orders 82 = .ok (.ifCond .ne 22, 3) := by decide +kernel
theorem dX8_orders_85 : decode cX8_orders 85 = .ok (.aload_n 0, 1) := by decide +kernel
theorem dX8_orders_86 : decode cX8_orders 86 = .ok (.getfield 35, 3) := by decide +kernel
theorem dX8_orders_89 : decode cX8_orders 89 = .ok (.iload_n 1, 1) := by decide +kernel
theorem dX8_orders_90 : decode cX8_orders 90 = .ok (.iload_n 3, 1) := by decide +kernel
theorem dX8_orders_91 : decode cX8_orders 91 = .ok (.iastore, 1) := by decide +kernel
theorem dX8_orders_92 : decode cX8_orders 92 = .ok (.aload_n 0, 1) := by decide +kernel
theorem dX8_orders_93 : decode cX8_orders 93 = .ok (.iload_n 1, 1) := by decide +kernel
theorem dX8_orders_94 : decode cX8_orders 94 = .ok (.iconst 1, 1) := by decide +kernel
theorem dX8_orders_95 : decode cX8_orders 95 = .ok (.iadd, 1) := by decide +kernel
theorem dX8_orders_96 : decode cX8_orders 96 = .ok (.iload_n 2, 1) := by decide +kernel
theorem dX8_orders_97 : decode cX8_orders 97 = .ok (.iconst 1, 1) := by decide +kernel
theorem dX8_orders_98 : decode cX8_orders 98 = .ok (.iload_n 3, 1) := by decide +kernel
theorem dX8_orders_99 : decode cX8_orders 99 = .ok (.ishl, 1) := by decide +kernel
theorem dX8_orders_100 : decode cX8_orders 100 = .ok (.ior, 1) := by decide +kernel
theorem dX8_orders_101 : decode cX8_orders 101 = .ok (.invokevirtual 293, 3) := by decide +kernel
theorem dX8_orders_104 : decode cX8_orders 104 = .ok (.iinc 3 1, 3) := by decide +kernel
theorem dX8_orders_107 : decode cX8_orders 107 = .ok (.goto (-38), 3) := by decide +kernel
theorem dX8_orders_110 : decode cX8_orders 110 = .ok (.return_, 1) := by decide +kernel
theorem dX8_bestOrder_0 : decode cX8_bestOrder 0 = .ok (.iconst 0, 1) := by decide +kernel
theorem dX8_bestOrder_1 : decode cX8_bestOrder 1 = .ok (.istore_n 1, 1) := by decide +kernel
theorem dX8_bestOrder_2 : decode cX8_bestOrder 2 = .ok (.iload_n 1, 1) := by decide +kernel
theorem dX8_bestOrder_3 : decode cX8_bestOrder 3 = .ok (.aload_n 0, 1) := by decide +kernel
theorem dX8_bestOrder_4 : decode cX8_bestOrder 4 = .ok (.getfield 103, 3) := by decide +kernel
theorem dX8_bestOrder_7 : decode cX8_bestOrder 7 = .ok (.if_icmp .ge 21, 3) := by decide +kernel
theorem dX8_bestOrder_10 : decode cX8_bestOrder 10 = .ok (.aload_n 0, 1) := by decide +kernel
theorem dX8_bestOrder_11 : decode cX8_bestOrder 11 = .ok (.getfield 53, 3) := by decide +kernel
theorem dX8_bestOrder_14 : decode cX8_bestOrder 14 = .ok (.iload_n 1, 1) := by decide +kernel
theorem dX8_bestOrder_15 : decode cX8_bestOrder 15 = .ok (.aload_n 0, 1) := by decide +kernel
theorem dX8_bestOrder_16 : decode cX8_bestOrder 16 = .ok (.getfield 35, 3) := by decide +kernel
theorem dX8_bestOrder_19 : decode cX8_bestOrder 19 = .ok (.iload_n 1, 1) := by decide +kernel
theorem dX8_bestOrder_20 : decode cX8_bestOrder 20 = .ok (.iaload, 1) := by decide +kernel
theorem dX8_bestOrder_21 : decode cX8_bestOrder 21 = .ok (.iastore, 1) := by decide +kernel
theorem dX8_bestOrder_22 : decode cX8_bestOrder 22 = .ok (.iinc 1 1, 3) := by decide +kernel
theorem dX8_bestOrder_25 : decode cX8_bestOrder 25 = .ok (.goto (-23), 3) := by decide +kernel
theorem dX8_bestOrder_28 : decode cX8_bestOrder 28 = .ok (.aload_n 0, 1) := by decide +kernel
theorem dX8_bestOrder_29 : decode cX8_bestOrder 29 = .ok (.iconst (-1), 1) := by decide +kernel
theorem dX8_bestOrder_30 : decode cX8_bestOrder 30 = .ok (.putfield 290, 3) := by decide +kernel
theorem dX8_bestOrder_33 : decode cX8_bestOrder 33 = .ok (.aload_n 0, 1) := by decide +kernel
theorem dX8_bestOrder_34 : decode cX8_bestOrder 34 = .ok (.iconst 0, 1) := by decide +kernel
theorem dX8_bestOrder_35 : decode cX8_bestOrder 35 = .ok (.iconst 0, 1) := by decide +kernel
theorem dX8_bestOrder_36 : decode cX8_bestOrder 36 = .ok (.invokevirtual 293, 3) := by decide +kernel
theorem dX8_bestOrder_39 : decode cX8_bestOrder 39 = .ok (.iconst 0, 1) := by decide +kernel
theorem dX8_bestOrder_40 : decode cX8_bestOrder 40 = .ok (.istore_n 1, 1) := by decide +kernel
theorem dX8_bestOrder_41 : decode cX8_bestOrder 41 = .ok (.iload_n 1, 1) := by decide +kernel
theorem dX8_bestOrder_42 : decode cX8_bestOrder 42 = .ok (.aload_n 0, 1) := by decide +kernel
theorem dX8_bestOrder_43 : decode cX8_bestOrder 43 = .ok (.getfield 103, 3) := by decide +kernel
theorem dX8_bestOrder_46 : decode cX8_bestOrder 46 = .ok (.if_icmp .ge 21, 3) := by decide +kernel
theorem dX8_bestOrder_49 : decode cX8_bestOrder 49 = .ok (.aload_n 0, 1) := by decide +kernel
theorem dX8_bestOrder_50 : decode cX8_bestOrder 50 = .ok (.getfield 35, 3) := by decide +kernel
theorem dX8_bestOrder_53 : decode cX8_bestOrder 53 = .ok (.iload_n 1, 1) := by decide +kernel
theorem dX8_bestOrder_54 : decode cX8_bestOrder 54 = .ok (.aload_n 0, 1) := by decide +kernel
theorem dX8_bestOrder_55 : decode cX8_bestOrder 55 = .ok (.getfield 53, 3) := by decide +kernel
theorem dX8_bestOrder_58 : decode cX8_bestOrder 58 = .ok (.iload_n 1, 1) := by decide +kernel
theorem dX8_bestOrder_59 : decode cX8_bestOrder 59 = .ok (.iaload, 1) := by decide +kernel
theorem dX8_bestOrder_60 : decode cX8_bestOrder 60 = .ok (.iastore, 1) := by decide +kernel
theorem dX8_bestOrder_61 : decode cX8_bestOrder 61 = .ok (.iinc 1 1, 3) := by decide +kernel
theorem dX8_bestOrder_64 : decode cX8_bestOrder 64 = .ok (.goto (-23), 3) := by decide +kernel
theorem dX8_bestOrder_67 : decode cX8_bestOrder 67 = .ok (.return_, 1) := by decide +kernel
theorem dX8_atOdds_0 : decode cX8_atOdds 0 = .ok (.iload_n 1, 1) := by decide +kernel
theorem dX8_atOdds_1 : decode cX8_atOdds 1 = .ok (.i2l, 1) := by decide +kernel
theorem dX8_atOdds_2 : decode cX8_atOdds 2 = .ok (.lconst 0, 1) := by decide +kernel
theorem dX8_atOdds_3 : decode cX8_atOdds 3 = .ok (.lconst 1, 1) := by decide +kernel
theorem dX8_atOdds_4 : decode cX8_atOdds 4 = .ok (.invokestatic 106, 3) := by decide +kernel
theorem dX8_atOdds_7 : decode cX8_atOdds 7 = .ok (.ifCond .ne 6, 3) := by decide +kernel
theorem dX8_atOdds_10 : decode cX8_atOdds 10 = .ok (.bipush (-2), 2) := by decide +kernel
theorem dX8_atOdds_12 : decode cX8_atOdds 12 = .ok (.ireturn, 1) := by decide +kernel
theorem dX8_atOdds_13 : decode cX8_atOdds 13 = .ok (.iload_n 1, 1) := by decide +kernel
theorem dX8_atOdds_14 : decode cX8_atOdds 14 = .ok (.ifCond .ne 8, 3) := by decide +kernel
theorem dX8_atOdds_17 : decode cX8_atOdds 17 = .ok (.aload_n 0, 1) := by decide +kernel
theorem dX8_atOdds_18 : decode cX8_atOdds 18 = .ok (.invokevirtual 287, 3) := by decide +kernel
theorem dX8_atOdds_21 : decode cX8_atOdds 21 = .ok (.ireturn, 1) := by decide +kernel
theorem dX8_atOdds_22 : decode cX8_atOdds 22 = .ok (.aload_n 0, 1) := by decide +kernel
theorem dX8_atOdds_23 : decode cX8_atOdds 23 = .ok (.invokevirtual 297, 3) := by decide +kernel
theorem dX8_atOdds_26 : decode cX8_atOdds 26 = .ok (.aload_n 0, 1) := by decide +kernel
theorem dX8_atOdds_27 : decode cX8_atOdds 27 = .ok (.getfield 290, 3) := by decide +kernel
theorem dX8_atOdds_30 : decode cX8_atOdds 30 = .ok (.ireturn, 1) := by decide +kernel
theorem dX8_best_0 : decode cX8_best 0 = .ok (.aload_n 0, 1) := by decide +kernel
theorem dX8_best_1 : decode cX8_best 1 = .ok (.iload_n 1, 1) := by decide +kernel
theorem dX8_best_2 : decode cX8_best 2 = .ok (.invokevirtual 119, 3) := by decide +kernel
theorem dX8_best_5 : decode cX8_best 5 = .ok (.ifCond .ne 6, 3) := by decide +kernel
theorem dX8_best_8 : decode cX8_best 8 = .ok (.bipush (-2), 2) := by decide +kernel
theorem dX8_best_10 : decode cX8_best 10 = .ok (.ireturn, 1) := by decide +kernel
theorem dX8_best_11 : decode cX8_best 11 = .ok (.aload_n 0, 1) := by decide +kernel
theorem dX8_best_12 : decode cX8_best 12 = .ok (.invokevirtual 297, 3) := by decide +kernel
theorem dX8_best_15 : decode cX8_best 15 = .ok (.aload_n 0, 1) := by decide +kernel
theorem dX8_best_16 : decode cX8_best 16 = .ok (.getfield 56, 3) := by decide +kernel
theorem dX8_best_19 : decode cX8_best 19 = .ok (.iload_n 1, 1) := by decide +kernel
theorem dX8_best_20 : decode cX8_best 20 = .ok (.iaload, 1) := by decide +kernel
theorem dX8_best_21 : decode cX8_best 21 = .ok (.ireturn, 1) := by decide +kernel
theorem dX8_orderBad_0 : decode cX8_orderBad 0 = .ok (.iload_n 1, 1) := by decide +kernel
theorem dX8_orderBad_1 : decode cX8_orderBad 1 = .ok (.invokestatic 300, 3) := by decide +kernel
theorem dX8_orderBad_4 : decode cX8_orderBad 4 = .ok (.ifCond .ne 6, 3) := by decide +kernel
theorem dX8_orderBad_7 : decode cX8_orderBad 7 = .ok (.bipush (-2), 2) := by decide +kernel
theorem dX8_orderBad_9 : decode cX8_orderBad 9 = .ok (.ireturn, 1) := by decide +kernel
theorem dX8_orderBad_10 : decode cX8_orderBad 10 = .ok (.aload_n 0, 1) := by decide +kernel
theorem dX8_orderBad_11 : decode cX8_orderBad 11 = .ok (.getfield 83, 3) := by decide +kernel
theorem dX8_orderBad_14 : decode cX8_orderBad 14 = .ok (.iload_n 1, 1) := by decide +kernel
theorem dX8_orderBad_15 : decode cX8_orderBad 15 = .ok (.baload, 1) := by decide +kernel
theorem dX8_orderBad_16 : decode cX8_orderBad 16 = .ok (.ifCond .ne 6, 3) := by decide +kernel
theorem dX8_orderBad_19 : decode cX8_orderBad 19 = .ok (.bipush (-11), 2) := by decide +kernel
theorem dX8_orderBad_21 : decode cX8_orderBad 21 = .ok (.ireturn, 1) := by decide +kernel
theorem dX8_orderBad_22 : decode cX8_orderBad 22 = .ok (.aload_n 0, 1) := by decide +kernel
theorem dX8_orderBad_23 : decode cX8_orderBad 23 = .ok (.getfield 90, 3) := by decide +kernel
theorem dX8_orderBad_26 : decode cX8_orderBad 26 = .ok (.iload_n 1, 1) := by decide +kernel
theorem dX8_orderBad_27 : decode cX8_orderBad 27 = .ok (.iaload, 1) := by decide +kernel
theorem dX8_orderBad_28 : decode cX8_orderBad 28 = .ok (.aload_n 0, 1) := by decide +kernel
theorem dX8_orderBad_29 : decode cX8_orderBad 29 = .ok (.getfield 103, 3) := by decide +kernel
theorem dX8_orderBad_32 : decode cX8_orderBad 32 = .ok (.if_icmp .eq 6, 3) := by decide +kernel
theorem dX8_orderBad_35 : decode cX8_orderBad 35 = .ok (.bipush (-2), 2) := by decide +kernel
theorem dX8_orderBad_37 : decode cX8_orderBad 37 = .ok (.ireturn, 1) := by decide +kernel
theorem dX8_orderBad_38 : decode cX8_orderBad 38 = .ok (.iconst 0, 1) := by decide +kernel
theorem dX8_orderBad_39 : decode cX8_orderBad 39 = .ok (.istore_n 2, 1) := by decide +kernel
theorem dX8_orderBad_40 : decode cX8_orderBad 40 = .ok (.iconst 0, 1) := by decide +kernel
theorem dX8_orderBad_41 : decode cX8_orderBad 41 = .ok (.istore_n 3, 1) := by decide +kernel
theorem dX8_orderBad_42 : decode cX8_orderBad 42 = .ok (.iload_n 3, 1) := by decide +kernel
theorem dX8_orderBad_43 : decode cX8_orderBad 43 = .ok (.aload_n 0, 1) := by decide +kernel
theorem dX8_orderBad_44 : decode cX8_orderBad 44 = .ok (.getfield 103, 3) := by decide +kernel
theorem dX8_orderBad_47 : decode cX8_orderBad 47 = .ok (.if_icmp .ge 51, 3) := by decide +kernel
theorem dX8_orderBad_50 : decode cX8_orderBad 50 = .ok (.aload_n 0, 1) := by decide +kernel
theorem dX8_orderBad_51 : decode cX8_orderBad 51 = .ok (.getfield 93, 3) := by decide +kernel
theorem dX8_orderBad_54 : decode cX8_orderBad 54 = .ok (.bipush 40, 2) := by decide +kernel
theorem dX8_orderBad_56 : decode cX8_orderBad 56 = .ok (.iload_n 1, 1) := by decide +kernel
theorem dX8_orderBad_57 : decode cX8_orderBad 57 = .ok (.imul, 1) := by decide +kernel
theorem dX8_orderBad_58 : decode cX8_orderBad 58 = .ok (.iload_n 3, 1) := by decide +kernel
theorem dX8_orderBad_59 : decode cX8_orderBad 59 = .ok (.iadd, 1) := by decide +kernel
theorem dX8_orderBad_60 : decode cX8_orderBad 60 = .ok (.iaload, 1) := by decide +kernel
theorem dX8_orderBad_61 : decode cX8_orderBad 61 = .ok (.istore 4, 2) := by decide +kernel
theorem dX8_orderBad_63 : decode cX8_orderBad 63 = .ok (.aload_n 0, 1) := by decide +kernel
theorem dX8_orderBad_64 : decode cX8_orderBad 64 = .ok (.iload 4, 2) := by decide +kernel
theorem dX8_orderBad_66 : decode cX8_orderBad 66 = .ok (.invokevirtual 119, 3) := by decide +kernel
theorem dX8_orderBad_69 : decode cX8_orderBad 69 = .ok (.ifCond .eq 13, 3) := by decide +kernel
theorem dX8_orderBad_72 : decode cX8_orderBad 72 = .ok (.iload_n 2, 1) := by decide +kernel
theorem dX8_orderBad_73 : decode cX8_orderBad 73 = .ok (.iload 4, 2) := by decide +kernel
theorem dX8_orderBad_75 : decode cX8_orderBad 75 = .ok (.ishr, 1) := by decide +kernel
theorem dX8_orderBad_76 : decode cX8_orderBad 76 = .ok (.iconst 1, 1) := by decide +kernel
theorem dX8_orderBad_77 : decode cX8_orderBad 77 = .ok (.iand, 1) := by decide +kernel
theorem dX8_orderBad_78 : decode cX8_orderBad 78 = .ok (.iconst 1, 1) := by decide +kernel
theorem dX8_orderBad_79 : decode cX8_orderBad 79 = .ok (.if_icmp .ne 6, 3) := by decide +kernel
theorem dX8_orderBad_82 : decode cX8_orderBad 82 = .ok (.bipush (-2), 2) := by decide +kernel
theorem dX8_orderBad_84 : decode cX8_orderBad 84 = .ok (.ireturn, 1) := by decide +kernel
theorem dX8_orderBad_85 : decode cX8_orderBad 85 = .ok (.iload_n 2, 1) := by decide +kernel
theorem dX8_orderBad_86 : decode cX8_orderBad 86 = .ok (.iconst 1, 1) := by decide +kernel
theorem dX8_orderBad_87 : decode cX8_orderBad 87 = .ok (.iload 4, 2) := by decide +kernel
theorem dX8_orderBad_89 : decode cX8_orderBad 89 = .ok (.ishl, 1) := by decide +kernel
theorem dX8_orderBad_90 : decode cX8_orderBad 90 = .ok (.ior, 1) := by decide +kernel
theorem dX8_orderBad_91 : decode cX8_orderBad 91 = .ok (.istore_n 2, 1) := by decide +kernel
theorem dX8_orderBad_92 : decode cX8_orderBad 92 = .ok (.iinc 3 1, 3) := by decide +kernel
theorem dX8_orderBad_95 : decode cX8_orderBad 95 = .ok (.goto (-53), 3) := by decide +kernel
theorem dX8_orderBad_98 : decode cX8_orderBad 98 = .ok (.iconst 0, 1) := by decide +kernel
theorem dX8_orderBad_99 : decode cX8_orderBad 99 = .ok (.ireturn, 1) := by decide +kernel
theorem dX8_swaps_0 : decode cX8_swaps 0 = .ok (.aload_n 0, 1) := by decide +kernel
theorem dX8_swaps_1 : decode cX8_swaps 1 = .ok (.iload_n 1, 1) := by decide +kernel
theorem dX8_swaps_2 : decode cX8_swaps 2 = .ok (.invokevirtual 303, 3) := by decide +kernel
theorem dX8_swaps_5 : decode cX8_swaps 5 = .ok (.istore_n 2, 1) := by decide +kernel
theorem dX8_swaps_6 : decode cX8_swaps 6 = .ok (.iload_n 2, 1) := by decide +kernel
theorem dX8_swaps_7 : decode cX8_swaps 7 = .ok (.ifCond .eq 5, 3) := by decide +kernel
theorem dX8_swaps_10 : decode cX8_swaps 10 = .ok (.iload_n 2, 1) := by decide +kernel
theorem dX8_swaps_11 : decode cX8_swaps 11 = .ok (.ireturn, 1) := by decide +kernel
theorem dX8_swaps_12 : decode cX8_swaps 12 = .ok (.iconst 0, 1) := by decide +kernel
theorem dX8_swaps_13 : decode cX8_swaps 13 = .ok (.istore_n 3, 1) := by decide +kernel
theorem dX8_swaps_14 : decode cX8_swaps 14 = .ok (.iconst 0, 1) := by decide +kernel
theorem dX8_swaps_15 : decode cX8_swaps 15 = .ok (.istore 4, 2) := by decide +kernel
theorem dX8_swaps_17 : decode cX8_swaps 17 = .ok (.iload 4, 2) := by decide +kernel
theorem dX8_swaps_19 : decode cX8_swaps 19 = .ok (.aload_n 0, 1) := by decide +kernel
theorem dX8_swaps_20 : decode cX8_swaps 20 = .ok (.getfield 103, 3) := by decide +kernel
theorem dX8_swaps_23 : decode cX8_swaps 23 = .ok (.if_icmp .ge 73, 3) := by decide +kernel
theorem dX8_swaps_26 : decode cX8_swaps 26 = .ok (.iload 4, 2) := by decide +kernel
theorem dX8_swaps_28 : decode cX8_swaps 28 = .ok (.iconst 1, 1) := by decide +kernel
theorem dX8_swaps_29 : decode cX8_swaps 29 = .ok (.iadd, 1) := by decide +kernel
theorem dX8_swaps_30 : decode cX8_swaps 30 = .ok (.istore 5, 2) := by decide +kernel
theorem dX8_swaps_32 : decode cX8_swaps 32 = .ok (.iload 5, 2) := by decide +kernel
theorem dX8_swaps_34 : decode cX8_swaps 34 = .ok (.aload_n 0, 1) := by decide +kernel
theorem dX8_swaps_35 : decode cX8_swaps 35 = .ok (.getfield 103, 3) := by decide +kernel
theorem dX8_swaps_38 : decode cX8_swaps 38 = .ok (.if_icmp .ge 52, 3) := by decide +kernel
theorem dX8_swaps_41 : decode cX8_swaps 41 = .ok (.iload_n 3, 1) := by decide +kernel
theorem dX8_swaps_42 : decode cX8_swaps 42 = .ok (.aload_n 0, 1) := by decide +kernel
theorem dX8_swaps_43 : decode cX8_swaps 43 = .ok (.aload_n 0, 1) := by decide +kernel
theorem dX8_swaps_44 : decode cX8_swaps 44 = .ok (.getfield 93, 3) := by decide +kernel
theorem dX8_swaps_47 : decode cX8_swaps 47 = .ok (.bipush 40, 2) := by decide +kernel
theorem dX8_swaps_49 : decode cX8_swaps 49 = .ok (.iload_n 1, 1) := by decide +kernel
theorem dX8_swaps_50 : decode cX8_swaps 50 = .ok (.imul, 1) := by decide +kernel
theorem dX8_swaps_51 : decode cX8_swaps 51 = .ok (.iload 4, 2) := by decide +kernel
theorem dX8_swaps_53 : decode cX8_swaps 53 = .ok (.iadd, 1) := by decide +kernel
theorem dX8_swaps_54 : decode cX8_swaps 54 = .ok (.iaload, 1) := by decide +kernel
theorem dX8_swaps_55 : decode cX8_swaps 55 = .ok (.invokevirtual 127, 3) := by decide +kernel
theorem dX8_swaps_58 : decode cX8_swaps 58 = .ok (.aload_n 0, 1) := by decide +kernel
theorem dX8_swaps_59 : decode cX8_swaps 59 = .ok (.aload_n 0, 1) := by decide +kernel
theorem dX8_swaps_60 : decode cX8_swaps 60 = .ok (.getfield 93, 3) := by decide +kernel
theorem dX8_swaps_63 : decode cX8_swaps 63 = .ok (.bipush 40, 2) := by decide +kernel
theorem dX8_swaps_65 : decode cX8_swaps 65 = .ok (.iload_n 1, 1) := by decide +kernel
theorem dX8_swaps_66 : decode cX8_swaps 66 = .ok (.imul, 1) := by decide +kernel
theorem dX8_swaps_67 : decode cX8_swaps 67 = .ok (.iload 5, 2) := by decide +kernel
theorem dX8_swaps_69 : decode cX8_swaps 69 = .ok (.iadd, 1) := by decide +kernel
theorem dX8_swaps_70 : decode cX8_swaps 70 = .ok (.iaload, 1) := by decide +kernel
theorem dX8_swaps_71 : decode cX8_swaps 71 = .ok (.invokevirtual 127, 3) := by decide +kernel
theorem dX8_swaps_74 : decode cX8_swaps 74 = .ok (.if_icmp .le 7, 3) := by decide +kernel
theorem dX8_swaps_77 : decode cX8_swaps 77 = .ok (.iconst 1, 1) := by decide +kernel
theorem dX8_swaps_78 : decode cX8_swaps 78 = .ok (.goto 4, 3) := by decide +kernel
theorem dX8_swaps_81 : decode cX8_swaps 81 = .ok (.iconst 0, 1) := by decide +kernel
theorem dX8_swaps_82 : decode cX8_swaps 82 = .ok (.iadd, 1) := by decide +kernel
theorem dX8_swaps_83 : decode cX8_swaps 83 = .ok (.istore_n 3, 1) := by decide +kernel
theorem dX8_swaps_84 : decode cX8_swaps 84 = .ok (.iinc 5 1, 3) := by decide +kernel
theorem dX8_swaps_87 : decode cX8_swaps 87 = .ok (.goto (-55), 3) := by decide +kernel
theorem dX8_swaps_90 : decode cX8_swaps 90 = .ok (.iinc 4 1, 3) := by decide +kernel
theorem dX8_swaps_93 : decode cX8_swaps 93 = .ok (.goto (-76), 3) := by decide +kernel
theorem dX8_swaps_96 : decode cX8_swaps 96 = .ok (.iload_n 3, 1) := by decide +kernel
theorem dX8_swaps_97 : decode cX8_swaps 97 = .ok (.ireturn, 1) := by decide +kernel
theorem dX8_rightOf_0 : decode cX8_rightOf 0 = .ok (.iconst 0, 1) := by decide +kernel
theorem dX8_rightOf_1 : decode cX8_rightOf 1 = .ok (.istore_n 2, 1) := by decide +kernel
theorem dX8_rightOf_2 : decode cX8_rightOf 2 = .ok (.iconst 0, 1) := by decide +kernel
theorem dX8_rightOf_3 : decode cX8_rightOf 3 = .ok (.istore_n 3, 1) := by decide +kernel
theorem dX8_rightOf_4 : decode cX8_rightOf 4 = .ok (.iload_n 3, 1) := by decide +kernel
theorem dX8_rightOf_5 : decode cX8_rightOf 5 = .ok (.aload_n 0, 1) := by decide +kernel
theorem dX8_rightOf_6 : decode cX8_rightOf 6 = .ok (.getfield 103, 3) := by decide +kernel
theorem dX8_rightOf_9 : decode cX8_rightOf 9 = .ok (.if_icmp .ge 39, 3) := by decide +kernel
theorem dX8_rightOf_12 : decode cX8_rightOf 12 = .ok (.iload_n 2, 1) := by decide +kernel
theorem dX8_rightOf_13 : decode cX8_rightOf 13 = .ok (.aload_n 0, 1) := by decide +kernel
theorem dX8_rightOf_14 : decode cX8_rightOf 14 = .ok (.aload_n 0, 1) := by decide +kernel
theorem dX8_rightOf_15 : decode cX8_rightOf 15 = .ok (.getfield 35, 3) := by decide +kernel
theorem dX8_rightOf_18 : decode cX8_rightOf 18 = .ok (.iload_n 3, 1) := by decide +kernel
theorem dX8_rightOf_19 : decode cX8_rightOf 19 = .ok (.iaload, 1) := by decide +kernel
theorem dX8_rightOf_20 : decode cX8_rightOf 20 = .ok (.iload_n 3, 1) := by decide +kernel
theorem dX8_rightOf_21 : decode cX8_rightOf 21 = .ok (.iload_n 1, 1) := by decide +kernel
theorem dX8_rightOf_22 : decode cX8_rightOf 22 = .ok (.invokevirtual 306, 3) := by decide +kernel
theorem dX8_rightOf_25 : decode cX8_rightOf 25 = .ok (.ifCond .eq 7, 3) := by decide +kernel
theorem dX8_rightOf_28 : decode cX8_rightOf 28 = .ok (.iconst 1, 1) := by decide +kernel
theorem dX8_rightOf_29 : decode cX8_rightOf 29 = .ok (.goto 4, 3) := by decide +kernel
theorem dX8_rightOf_32 : decode cX8_rightOf 32 = .ok (.iconst 0, 1) := by decide +kernel
theorem dX8_rightOf_33 : decode cX8_rightOf 33 = .ok (.aload_n 0, 1) := by decide +kernel
theorem dX8_rightOf_34 : decode cX8_rightOf 34 = .ok (.getfield 35, 3) := by decide +kernel
theorem dX8_rightOf_37 : decode cX8_rightOf 37 = .ok (.iload_n 3, 1) := by decide +kernel
theorem dX8_rightOf_38 : decode cX8_rightOf 38 = .ok (.iaload, 1) := by decide +kernel
theorem dX8_rightOf_39 : decode cX8_rightOf 39 = .ok (.ishl, 1) := by decide +kernel
theorem dX8_rightOf_40 : decode cX8_rightOf 40 = .ok (.ior, 1) := by decide +kernel
theorem dX8_rightOf_41 : decode cX8_rightOf 41 = .ok (.istore_n 2, 1) := by decide +kernel
theorem dX8_rightOf_42 : decode cX8_rightOf 42 = .ok (.iinc 3 1, 3) := by decide +kernel
theorem dX8_rightOf_45 : decode cX8_rightOf 45 = .ok (.goto (-41), 3) := by decide +kernel
theorem dX8_rightOf_48 : decode cX8_rightOf 48 = .ok (.iload_n 2, 1) := by decide +kernel
theorem dX8_rightOf_49 : decode cX8_rightOf 49 = .ok (.ireturn, 1) := by decide +kernel
theorem dX8_wound_0 : decode cX8_wound 0 = .ok (.iconst 0, 1) := by decide +kernel
theorem dX8_wound_1 : decode cX8_wound 1 = .ok (.istore_n 2, 1) := by decide +kernel
theorem dX8_wound_2 : decode cX8_wound 2 = .ok (.iconst 0, 1) := by decide +kernel
theorem dX8_wound_3 : decode cX8_wound 3 = .ok (.istore_n 3, 1) := by decide +kernel
theorem dX8_wound_4 : decode cX8_wound 4 = .ok (.iload_n 3, 1) := by decide +kernel
theorem dX8_wound_5 : decode cX8_wound 5 = .ok (.aload_n 0, 1) := by decide +kernel
theorem dX8_wound_6 : decode cX8_wound 6 = .ok (.getfield 103, 3) := by decide +kernel
theorem dX8_wound_9 : decode cX8_wound 9 = .ok (.if_icmp .ge 69, 3) := by decide +kernel
theorem dX8_wound_12 : decode cX8_wound 12 = .ok (.iload_n 3, 1) := by decide +kernel
theorem dX8_wound_13 : decode cX8_wound 13 = .ok (.iconst 1, 1) := by decide +kernel
theorem dX8_wound_14 : decode cX8_wound 14 = .ok (.iadd, 1) := by decide +kernel
theorem dX8_wound_15 : decode cX8_wound 15 = .ok (.istore 4, 2) := by decide +kernel
theorem dX8_wound_17 : decode cX8_wound 17 = .ok (.iload 4, 2) := by decide +kernel
theorem dX8_wound_19 : decode cX8_wound 19 = .ok (.aload_n 0, 1) := by decide +kernel
theorem dX8_wound_20 : decode cX8_wound 20 = .ok (.getfield 103, 3) := by decide +kernel
theorem dX8_wound_23 : decode cX8_wound 23 = .ok (.if_icmp .ge 49, 3) := by decide +kernel
theorem dX8_wound_26 : decode cX8_wound 26 = .ok (.iload_n 2, 1) := by decide +kernel
theorem dX8_wound_27 : decode cX8_wound 27 = .ok (.aload_n 0, 1) := by decide +kernel
theorem dX8_wound_28 : decode cX8_wound 28 = .ok (.aload_n 0, 1) := by decide +kernel
theorem dX8_wound_29 : decode cX8_wound 29 = .ok (.getfield 35, 3) := by decide +kernel
theorem dX8_wound_32 : decode cX8_wound 32 = .ok (.iload_n 3, 1) := by decide +kernel
theorem dX8_wound_33 : decode cX8_wound 33 = .ok (.iaload, 1) := by decide +kernel
theorem dX8_wound_34 : decode cX8_wound 34 = .ok (.iload_n 3, 1) := by decide +kernel
theorem dX8_wound_35 : decode cX8_wound 35 = .ok (.iload_n 1, 1) := by decide +kernel
theorem dX8_wound_36 : decode cX8_wound 36 = .ok (.invokevirtual 306, 3) := by decide +kernel
theorem dX8_wound_39 : decode cX8_wound 39 = .ok (.ifCond .eq 24, 3) := by decide +kernel
theorem dX8_wound_42 : decode cX8_wound 42 = .ok (.aload_n 0, 1) := by decide +kernel
theorem dX8_wound_43 : decode cX8_wound 43 = .ok (.aload_n 0, 1) := by decide +kernel
theorem dX8_wound_44 : decode cX8_wound 44 = .ok (.getfield 35, 3) := by decide +kernel
theorem dX8_wound_47 : decode cX8_wound 47 = .ok (.iload 4, 2) := by decide +kernel
theorem dX8_wound_49 : decode cX8_wound 49 = .ok (.iaload, 1) := by decide +kernel
theorem dX8_wound_50 : decode cX8_wound 50 = .ok (.iload 4, 2) := by decide +kernel
theorem dX8_wound_52 : decode cX8_wound 52 = .ok (.iload_n 1, 1) := by decide +kernel
theorem dX8_wound_53 : decode cX8_wound 53 = .ok (.invokevirtual 306, 3) := by decide +kernel
theorem dX8_wound_56 : decode cX8_wound 56 = .ok (.ifCond .ne 7, 3) := by decide +kernel
theorem dX8_wound_59 : decode cX8_wound 59 = .ok (.iconst 1, 1) := by decide +kernel
theorem dX8_wound_60 : decode cX8_wound 60 = .ok (.goto 4, 3) := by decide +kernel
theorem dX8_wound_63 : decode cX8_wound 63 = .ok (.iconst 0, 1) := by decide +kernel
theorem dX8_wound_64 : decode cX8_wound 64 = .ok (.iadd, 1) := by decide +kernel
theorem dX8_wound_65 : decode cX8_wound 65 = .ok (.istore_n 2, 1) := by decide +kernel
theorem dX8_wound_66 : decode cX8_wound 66 = .ok (.iinc 4 1, 3) := by decide +kernel
theorem dX8_wound_69 : decode cX8_wound 69 = .ok (.goto (-52), 3) := by decide +kernel
theorem dX8_wound_72 : decode cX8_wound 72 = .ok (.iinc 3 1, 3) := by decide +kernel
theorem dX8_wound_75 : decode cX8_wound 75 = .ok (.goto (-71), 3) := by decide +kernel
theorem dX8_wound_78 : decode cX8_wound 78 = .ok (.iload_n 2, 1) := by decide +kernel
theorem dX8_wound_79 : decode cX8_wound 79 = .ok (.ireturn, 1) := by decide +kernel
theorem dX8_post_0 : decode cX8_post 0 = .ok (.iload_n 1, 1) := by decide +kernel
theorem dX8_post_1 : decode cX8_post 1 = .ok (.i2l, 1) := by decide +kernel
theorem dX8_post_2 : decode cX8_post 2 = .ok (.lconst 0, 1) := by decide +kernel
theorem dX8_post_3 : decode cX8_post 3 = .ok (.aload_n 0, 1) := by decide +kernel
theorem dX8_post_4 : decode cX8_post 4 = .ok (.getfield 103, 3) := by decide +kernel
theorem dX8_post_7 : decode cX8_post 7 = .ok (.i2l, 1) := by decide +kernel
theorem dX8_post_8 : decode cX8_post 8 = .ok (.invokestatic 106, 3) := by decide +kernel
theorem dX8_post_11 : decode cX8_post 11 = .ok (.ifCond .eq 15, 3) := by decide +kernel
theorem dX8_post_14 : decode cX8_post 14 = .ok (.iload_n 2, 1) := by decide +kernel
theorem dX8_post_15 : decode cX8_post 15 = .ok (.i2l, 1) := by decide +kernel
theorem dX8_post_16 : decode cX8_post 16 = .ok (.lconst 0, 1) := by decide +kernel
theorem dX8_post_17 : decode cX8_post 17 = .ok (.ldc2_w 123, 3) := by decide +kernel
theorem dX8_post_20 : decode cX8_post 20 = .ok (.invokestatic 106, 3) := by decide +kernel
theorem dX8_post_23 : decode cX8_post 23 = .ok (.ifCond .ne 7, 3) := by decide +kernel
theorem dX8_post_26 : decode cX8_post 26 = .ok (.ldc_w 269, 3) := by decide +kernel
theorem dX8_post_29 : decode cX8_post 29 = .ok (.ireturn, 1) := by decide +kernel
theorem dX8_post_30 : decode cX8_post 30 = .ok (.iload_n 2, 1) := by decide +kernel
theorem dX8_post_31 : decode cX8_post 31 = .ok (.iconst 2, 1) := by decide +kernel
theorem dX8_post_32 : decode cX8_post 32 = .ok (.if_icmp .ge 21, 3) := by decide +kernel
theorem dX8_post_35 : decode cX8_post 35 = .ok (.iload_n 2, 1) := by decide +kernel
theorem dX8_post_36 : decode cX8_post 36 = .ok (.ifCond .ne 11, 3) := by decide +kernel
theorem dX8_post_39 : decode cX8_post 39 = .ok (.aload_n 0, 1) := by decide +kernel
theorem dX8_post_40 : decode cX8_post 40 = .ok (.iload_n 1, 1) := by decide +kernel
theorem dX8_post_41 : decode cX8_post 41 = .ok (.invokevirtual 310, 3) := by decide +kernel
theorem dX8_post_44 : decode cX8_post 44 = .ok (.goto 8, 3) := by decide +kernel
theorem dX8_post_47 : decode cX8_post 47 = .ok (.aload_n 0, 1) := by decide +kernel
theorem dX8_post_48 : decode cX8_post 48 = .ok (.iload_n 1, 1) := by decide +kernel
theorem dX8_post_49 : decode cX8_post 49 = .ok (.invokevirtual 313, 3) := by decide +kernel
theorem dX8_post_52 : decode cX8_post 52 = .ok (.ireturn, 1) := by decide +kernel
theorem dX8_post_53 : decode cX8_post 53 = .ok (.iconst 0, 1) := by decide +kernel
theorem dX8_post_54 : decode cX8_post 54 = .ok (.istore_n 3, 1) := by decide +kernel
theorem dX8_post_55 : decode cX8_post 55 = .ok (.iconst 0, 1) := by decide +kernel
theorem dX8_post_56 : decode cX8_post 56 = .ok (.istore 4, 2) := by decide +kernel
theorem dX8_post_58 : decode cX8_post 58 = .ok (.iload 4, 2) := by decide +kernel
theorem dX8_post_60 : decode cX8_post 60 = .ok (.aload_n 0, 1) := by decide +kernel
theorem dX8_post_61 : decode cX8_post 61 = .ok (.getfield 103, 3) := by decide +kernel
theorem dX8_post_64 : decode cX8_post 64 = .ok (.if_icmp .ge 59, 3) := by decide +kernel
theorem dX8_post_67 : decode cX8_post 67 = .ok (.iload_n 3, 1) := by decide +kernel
theorem dX8_post_68 : decode cX8_post 68 = .ok (.aload_n 0, 1) := by decide +kernel
theorem dX8_post_69 : decode cX8_post 69 = .ok (.aload_n 0, 1) := by decide +kernel
theorem dX8_post_70 : decode cX8_post 70 = .ok (.getfield 35, 3) := by decide +kernel
theorem dX8_post_73 : decode cX8_post 73 = .ok (.iload 4, 2) := by decide +kernel
theorem dX8_post_75 : decode cX8_post 75 = .ok (.iaload, 1) := by decide +kernel
theorem dX8_post_76 : decode cX8_post 76 = .ok (.iload 4, 2) := by decide +kernel
theorem dX8_post_78 : decode cX8_post 78 = .ok (.iload_n 1, 1) := by decide +kernel
theorem dX8_post_79 : decode cX8_post 79 = .ok (.invokevirtual 306, 3) := by decide +kernel
theorem dX8_post_82 : decode cX8_post 82 = .ok (.ifCond .eq 19, 3) := by decide +kernel
theorem dX8_post_85 : decode cX8_post 85 = .ok (.aload_n 0, 1) := by decide +kernel
theorem dX8_post_86 : decode cX8_post 86 = .ok (.aload_n 0, 1) := by decide +kernel
theorem dX8_post_87 : decode cX8_post 87 = .ok (.getfield 35, 3) := by decide +kernel
theorem dX8_post_90 : decode cX8_post 90 = .ok (.iload 4, 2) := by decide +kernel
theorem dX8_post_92 : decode cX8_post 92 = .ok (.iaload, 1) := by decide +kernel
theorem dX8_post_93 : decode cX8_post 93 = .ok (.iload 4, 2) := by decide +kernel
theorem dX8_post_95 : decode cX8_post 95 = .ok (.invokevirtual 131, 3) := by decide +kernel
theorem dX8_post_98 : decode cX8_post 98 = .ok (.goto 17, 3) := by decide +kernel
theorem dX8_post_101 : decode cX8_post 101 = .ok (.aload_n 0, 1) := by decide +kernel
theorem dX8_post_102 : decode cX8_post 102 = .ok (.aload_n 0, 1) := by decide +kernel
theorem dX8_post_103 : decode cX8_post 103 = .ok (.getfield 35, 3) := by decide +kernel
theorem dX8_post_106 : decode cX8_post 106 = .ok (.iload 4, 2) := by decide +kernel
theorem dX8_post_108 : decode cX8_post 108 = .ok (.iaload, 1) := by decide +kernel
theorem dX8_post_109 : decode cX8_post 109 = .ok (.iload 4, 2) := by decide +kernel
theorem dX8_post_111 : decode cX8_post 111 = .ok (.invokevirtual 131, 3) := by decide +kernel
theorem dX8_post_114 : decode cX8_post 114 = .ok (.ineg, 1) := by decide +kernel
theorem dX8_post_115 : decode cX8_post 115 = .ok (.iadd, 1) := by decide +kernel
theorem dX8_post_116 : decode cX8_post 116 = .ok (.istore_n 3, 1) := by decide +kernel
theorem dX8_post_117 : decode cX8_post 117 = .ok (.iinc 4 1, 3) := by decide +kernel
theorem dX8_post_120 : decode cX8_post 120 = .ok (.goto (-62), 3) := by decide +kernel
theorem dX8_post_123 : decode cX8_post 123 = .ok (.iload_n 3, 1) := by decide +kernel
theorem dX8_post_124 : decode cX8_post 124 = .ok (.ireturn, 1) := by decide +kernel
theorem dX8_bestPost_0 : decode cX8_bestPost 0 = .ok (.iload_n 1, 1) := by decide +kernel
theorem dX8_bestPost_1 : decode cX8_bestPost 1 = .ok (.i2l, 1) := by decide +kernel
theorem dX8_bestPost_2 : decode cX8_bestPost 2 = .ok (.lconst 0, 1) := by decide +kernel
theorem dX8_bestPost_3 : decode cX8_bestPost 3 = .ok (.lconst 1, 1) := by decide +kernel
theorem dX8_bestPost_4 : decode cX8_bestPost 4 = .ok (.invokestatic 106, 3) := by decide +kernel
theorem dX8_bestPost_7 : decode cX8_bestPost 7 = .ok (.ifCond .ne 6, 3) := by decide +kernel
theorem dX8_bestPost_10 : decode cX8_bestPost 10 = .ok (.bipush (-2), 2) := by decide +kernel
theorem dX8_bestPost_12 : decode cX8_bestPost 12 = .ok (.ireturn, 1) := by decide +kernel
theorem dX8_bestPost_13 : decode cX8_bestPost 13 = .ok (.iconst 0, 1) := by decide +kernel
theorem dX8_bestPost_14 : decode cX8_bestPost 14 = .ok (.istore_n 2, 1) := by decide +kernel
theorem dX8_bestPost_15 : decode cX8_bestPost 15 = .ok (.iconst 1, 1) := by decide +kernel
theorem dX8_bestPost_16 : decode cX8_bestPost 16 = .ok (.istore_n 3, 1) := by decide +kernel
theorem dX8_bestPost_17 : decode cX8_bestPost 17 = .ok (.iload_n 3, 1) := by decide +kernel
theorem dX8_bestPost_18 : decode cX8_bestPost 18 = .ok (.aload_n 0, 1) := by decide +kernel
theorem dX8_bestPost_19 : decode cX8_bestPost 19 = .ok (.getfield 103, 3) := by decide +kernel
theorem dX8_bestPost_22 : decode cX8_bestPost 22 = .ok (.if_icmp .gt 24, 3) := by decide +kernel
theorem dX8_bestPost_25 : decode cX8_bestPost 25 = .ok (.aload_n 0, 1) := by decide +kernel
theorem dX8_bestPost_26 : decode cX8_bestPost 26 = .ok (.iload_n 3, 1) := by decide +kernel
theorem dX8_bestPost_27 : decode cX8_bestPost 27 = .ok (.invokevirtual 313, 3) := by decide +kernel
theorem dX8_bestPost_30 : decode cX8_bestPost 30 = .ok (.aload_n 0, 1) := by decide +kernel
theorem dX8_bestPost_31 : decode cX8_bestPost 31 = .ok (.iload_n 2, 1) := by decide +kernel
theorem dX8_bestPost_32 : decode cX8_bestPost 32 = .ok (.invokevirtual 313, 3) := by decide +kernel
theorem dX8_bestPost_35 : decode cX8_bestPost 35 = .ok (.if_icmp .ge 5, 3) := by decide +kernel
theorem dX8_bestPost_38 : decode cX8_bestPost 38 = .ok (.iload_n 3, 1) := by decide +kernel
theorem dX8_bestPost_39 : decode cX8_bestPost 39 = .ok (.istore_n 2, 1) := by decide +kernel
theorem dX8_bestPost_40 : decode cX8_bestPost 40 = .ok (.iinc 3 1, 3) := by decide +kernel
theorem dX8_bestPost_43 : decode cX8_bestPost 43 = .ok (.goto (-26), 3) := by decide +kernel
theorem dX8_bestPost_46 : decode cX8_bestPost 46 = .ok (.iload_n 1, 1) := by decide +kernel
theorem dX8_bestPost_47 : decode cX8_bestPost 47 = .ok (.ifCond .ne 7, 3) := by decide +kernel
theorem dX8_bestPost_50 : decode cX8_bestPost 50 = .ok (.iload_n 2, 1) := by decide +kernel
theorem dX8_bestPost_51 : decode cX8_bestPost 51 = .ok (.goto 8, 3) := by decide +kernel
theorem dX8_bestPost_54 : decode cX8_bestPost 54 = .ok (.aload_n 0, 1) := by decide +kernel
theorem dX8_bestPost_55 : decode cX8_bestPost 55 = .ok (.iload_n 2, 1) := by decide +kernel
theorem dX8_bestPost_56 : decode cX8_bestPost 56 = .ok (.invokevirtual 313, 3) := by decide +kernel
theorem dX8_bestPost_59 : decode cX8_bestPost 59 = .ok (.ireturn, 1) := by decide +kernel
theorem dX8_rowsOf_0 : decode cX8_rowsOf 0 = .ok (.iload_n 3, 1) := by decide +kernel
theorem dX8_rowsOf_1 : decode cX8_rowsOf 1 = .ok (.iload_n 2, 1) := by decide +kernel
theorem dX8_rowsOf_2 : decode cX8_rowsOf 2 = .ok (.if_icmp .ne 116, 3) := by decide +kernel
theorem dX8_rowsOf_5 : decode cX8_rowsOf 5 = .ok (.iconst 0, 1) := by decide +kernel
theorem dX8_rowsOf_6 : decode cX8_rowsOf 6 = .ok (.istore 4, 2) := by decide +kernel
theorem dX8_rowsOf_8 : decode cX8_rowsOf 8 = .ok (.iload 4, 2) := by decide +kernel
theorem dX8_rowsOf_10 : decode cX8_rowsOf 10 = .ok (.aload_n 0, 1) := by decide +kernel
theorem dX8_rowsOf_11 : decode cX8_rowsOf 11 = .ok (.getfield 103, 3) := by decide +kernel
theorem dX8_rowsOf_14 : decode cX8_rowsOf 14 = .ok (.if_icmp .ge 32, 3) := by decide +kernel
theorem dX8_rowsOf_17 : decode cX8_rowsOf 17 = .ok (.aload_n 0, 1) := by decide +kernel
theorem dX8_rowsOf_18 : decode cX8_rowsOf 18 = .ok (.getfield 35, 3) := by decide +kernel
theorem dX8_rowsOf_21 : decode cX8_rowsOf 21 = .ok (.iload 4, 2) := by decide +kernel
theorem dX8_rowsOf_23 : decode cX8_rowsOf 23 = .ok (.iaload, 1) := by decide +kernel
theorem dX8_rowsOf_24 : decode cX8_rowsOf 24 = .ok (.aload_n 0, 1) := by decide +kernel
theorem dX8_rowsOf_25 : decode cX8_rowsOf 25 = .ok (.getfield 93, 3) := by decide +kernel
theorem dX8_rowsOf_28 : decode cX8_rowsOf 28 = .ok (.bipush 40, 2) := by decide +kernel
theorem dX8_rowsOf_30 : decode cX8_rowsOf 30 = .ok (.iload_n 1, 1) := by decide +kernel
theorem dX8_rowsOf_31 : decode cX8_rowsOf 31 = .ok (.imul, 1) := by decide +kernel
theorem dX8_rowsOf_32 : decode cX8_rowsOf 32 = .ok (.iload 4, 2) := by decide +kernel
theorem dX8_rowsOf_34 : decode cX8_rowsOf 34 = .ok (.iadd, 1) := by decide +kernel
theorem dX8_rowsOf_35 : decode cX8_rowsOf 35 = .ok (.iaload, 1) := by decide +kernel
theorem dX8_rowsOf_36 : decode cX8_rowsOf 36 = .ok (.if_icmp .eq 4, 3) := by decide +kernel
theorem dX8_rowsOf_39 : decode cX8_rowsOf 39 = .ok (.return_, 1) := by decide +kernel
theorem dX8_rowsOf_40 : decode cX8_rowsOf 40 = .ok (.iinc 4 1, 3) := by decide +kernel
theorem dX8_rowsOf_43 : decode cX8_rowsOf 43 = .ok (.goto (-35), 3) := by decide +kernel
theorem dX8_rowsOf_46 : decode cX8_rowsOf 46 = .ok (.aload_n 0, 1) := by decide +kernel
theorem dX8_rowsOf_47 : decode cX8_rowsOf 47 = .ok (.iconst 0, 1) := by decide +kernel
theorem dX8_rowsOf_48 : decode cX8_rowsOf 48 = .ok (.putfield 274, 3) := by decide +kernel
theorem dX8_rowsOf_51 : decode cX8_rowsOf 51 = .ok (.iconst 0, 1) := by decide +kernel
theorem dX8_rowsOf_52 : decode cX8_rowsOf 52 = .ok (.istore 4, 2) := by decide +kernel
theorem dX8_rowsOf_54 : decode cX8_rowsOf 54 = .ok (.iload 4, 2) := by decide +kernel
theorem dX8_rowsOf_56 : decode cX8_rowsOf 56 = .ok (.iload_n 2, 1) := by decide +kernel
theorem dX8_rowsOf_57 : decode cX8_rowsOf 57 = .ok (.if_icmp .ge 28, 3) := by decide +kernel
theorem dX8_rowsOf_60 : decode cX8_rowsOf 60 = .ok (.aload_n 0, 1) := by decide +kernel
theorem dX8_rowsOf_61 : decode cX8_rowsOf 61 = .ok (.aload_n 0, 1) := by decide +kernel
theorem dX8_rowsOf_62 : decode cX8_rowsOf 62 = .ok (.getfield 59, 3) := by decide +kernel
theorem dX8_rowsOf_65 : decode cX8_rowsOf 65 = .ok (.iload 4, 2) := by decide +kernel
theorem dX8_rowsOf_67 : decode cX8_rowsOf 67 = .ok (.iaload, 1) := by decide +kernel
theorem dX8_rowsOf_68 : decode cX8_rowsOf 68 = .ok (.aload_n 0, 1) := by decide +kernel
theorem dX8_rowsOf_69 : decode cX8_rowsOf 69 = .ok (.getfield 62, 3) := by decide +kernel
theorem dX8_rowsOf_72 : decode cX8_rowsOf 72 = .ok (.iload 4, 2) := by decide +kernel
theorem dX8_rowsOf_74 : decode cX8_rowsOf 74 = .ok (.iaload, 1) := by decide +kernel
theorem dX8_rowsOf_75 : decode cX8_rowsOf 75 = .ok (.iconst 0, 1) := by decide +kernel
theorem dX8_rowsOf_76 : decode cX8_rowsOf 76 = .ok (.invokevirtual 277, 3) := by decide +kernel
theorem dX8_rowsOf_79 : decode cX8_rowsOf 79 = .ok (.iinc 4 1, 3) := by decide +kernel
theorem dX8_rowsOf_82 : decode cX8_rowsOf 82 = .ok (.goto (-28), 3) := by decide +kernel
theorem dX8_rowsOf_85 : decode cX8_rowsOf 85 = .ok (.aload_n 0, 1) := by decide +kernel
theorem dX8_rowsOf_86 : decode cX8_rowsOf 86 = .ok (.dup, 1) := by decide +kernel
theorem dX8_rowsOf_87 : decode cX8_rowsOf 87 = .ok (.getfield 316, 3) := by decide +kernel
theorem dX8_rowsOf_90 : decode cX8_rowsOf 90 = .ok (.iconst 1, 1) := by decide +kernel
theorem dX8_rowsOf_91 : decode cX8_rowsOf 91 = .ok (.iadd, 1) := by decide +kernel
theorem dX8_rowsOf_92 : decode cX8_rowsOf 92 = .ok (.putfield 316, 3) := by decide +kernel
theorem dX8_rowsOf_95 : decode cX8_rowsOf 95 = .ok (.aload_n 0, 1) := by decide +kernel
theorem dX8_rowsOf_96 : decode cX8_rowsOf 96 = .ok (.dup, 1) := by decide +kernel
theorem dX8_rowsOf_97 : decode cX8_rowsOf 97 = .ok (.getfield 319, 3) := by decide +kernel
theorem dX8_rowsOf_100 : decode cX8_rowsOf 100 = .ok (.aload_n 0, 1) := by decide +kernel
theorem dX8_rowsOf_101 : decode cX8_rowsOf 101 = .ok (.getfield 274, 3) := by decide +kernel
theorem dX8_rowsOf_104 : decode cX8_rowsOf 104 = .ok (.iload_n 2, 1) := by decide +kernel
theorem dX8_rowsOf_105 : decode cX8_rowsOf 105 = .ok (.if_icmp .ne 7, 3) := by decide +kernel
theorem dX8_rowsOf_108 : decode cX8_rowsOf 108 = .ok (.iconst 1, 1) := by decide +kernel
theorem dX8_rowsOf_109 : decode cX8_rowsOf 109 = .ok (.goto 4, 3) := by decide +kernel
theorem dX8_rowsOf_112 : decode cX8_rowsOf 112 = .ok (.iconst 0, 1) := by decide +kernel
theorem dX8_rowsOf_113 : decode cX8_rowsOf 113 = .ok (.iadd, 1) := by decide +kernel
theorem dX8_rowsOf_114 : decode cX8_rowsOf 114 = .ok (.putfield 319, 3) := by decide +kernel
theorem dX8_rowsOf_117 : decode cX8_rowsOf 117 = .ok (.return_, 1) := by decide +kernel
theorem dX8_rowsOf_118 : decode cX8_rowsOf 118 = .ok (.iconst 0, 1) := by decide +kernel
theorem dX8_rowsOf_119 : decode cX8_rowsOf 119 = .ok (.istore 4, 2) := by decide +kernel
theorem dX8_rowsOf_121 : decode cX8_rowsOf 121 = .ok (.iload 4, 2) := by decide +kernel
theorem dX8_rowsOf_123 : decode cX8_rowsOf 123 = .ok (.iconst 1, 1) := by decide +kernel
theorem dX8_rowsOf_124 : decode cX8_rowsOf 124 = .ok (.iadd, 1) := by decide +kernel
theorem dX8_rowsOf_125 : decode cX8_rowsOf 125 = .ok (.aload_n 0, 1) := by decide +kernel
theorem dX8_rowsOf_126 : decode cX8_rowsOf 126 = .ok (.getfield 103, 3) := by decide +kernel
theorem dX8_rowsOf_129 : decode cX8_rowsOf 129 = .ok (.if_icmp .ge 61, 3) := by decide +kernel
theorem dX8_rowsOf_132 : decode cX8_rowsOf 132 = .ok (.aload_n 0, 1) := by decide +kernel
theorem dX8_rowsOf_133 : decode cX8_rowsOf 133 = .ok (.iload 4, 2) := by decide +kernel
theorem dX8_rowsOf_135 : decode cX8_rowsOf 135 = .ok (.invokevirtual 270, 3) := by decide +kernel
theorem dX8_rowsOf_138 : decode cX8_rowsOf 138 = .ok (.iconst 0, 1) := by decide +kernel
theorem dX8_rowsOf_139 : decode cX8_rowsOf 139 = .ok (.istore 5, 2) := by decide +kernel
theorem dX8_rowsOf_141 : decode cX8_rowsOf 141 = .ok (.iload 5, 2) := by decide +kernel
theorem dX8_rowsOf_143 : decode cX8_rowsOf 143 = .ok (.iconst 2, 1) := by decide +kernel
theorem dX8_rowsOf_144 : decode cX8_rowsOf 144 = .ok (.if_icmp .ge 34, 3) := by decide +kernel
theorem dX8_rowsOf_147 : decode cX8_rowsOf 147 = .ok (.aload_n 0, 1) := by decide +kernel
theorem dX8_rowsOf_148 : decode cX8_rowsOf 148 = .ok (.getfield 59, 3) := by decide +kernel
theorem dX8_rowsOf_151 : decode cX8_rowsOf 151 = .ok (.iload_n 3, 1) := by decide +kernel
theorem dX8_rowsOf_152 : decode cX8_rowsOf 152 = .ok (.iload 4, 2) := by decide +kernel
theorem dX8_rowsOf_154 : decode cX8_rowsOf 154 = .ok (.iastore, 1) := by decide +kernel
theorem dX8_rowsOf_155 : decode cX8_rowsOf 155 = .ok (.aload_n 0, 1) := by decide +kernel
theorem dX8_rowsOf_156 : decode cX8_rowsOf 156 = .ok (.getfield 62, 3) := by decide +kernel
theorem dX8_rowsOf_159 : decode cX8_rowsOf 159 = .ok (.iload_n 3, 1) := by decide +kernel
theorem dX8_rowsOf_160 : decode cX8_rowsOf 160 = .ok (.iload 5, 2) := by decide +kernel
theorem dX8_rowsOf_162 : decode cX8_rowsOf 162 = .ok (.iastore, 1) := by decide +kernel
theorem dX8_rowsOf_163 : decode cX8_rowsOf 163 = .ok (.aload_n 0, 1) := by decide +kernel
theorem dX8_rowsOf_164 : decode cX8_rowsOf 164 = .ok (.iload_n 1, 1) := by decide +kernel
theorem dX8_rowsOf_165 : decode cX8_rowsOf 165 = .ok (.iload_n 2, 1) := by decide +kernel
theorem dX8_rowsOf_166 : decode cX8_rowsOf 166 = .ok (.iload_n 3, 1) := by decide +kernel
theorem dX8_rowsOf_167 : decode cX8_rowsOf 167 = .ok (.iconst 1, 1) := by decide +kernel
theorem dX8_rowsOf_168 : decode cX8_rowsOf 168 = .ok (.iadd, 1) := by decide +kernel
theorem dX8_rowsOf_169 : decode cX8_rowsOf 169 = .ok (.invokevirtual 322, 3) := by decide +kernel
theorem dX8_rowsOf_172 : decode cX8_rowsOf 172 = .ok (.iinc 5 1, 3) := by decide +kernel
theorem dX8_rowsOf_175 : decode cX8_rowsOf 175 = .ok (.goto (-34), 3) := by decide +kernel
theorem dX8_rowsOf_178 : decode cX8_rowsOf 178 = .ok (.aload_n 0, 1) := by decide +kernel
theorem dX8_rowsOf_179 : decode cX8_rowsOf 179 = .ok (.iload 4, 2) := by decide +kernel
theorem dX8_rowsOf_181 : decode cX8_rowsOf 181 = .ok (.invokevirtual 270, 3) := by decide +kernel
theorem dX8_rowsOf_184 : decode cX8_rowsOf 184 = .ok (.iinc 4 1, 3) := by decide +kernel
theorem dX8_rowsOf_187 : decode cX8_rowsOf 187 = .ok (.goto (-66), 3) := by decide +kernel
theorem dX8_rowsOf_190 : decode cX8_rowsOf 190 = .ok (.return_, 1) := by decide +kernel
theorem dX8_seen_0 : decode cX8_seen 0 = .ok (.aload_n 0, 1) := by decide +kernel
theorem dX8_seen_1 : decode cX8_seen 1 = .ok (.iload_n 1, 1) := by decide +kernel
theorem dX8_seen_2 : decode cX8_seen 2 = .ok (.invokevirtual 303, 3) := by decide +kernel
theorem dX8_seen_5 : decode cX8_seen 5 = .ok (.istore 4, 2) := by decide +kernel
theorem dX8_seen_7 : decode cX8_seen 7 = .ok (.iload 4, 2) := by decide +kernel
theorem dX8_seen_9 : decode cX8_seen 9 = .ok (.ifCond .eq 6, 3) := by decide +kernel
theorem dX8_seen_12 : decode cX8_seen 12 = .ok (.iload 4, 2) := by decide +kernel
theorem dX8_seen_14 : decode cX8_seen 14 = .ok (.ireturn, 1) := by decide +kernel
theorem dX8_seen_15 : decode cX8_seen 15 = .ok (.iload_n 2, 1) := by decide +kernel
theorem dX8_seen_16 : decode cX8_seen 16 = .ok (.i2l, 1) := by decide +kernel
theorem dX8_seen_17 : decode cX8_seen 17 = .ok (.lconst 0, 1) := by decide +kernel
theorem dX8_seen_18 : decode cX8_seen 18 = .ok (.ldc2_w 325, 3) := by decide +kernel
theorem dX8_seen_21 : decode cX8_seen 21 = .ok (.invokestatic 106, 3) := by decide +kernel
theorem dX8_seen_24 : decode cX8_seen 24 = .ok (.ifCond .eq 13, 3) := by decide +kernel
theorem dX8_seen_27 : decode cX8_seen 27 = .ok (.iload_n 3, 1) := by decide +kernel
theorem dX8_seen_28 : decode cX8_seen 28 = .ok (.i2l, 1) := by decide +kernel
theorem dX8_seen_29 : decode cX8_seen 29 = .ok (.lconst 0, 1) := by decide +kernel
theorem dX8_seen_30 : decode cX8_seen 30 = .ok (.lconst 1, 1) := by decide +kernel
theorem dX8_seen_31 : decode cX8_seen 31 = .ok (.invokestatic 106, 3) := by decide +kernel
theorem dX8_seen_34 : decode cX8_seen 34 = .ok (.ifCond .ne 6, 3) := by decide +kernel
theorem dX8_seen_37 : decode cX8_seen 37 = .ok (.bipush (-2), 2) := by decide +kernel
theorem dX8_seen_39 : decode cX8_seen 39 = .ok (.ireturn, 1) := by decide +kernel
theorem dX8_seen_40 : decode cX8_seen 40 = .ok (.aload_n 0, 1) := by decide +kernel
theorem dX8_seen_41 : decode cX8_seen 41 = .ok (.iconst 0, 1) := by decide +kernel
theorem dX8_seen_42 : decode cX8_seen 42 = .ok (.putfield 316, 3) := by decide +kernel
theorem dX8_seen_45 : decode cX8_seen 45 = .ok (.aload_n 0, 1) := by decide +kernel
theorem dX8_seen_46 : decode cX8_seen 46 = .ok (.iconst 0, 1) := by decide +kernel
theorem dX8_seen_47 : decode cX8_seen 47 = .ok (.putfield 319, 3) := by decide +kernel
theorem dX8_seen_50 : decode cX8_seen 50 = .ok (.aload_n 0, 1) := by decide +kernel
theorem dX8_seen_51 : decode cX8_seen 51 = .ok (.iload_n 1, 1) := by decide +kernel
theorem dX8_seen_52 : decode cX8_seen 52 = .ok (.iload_n 2, 1) := by decide +kernel
theorem dX8_seen_53 : decode cX8_seen 53 = .ok (.iconst 0, 1) := by decide +kernel
theorem dX8_seen_54 : decode cX8_seen 54 = .ok (.invokevirtual 322, 3) := by decide +kernel
theorem dX8_seen_57 : decode cX8_seen 57 = .ok (.iload_n 3, 1) := by decide +kernel
theorem dX8_seen_58 : decode cX8_seen 58 = .ok (.ifCond .ne 10, 3) := by decide +kernel
theorem dX8_seen_61 : decode cX8_seen 61 = .ok (.aload_n 0, 1) := by decide +kernel
theorem dX8_seen_62 : decode cX8_seen 62 = .ok (.getfield 316, 3) := by decide +kernel
theorem dX8_seen_65 : decode cX8_seen 65 = .ok (.goto 7, 3) := by decide +kernel
theorem dX8_seen_68 : decode cX8_seen 68 = .ok (.aload_n 0, 1) := by decide +kernel
theorem dX8_seen_69 : decode cX8_seen 69 = .ok (.getfield 319, 3) := by decide +kernel
theorem dX8_seen_72 : decode cX8_seen 72 = .ok (.ireturn, 1) := by decide +kernel
theorem dX8_fetches_0 : decode cX8_fetches 0 = .ok (.iload_n 1, 1) := by decide +kernel
theorem dX8_fetches_1 : decode cX8_fetches 1 = .ok (.aload_n 0, 1) := by decide +kernel
theorem dX8_fetches_2 : decode cX8_fetches 2 = .ok (.getfield 103, 3) := by decide +kernel
theorem dX8_fetches_5 : decode cX8_fetches 5 = .ok (.if_icmp .ne 120, 3) := by decide +kernel
theorem dX8_fetches_8 : decode cX8_fetches 8 = .ok (.aload_n 0, 1) := by decide +kernel
theorem dX8_fetches_9 : decode cX8_fetches 9 = .ok (.getfield 103, 3) := by decide +kernel
theorem dX8_fetches_12 : decode cX8_fetches 12 = .ok (.ifCond .ne 7, 3) := by decide +kernel
theorem dX8_fetches_15 : decode cX8_fetches 15 = .ok (.iconst 0, 1) := by decide +kernel
theorem dX8_fetches_16 : decode cX8_fetches 16 = .ok (.goto 21, 3) := by decide +kernel
theorem dX8_fetches_19 : decode cX8_fetches 19 = .ok (.iload_n 3, 1) := by decide +kernel
theorem dX8_fetches_20 : decode cX8_fetches 20 = .ok (.aload_n 0, 1) := by decide +kernel
theorem dX8_fetches_21 : decode cX8_fetches 21 = .ok (.getfield 32, 3) := by decide +kernel
theorem dX8_fetches_24 : decode cX8_fetches 24 = .ok (.aload_n 0, 1) := by decide +kernel
theorem dX8_fetches_25 : decode cX8_fetches 25 = .ok (.getfield 65, 3) := by decide +kernel
theorem dX8_fetches_28 : decode cX8_fetches 28 = .ok (.aload_n 0, 1) := by decide +kernel
theorem dX8_fetches_29 : decode cX8_fetches 29 = .ok (.getfield 103, 3) := by decide +kernel
theorem dX8_fetches_32 : decode cX8_fetches 32 = .ok (.iconst 1, 1) := by decide +kernel
theorem dX8_fetches_33 : decode cX8_fetches 33 = .ok (.isub, 1) := by decide +kernel
theorem dX8_fetches_34 : decode cX8_fetches 34 = .ok (.iaload, 1) := by decide +kernel
theorem dX8_fetches_35 : decode cX8_fetches 35 = .ok (.iaload, 1) := by decide +kernel
theorem dX8_fetches_36 : decode cX8_fetches 36 = .ok (.iadd, 1) := by decide +kernel
theorem dX8_fetches_37 : decode cX8_fetches 37 = .ok (.istore 5, 2) := by decide +kernel
theorem dX8_fetches_39 : decode cX8_fetches 39 = .ok (.aload_n 0, 1) := by decide +kernel
theorem dX8_fetches_40 : decode cX8_fetches 40 = .ok (.getfield 327, 3) := by decide +kernel
theorem dX8_fetches_43 : decode cX8_fetches 43 = .ok (.iconst (-1), 1) := by decide +kernel
theorem dX8_fetches_44 : decode cX8_fetches 44 = .ok (.if_icmp .eq 12, 3) := by decide +kernel
theorem dX8_fetches_47 : decode cX8_fetches 47 = .ok (.iload 5, 2) := by decide +kernel
theorem dX8_fetches_49 : decode cX8_fetches 49 = .ok (.aload_n 0, 1) := by decide +kernel
theorem dX8_fetches_50 : decode cX8_fetches 50 = .ok (.getfield 327, 3) := by decide +kernel
theorem dX8_fetches_53 : decode cX8_fetches 53 = .ok (.if_icmp .ge 41, 3) := by decide +kernel
theorem dX8_fetches_56 : decode cX8_fetches 56 = .ok (.aload_n 0, 1) := by decide +kernel
theorem dX8_fetches_57 : decode cX8_fetches 57 = .ok (.iload 5, 2) := by decide +kernel
theorem dX8_fetches_59 : decode cX8_fetches 59 = .ok (.putfield 327, 3) := by decide +kernel
theorem dX8_fetches_62 : decode cX8_fetches 62 = .ok (.iconst 0, 1) := by decide +kernel
theorem dX8_fetches_63 : decode cX8_fetches 63 = .ok (.istore 6, 2) := by decide +kernel
theorem dX8_fetches_65 : decode cX8_fetches 65 = .ok (.iload 6, 2) := by decide +kernel
theorem dX8_fetches_67 : decode cX8_fetches 67 = .ok (.aload_n 0, 1) := by decide +kernel
theorem dX8_fetches_68 : decode cX8_fetches 68 = .ok (.getfield 103, 3) := by decide +kernel
theorem dX8_fetches_71 : decode cX8_fetches 71 = .ok (.if_icmp .ge 23, 3) := by decide +kernel
theorem dX8_fetches_74 : decode cX8_fetches 74 = .ok (.aload_n 0, 1) := by decide +kernel
theorem dX8_fetches_75 : decode cX8_fetches 75 = .ok (.getfield 68, 3) := by decide +kernel
theorem dX8_fetches_78 : decode cX8_fetches 78 = .ok (.iload 6, 2) := by decide +kernel
theorem dX8_fetches_80 : decode cX8_fetches 80 = .ok (.aload_n 0, 1) := by decide +kernel
theorem dX8_fetches_81 : decode cX8_fetches 81 = .ok (.getfield 65, 3) := by decide +kernel
theorem dX8_fetches_84 : decode cX8_fetches 84 = .ok (.iload 6, 2) := by decide +kernel
theorem dX8_fetches_86 : decode cX8_fetches 86 = .ok (.iaload, 1) := by decide +kernel
theorem dX8_fetches_87 : decode cX8_fetches 87 = .ok (.iastore, 1) := by decide +kernel
theorem dX8_fetches_88 : decode cX8_fetches 88 = .ok (.iinc 6 1, 3) := by decide +kernel
theorem dX8_fetches_91 : decode cX8_fetches 91 = .ok (.goto (-26), 3) := by decide +kernel
theorem dX8_fetches_94 : decode cX8_fetches 94 = .ok (.aload_n 0, 1) := by decide +kernel
theorem dX8_fetches_95 : decode cX8_fetches 95 = .ok (.aload_n 0, 1) := by decide +kernel
theorem dX8_fetches_96 : decode cX8_fetches 96 = .ok (.getfield 330, 3) := by decide +kernel
theorem dX8_fetches_99 : decode cX8_fetches 99 = .ok (.iconst (-1), 1) := by decide +kernel
theorem dX8_fetches_100 : decode cX8_fetches 100 = .ok (.if_icmp .eq 12, 3) := by decide +kernel
theorem dX8_fetches_103 : decode cX8_fetches 103 = .ok (.iload 4, 2) := by decide +kernel
theorem dX8_fetches_105 : decode cX8_fetches 105 = .ok (.aload_n 0, 1) := by decide +kernel
theorem dX8_fetches_106 : decode cX8_fetches 106 = .ok (.getfield 330, 3) := by decide +kernel
theorem dX8_fetches_109 : decode cX8_fetches 109 = .ok (.if_icmp .ge 8, 3) := by decide +kernel
theorem dX8_fetches_112 : decode cX8_fetches 112 = .ok (.iload 4, 2) := by decide +kernel
theorem dX8_fetches_114 : decode cX8_fetches 114 = .ok (.goto 7, 3) := by decide +kernel
theorem dX8_fetches_117 : decode cX8_fetches 117 = .ok (.aload_n 0, 1) := by decide +kernel
theorem dX8_fetches_118 : decode cX8_fetches 118 = .ok (.getfield 330, 3) := by decide +kernel
theorem dX8_fetches_121 : decode cX8_fetches 121 = .ok (.putfield 330, 3) := by decide +kernel
theorem dX8_fetches_124 : decode cX8_fetches 124 = .ok (.return_, 1) := by decide +kernel
theorem dX8_fetches_125 : decode cX8_fetches 125 = .ok (.iconst 0, 1) := by decide +kernel
theorem dX8_fetches_126 : decode cX8_fetches 126 = .ok (.istore 5, 2) := by decide +kernel
theorem dX8_fetches_128 : decode cX8_fetches 128 = .ok (.iload 5, 2) := by decide +kernel
theorem dX8_fetches_130 : decode cX8_fetches 130 = .ok (.aload_n 0, 1) := by decide +kernel
theorem dX8_fetches_131 : decode cX8_fetches 131 = .ok (.getfield 103, 3) := by decide +kernel
theorem dX8_fetches_134 : decode cX8_fetches 134 = .ok (.if_icmp .ge 116, 3) := by decide +kernel
theorem dX8_fetches_137 : decode cX8_fetches 137 = .ok (.iload_n 2, 1) := by decide +kernel
theorem dX8_fetches_138 : decode cX8_fetches 138 = .ok (.iload 5, 2) := by decide +kernel
theorem dX8_fetches_140 : decode cX8_fetches 140 = .ok (.ishr, 1) := by decide +kernel
theorem dX8_fetches_141 : decode cX8_fetches 141 = .ok (.iconst 1, 1) := by decide +kernel
theorem dX8_fetches_142 : decode cX8_fetches 142 = .ok (.iand, 1) := by decide +kernel
theorem dX8_fetches_143 : decode cX8_fetches 143 = .ok (.ifCond .ne 101, 3) := by decide +kernel
theorem dX8_fetches_146 : decode cX8_fetches 146 = .ok (.aload_n 0, 1) := by decide +kernel
theorem dX8_fetches_147 : decode cX8_fetches 147 = .ok (.getfield 65, 3) := by decide +kernel
theorem dX8_fetches_150 : decode cX8_fetches 150 = .ok (.iload_n 1, 1) := by decide +kernel
theorem dX8_fetches_151 : decode cX8_fetches 151 = .ok (.iload 5, 2) := by decide +kernel
theorem dX8_fetches_153 : decode cX8_fetches 153 = .ok (.iastore, 1) := by decide +kernel
theorem dX8_fetches_154 : decode cX8_fetches 154 = .ok (.iload_n 1, 1) := by decide +kernel
theorem dX8_fetches_155 : decode cX8_fetches 155 = .ok (.ifCond .ne 13, 3) := by decide +kernel
theorem dX8_fetches_158 : decode cX8_fetches 158 = .ok (.aload_n 0, 1) := by decide +kernel
theorem dX8_fetches_159 : decode cX8_fetches 159 = .ok (.getfield 32, 3) := by decide +kernel
theorem dX8_fetches_162 : decode cX8_fetches 162 = .ok (.iload 5, 2) := by decide +kernel
theorem dX8_fetches_164 : decode cX8_fetches 164 = .ok (.iaload, 1) := by decide +kernel
theorem dX8_fetches_165 : decode cX8_fetches 165 = .ok (.goto 26, 3) := by decide +kernel
theorem dX8_fetches_168 : decode cX8_fetches 168 = .ok (.aload_n 0, 1) := by decide +kernel
theorem dX8_fetches_169 : decode cX8_fetches 169 = .ok (.getfield 32, 3) := by decide +kernel
theorem dX8_fetches_172 : decode cX8_fetches 172 = .ok (.iload 5, 2) := by decide +kernel
theorem dX8_fetches_174 : decode cX8_fetches 174 = .ok (.iaload, 1) := by decide +kernel
theorem dX8_fetches_175 : decode cX8_fetches 175 = .ok (.aload_n 0, 1) := by decide +kernel
theorem dX8_fetches_176 : decode cX8_fetches 176 = .ok (.getfield 32, 3) := by decide +kernel
theorem dX8_fetches_179 : decode cX8_fetches 179 = .ok (.aload_n 0, 1) := by decide +kernel
theorem dX8_fetches_180 : decode cX8_fetches 180 = .ok (.getfield 65, 3) := by decide +kernel
theorem dX8_fetches_183 : decode cX8_fetches 183 = .ok (.iload_n 1, 1) := by decide +kernel
theorem dX8_fetches_184 : decode cX8_fetches 184 = .ok (.iconst 1, 1) := by decide +kernel
theorem dX8_fetches_185 : decode cX8_fetches 185 = .ok (.isub, 1) := by decide +kernel
theorem dX8_fetches_186 : decode cX8_fetches 186 = .ok (.iaload, 1) := by decide +kernel
theorem dX8_fetches_187 : decode cX8_fetches 187 = .ok (.iaload, 1) := by decide +kernel
theorem dX8_fetches_188 : decode cX8_fetches 188 = .ok (.invokestatic 255, 3) := by decide +kernel
theorem dX8_fetches_191 : decode cX8_fetches 191 = .ok (.istore 6, 2) := by decide +kernel
theorem dX8_fetches_193 : decode cX8_fetches 193 = .ok (.iload_n 1, 1) := by decide +kernel
theorem dX8_fetches_194 : decode cX8_fetches 194 = .ok (.ifCond .ne 7, 3) := by decide +kernel
theorem dX8_fetches_197 : decode cX8_fetches 197 = .ok (.iconst 0, 1) := by decide +kernel
theorem dX8_fetches_198 : decode cX8_fetches 198 = .ok (.goto 22, 3) := by decide +kernel
theorem dX8_fetches_201 : decode cX8_fetches 201 = .ok (.aload_n 0, 1) := by decide +kernel
theorem dX8_fetches_202 : decode cX8_fetches 202 = .ok (.getfield 71, 3) := by decide +kernel
theorem dX8_fetches_205 : decode cX8_fetches 205 = .ok (.bipush 6, 2) := by decide +kernel
theorem dX8_fetches_207 : decode cX8_fetches 207 = .ok (.aload_n 0, 1) := by decide +kernel
theorem dX8_fetches_208 : decode cX8_fetches 208 = .ok (.getfield 65, 3) := by decide +kernel
theorem dX8_fetches_211 : decode cX8_fetches 211 = .ok (.iload_n 1, 1) := by decide +kernel
theorem dX8_fetches_212 : decode cX8_fetches 212 = .ok (.iconst 1, 1) := by decide +kernel
theorem dX8_fetches_213 : decode cX8_fetches 213 = .ok (.isub, 1) := by decide +kernel
theorem dX8_fetches_214 : decode cX8_fetches 214 = .ok (.iaload, 1) := by decide +kernel
theorem dX8_fetches_215 : decode cX8_fetches 215 = .ok (.imul, 1) := by decide +kernel
theorem dX8_fetches_216 : decode cX8_fetches 216 = .ok (.iload 5, 2) := by decide +kernel
theorem dX8_fetches_218 : decode cX8_fetches 218 = .ok (.iadd, 1) := by decide +kernel
theorem dX8_fetches_219 : decode cX8_fetches 219 = .ok (.iaload, 1) := by decide +kernel
theorem dX8_fetches_220 : decode cX8_fetches 220 = .ok (.istore 7, 2) := by decide +kernel
theorem dX8_fetches_222 : decode cX8_fetches 222 = .ok (.aload_n 0, 1) := by decide +kernel
theorem dX8_fetches_223 : decode cX8_fetches 223 = .ok (.iload_n 1, 1) := by decide +kernel
theorem dX8_fetches_224 : decode cX8_fetches 224 = .ok (.iconst 1, 1) := by decide +kernel
theorem dX8_fetches_225 : decode cX8_fetches 225 = .ok (.iadd, 1) := by decide +kernel
theorem dX8_fetches_226 : decode cX8_fetches 226 = .ok (.iload_n 2, 1) := by decide +kernel
theorem dX8_fetches_227 : decode cX8_fetches 227 = .ok (.iconst 1, 1) := by decide +kernel
theorem dX8_fetches_228 : decode cX8_fetches 228 = .ok (.iload 5, 2) := by decide +kernel
theorem dX8_fetches_230 : decode cX8_fetches 230 = .ok (.ishl, 1) := by decide +kernel
theorem dX8_fetches_231 : decode cX8_fetches 231 = .ok (.ior, 1) := by decide +kernel
theorem dX8_fetches_232 : decode cX8_fetches 232 = .ok (.iload_n 3, 1) := by decide +kernel
theorem dX8_fetches_233 : decode cX8_fetches 233 = .ok (.iload 6, 2) := by decide +kernel
theorem dX8_fetches_235 : decode cX8_fetches 235 = .ok (.iadd, 1) := by decide +kernel
theorem dX8_fetches_236 : decode cX8_fetches 236 = .ok (.iload 4, 2) := by decide +kernel
theorem dX8_fetches_238 : decode cX8_fetches 238 = .ok (.iload 7, 2) := by decide +kernel
theorem dX8_fetches_240 : decode cX8_fetches 240 = .ok (.iadd, 1) := by decide +kernel
theorem dX8_fetches_241 : decode cX8_fetches 241 = .ok (.invokevirtual 333, 3) := by decide +kernel
theorem dX8_fetches_244 : decode cX8_fetches 244 = .ok (.iinc 5 1, 3) := by decide +kernel
theorem dX8_fetches_247 : decode cX8_fetches 247 = .ok (.goto (-119), 3) := by decide +kernel
theorem dX8_fetches_250 : decode cX8_fetches 250 = .ok (.return_, 1) := by decide +kernel
theorem dX8_fetching_0 : decode cX8_fetching 0 = .ok (.iconst 0, 1) := by decide +kernel
theorem dX8_fetching_1 : decode cX8_fetching 1 = .ok (.istore_n 1, 1) := by decide +kernel
theorem dX8_fetching_2 : decode cX8_fetching 2 = .ok (.iload_n 1, 1) := by decide +kernel
theorem dX8_fetching_3 : decode cX8_fetching 3 = .ok (.aload_n 0, 1) := by decide +kernel
theorem dX8_fetching_4 : decode cX8_fetching 4 = .ok (.getfield 103, 3) := by decide +kernel
theorem dX8_fetching_7 : decode cX8_fetching 7 = .ok (.if_icmp .ge 53, 3) := by decide +kernel
theorem dX8_fetching_10 : decode cX8_fetching 10 = .ok (.iconst 0, 1) := by decide +kernel
theorem dX8_fetching_11 : decode cX8_fetching 11 = .ok (.istore_n 2, 1) := by decide +kernel
theorem dX8_fetching_12 : decode cX8_fetching 12 = .ok (.iload_n 2, 1) := by decide +kernel
theorem dX8_fetching_13 : decode cX8_fetching 13 = .ok (.aload_n 0, 1) := by decide +kernel
theorem dX8_fetching_14 : decode cX8_fetching 14 = .ok (.getfield 103, 3) := by decide +kernel
theorem dX8_fetching_17 : decode cX8_fetching 17 = .ok (.if_icmp .ge 37, 3) := by decide +kernel
theorem dX8_fetching_20 : decode cX8_fetching 20 = .ok (.aload_n 0, 1) := by decide +kernel
theorem dX8_fetching_21 : decode cX8_fetching 21 = .ok (.getfield 71, 3) := by decide +kernel
theorem dX8_fetching_24 : decode cX8_fetching 24 = .ok (.bipush 6, 2) := by decide +kernel
theorem dX8_fetching_26 : decode cX8_fetching 26 = .ok (.iload_n 1, 1) := by decide +kernel
theorem dX8_fetching_27 : decode cX8_fetching 27 = .ok (.imul, 1) := by decide +kernel
theorem dX8_fetching_28 : decode cX8_fetching 28 = .ok (.iload_n 2, 1) := by decide +kernel
theorem dX8_fetching_29 : decode cX8_fetching 29 = .ok (.iadd, 1) := by decide +kernel
theorem dX8_fetching_30 : decode cX8_fetching 30 = .ok (.iload_n 1, 1) := by decide +kernel
theorem dX8_fetching_31 : decode cX8_fetching 31 = .ok (.iload_n 2, 1) := by decide +kernel
theorem dX8_fetching_32 : decode cX8_fetching 32 = .ok (.if_icmp .ne 7, 3) := by decide +kernel
theorem dX8_fetching_35 : decode cX8_fetching 35 = .ok (.iconst 0, 1) := by decide +kernel
theorem dX8_fetching_36 : decode cX8_fetching 36 = .ok (.goto 11, 3) := by decide +kernel
theorem dX8_fetching_39 : decode cX8_fetching 39 = .ok (.aload_n 0, 1) := by decide +kernel
theorem dX8_fetching_40 : decode cX8_fetching 40 = .ok (.iconst 0, 1) := by decide +kernel
theorem dX8_fetching_41 : decode cX8_fetching 41 = .ok (.iload_n 1, 1) := by decide +kernel
theorem dX8_fetching_42 : decode cX8_fetching 42 = .ok (.iload_n 2, 1) := by decide +kernel
theorem dX8_fetching_43 : decode cX8_fetching 43 = .ok (.iconst 1, 1) := by decide +kernel
theorem dX8_fetching_44 : decode cX8_fetching 44 = .ok (.invokevirtual 262, 3) := by decide +kernel
theorem dX8_fetching_47 : decode cX8_fetching 47 = .ok (.iastore, 1) := by decide +kernel
theorem dX8_fetching_48 : decode cX8_fetching 48 = .ok (.iinc 2 1, 3) := by decide +kernel
theorem dX8_fetching_51 : decode cX8_fetching 51 = .ok (.goto (-39), 3) := by decide +kernel
theorem dX8_fetching_54 : decode cX8_fetching 54 = .ok (.iinc 1 1, 3) := by decide +kernel
theorem dX8_fetching_57 : decode cX8_fetching 57 = .ok (.goto (-55), 3) := by decide +kernel
theorem dX8_fetching_60 : decode cX8_fetching 60 = .ok (.aload_n 0, 1) := by decide +kernel
theorem dX8_fetching_61 : decode cX8_fetching 61 = .ok (.iconst (-1), 1) := by decide +kernel
theorem dX8_fetching_62 : decode cX8_fetching 62 = .ok (.putfield 327, 3) := by decide +kernel
theorem dX8_fetching_65 : decode cX8_fetching 65 = .ok (.aload_n 0, 1) := by decide +kernel
theorem dX8_fetching_66 : decode cX8_fetching 66 = .ok (.iconst (-1), 1) := by decide +kernel
theorem dX8_fetching_67 : decode cX8_fetching 67 = .ok (.putfield 330, 3) := by decide +kernel
theorem dX8_fetching_70 : decode cX8_fetching 70 = .ok (.aload_n 0, 1) := by decide +kernel
theorem dX8_fetching_71 : decode cX8_fetching 71 = .ok (.iconst 0, 1) := by decide +kernel
theorem dX8_fetching_72 : decode cX8_fetching 72 = .ok (.iconst 0, 1) := by decide +kernel
theorem dX8_fetching_73 : decode cX8_fetching 73 = .ok (.iconst 0, 1) := by decide +kernel
theorem dX8_fetching_74 : decode cX8_fetching 74 = .ok (.iconst 0, 1) := by decide +kernel
theorem dX8_fetching_75 : decode cX8_fetching 75 = .ok (.invokevirtual 333, 3) := by decide +kernel
theorem dX8_fetching_78 : decode cX8_fetching 78 = .ok (.return_, 1) := by decide +kernel
theorem dX8_fetch_0 : decode cX8_fetch 0 = .ok (.aload_n 0, 1) := by decide +kernel
theorem dX8_fetch_1 : decode cX8_fetch 1 = .ok (.invokevirtual 337, 3) := by decide +kernel
theorem dX8_fetch_4 : decode cX8_fetch 4 = .ok (.aload_n 0, 1) := by decide +kernel
theorem dX8_fetch_5 : decode cX8_fetch 5 = .ok (.getfield 327, 3) := by decide +kernel
theorem dX8_fetch_8 : decode cX8_fetch 8 = .ok (.ireturn, 1) := by decide +kernel
theorem dX8_fetched_0 : decode cX8_fetched 0 = .ok (.aload_n 0, 1) := by decide +kernel
theorem dX8_fetched_1 : decode cX8_fetched 1 = .ok (.iload_n 1, 1) := by decide +kernel
theorem dX8_fetched_2 : decode cX8_fetched 2 = .ok (.invokevirtual 119, 3) := by decide +kernel
theorem dX8_fetched_5 : decode cX8_fetched 5 = .ok (.ifCond .ne 6, 3) := by decide +kernel
theorem dX8_fetched_8 : decode cX8_fetched 8 = .ok (.bipush (-2), 2) := by decide +kernel
theorem dX8_fetched_10 : decode cX8_fetched 10 = .ok (.ireturn, 1) := by decide +kernel
theorem dX8_fetched_11 : decode cX8_fetched 11 = .ok (.aload_n 0, 1) := by decide +kernel
theorem dX8_fetched_12 : decode cX8_fetched 12 = .ok (.invokevirtual 337, 3) := by decide +kernel
theorem dX8_fetched_15 : decode cX8_fetched 15 = .ok (.aload_n 0, 1) := by decide +kernel
theorem dX8_fetched_16 : decode cX8_fetched 16 = .ok (.getfield 68, 3) := by decide +kernel
theorem dX8_fetched_19 : decode cX8_fetched 19 = .ok (.iload_n 1, 1) := by decide +kernel
theorem dX8_fetched_20 : decode cX8_fetched 20 = .ok (.iaload, 1) := by decide +kernel
theorem dX8_fetched_21 : decode cX8_fetched 21 = .ok (.ireturn, 1) := by decide +kernel
theorem dX8_walk_0 : decode cX8_walk 0 = .ok (.aload_n 0, 1) := by decide +kernel
theorem dX8_walk_1 : decode cX8_walk 1 = .ok (.invokevirtual 337, 3) := by decide +kernel
theorem dX8_walk_4 : decode cX8_walk 4 = .ok (.aload_n 0, 1) := by decide +kernel
theorem dX8_walk_5 : decode cX8_walk 5 = .ok (.getfield 330, 3) := by decide +kernel
theorem dX8_walk_8 : decode cX8_walk 8 = .ok (.ireturn, 1) := by decide +kernel
theorem dX8_take_0 : decode cX8_take 0 = .ok (.iload_n 1, 1) := by decide +kernel
theorem dX8_take_1 : decode cX8_take 1 = .ok (.i2l, 1) := by decide +kernel
theorem dX8_take_2 : decode cX8_take 2 = .ok (.lconst 0, 1) := by decide +kernel
theorem dX8_take_3 : decode cX8_take 3 = .ok (.lconst 1, 1) := by decide +kernel
theorem dX8_take_4 : decode cX8_take 4 = .ok (.invokestatic 106, 3) := by decide +kernel
theorem dX8_take_7 : decode cX8_take 7 = .ok (.ifCond .ne 7, 3) := by decide +kernel
theorem dX8_take_10 : decode cX8_take 10 = .ok (.ldc_w 269, 3) := by decide +kernel
theorem dX8_take_13 : decode cX8_take 13 = .ok (.ireturn, 1) := by decide +kernel
theorem dX8_take_14 : decode cX8_take 14 = .ok (.iconst 0, 1) := by decide +kernel
theorem dX8_take_15 : decode cX8_take 15 = .ok (.istore_n 2, 1) := by decide +kernel
theorem dX8_take_16 : decode cX8_take 16 = .ok (.iload_n 2, 1) := by decide +kernel
theorem dX8_take_17 : decode cX8_take 17 = .ok (.aload_n 0, 1) := by decide +kernel
theorem dX8_take_18 : decode cX8_take 18 = .ok (.getfield 103, 3) := by decide +kernel
theorem dX8_take_21 : decode cX8_take 21 = .ok (.if_icmp .ge 52, 3) := by decide +kernel
theorem dX8_take_24 : decode cX8_take 24 = .ok (.iconst 0, 1) := by decide +kernel
theorem dX8_take_25 : decode cX8_take 25 = .ok (.istore_n 3, 1) := by decide +kernel
theorem dX8_take_26 : decode cX8_take 26 = .ok (.iload_n 3, 1) := by decide +kernel
theorem dX8_take_27 : decode cX8_take 27 = .ok (.aload_n 0, 1) := by decide +kernel
theorem dX8_take_28 : decode cX8_take 28 = .ok (.getfield 103, 3) := by decide +kernel
theorem dX8_take_31 : decode cX8_take 31 = .ok (.if_icmp .ge 36, 3) := by decide +kernel
theorem dX8_take_34 : decode cX8_take 34 = .ok (.aload_n 0, 1) := by decide +kernel
theorem dX8_take_35 : decode cX8_take 35 = .ok (.getfield 71, 3) := by decide +kernel
theorem dX8_take_38 : decode cX8_take 38 = .ok (.bipush 6, 2) := by decide +kernel
theorem dX8_take_40 : decode cX8_take 40 = .ok (.iload_n 2, 1) := by decide +kernel
theorem dX8_take_41 : decode cX8_take 41 = .ok (.imul, 1) := by decide +kernel
theorem dX8_take_42 : decode cX8_take 42 = .ok (.iload_n 3, 1) := by decide +kernel
theorem dX8_take_43 : decode cX8_take 43 = .ok (.iadd, 1) := by decide +kernel
theorem dX8_take_44 : decode cX8_take 44 = .ok (.iload_n 2, 1) := by decide +kernel
theorem dX8_take_45 : decode cX8_take 45 = .ok (.iload_n 3, 1) := by decide +kernel
theorem dX8_take_46 : decode cX8_take 46 = .ok (.if_icmp .ne 7, 3) := by decide +kernel
theorem dX8_take_49 : decode cX8_take 49 = .ok (.iconst 0, 1) := by decide +kernel
theorem dX8_take_50 : decode cX8_take 50 = .ok (.goto 10, 3) := by decide +kernel
theorem dX8_take_53 : decode cX8_take 53 = .ok (.aload_n 0, 1) := by decide +kernel
theorem dX8_take_54 : decode cX8_take 54 = .ok (.iconst 1, 1) := by decide +kernel
theorem dX8_take_55 : decode cX8_take 55 = .ok (.iload_n 2, 1) := by decide +kernel
theorem dX8_take_56 : decode cX8_take 56 = .ok (.iload_n 3, 1) := by decide +kernel
theorem dX8_take_57 : decode cX8_take 57 = .ok (.invokevirtual 266, 3) := by decide +kernel
theorem dX8_take_60 : decode cX8_take 60 = .ok (.iastore, 1) := by decide +kernel
theorem dX8_take_61 : decode cX8_take 61 = .ok (.iinc 3 1, 3) := by decide +kernel
theorem dX8_take_64 : decode cX8_take 64 = .ok (.goto (-38), 3) := by decide +kernel
theorem dX8_take_67 : decode cX8_take 67 = .ok (.iinc 2 1, 3) := by decide +kernel
theorem dX8_take_70 : decode cX8_take 70 = .ok (.goto (-54), 3) := by decide +kernel
theorem dX8_take_73 : decode cX8_take 73 = .ok (.iconst 0, 1) := by decide +kernel
theorem dX8_take_74 : decode cX8_take 74 = .ok (.istore_n 2, 1) := by decide +kernel
theorem dX8_take_75 : decode cX8_take 75 = .ok (.iconst 0, 1) := by decide +kernel
theorem dX8_take_76 : decode cX8_take 76 = .ok (.istore_n 3, 1) := by decide +kernel
theorem dX8_take_77 : decode cX8_take 77 = .ok (.iconst 1, 1) := by decide +kernel
theorem dX8_take_78 : decode cX8_take 78 = .ok (.istore 4, 2) := by decide +kernel
theorem dX8_take_80 : decode cX8_take 80 = .ok (.iload 4, 2) := by decide +kernel
theorem dX8_take_82 : decode cX8_take 82 = .ok (.iconst 1, 1) := by decide +kernel
theorem dX8_take_83 : decode cX8_take 83 = .ok (.aload_n 0, 1) := by decide +kernel
theorem dX8_take_84 : decode cX8_take 84 = .ok (.getfield 103, 3) := by decide +kernel
theorem dX8_take_87 : decode cX8_take 87 = .ok (.ishl, 1) := by decide +kernel
theorem dX8_take_88 : decode cX8_take 88 = .ok (.if_icmp .ge 121, 3) := by decide +kernel
theorem dX8_take_91 : decode cX8_take 91 = .ok (.iconst 0, 1) := by decide +kernel
theorem dX8_take_92 : decode cX8_take 92 = .ok (.istore 5, 2) := by decide +kernel
theorem dX8_take_94 : decode cX8_take 94 = .ok (.iconst 0, 1) := by decide +kernel
theorem dX8_take_95 : decode cX8_take 95 = .ok (.istore 6, 2) := by decide +kernel
theorem dX8_take_97 : decode cX8_take 97 = .ok (.iload 6, 2) := by decide +kernel
theorem dX8_take_99 : decode cX8_take 99 = .ok (.aload_n 0, 1) := by decide +kernel
theorem dX8_take_100 : decode cX8_take 100 = .ok (.getfield 103, 3) := by decide +kernel
theorem dX8_take_103 : decode cX8_take 103 = .ok (.if_icmp .ge 88, 3) := by decide +kernel
theorem dX8_take_106 : decode cX8_take 106 = .ok (.iload 4, 2) := by decide +kernel
theorem dX8_take_108 : decode cX8_take 108 = .ok (.iload 6, 2) := by decide +kernel
theorem dX8_take_110 : decode cX8_take 110 = .ok (.ishr, 1) := by decide +kernel
theorem dX8_take_111 : decode cX8_take 111 = .ok (.iconst 1, 1) := by decide +kernel
theorem dX8_take_112 : decode cX8_take 112 = .ok (.iand, 1) := by decide +kernel
theorem dX8_take_113 : decode cX8_take 113 = .ok (.iconst 1, 1) := by decide +kernel
theorem dX8_take_114 : decode cX8_take 114 = .ok (.if_icmp .ne 71, 3) := by decide +kernel
theorem dX8_take_117 : decode cX8_take 117 = .ok (.iload 5, 2) := by decide +kernel
theorem dX8_take_119 : decode cX8_take 119 = .ok (.iconst 3, 1) := by decide +kernel
theorem dX8_take_120 : decode cX8_take 120 = .ok (.aload_n 0, 1) := by decide +kernel
theorem dX8_take_121 : decode cX8_take 121 = .ok (.getfield 26, 3) := by decide +kernel
theorem dX8_take_124 : decode cX8_take 124 = .ok (.iload 6, 2) := by decide +kernel
theorem dX8_take_126 : decode cX8_take 126 = .ok (.iaload, 1) := by decide +kernel
theorem dX8_take_127 : decode cX8_take 127 = .ok (.imul, 1) := by decide +kernel
theorem dX8_take_128 : decode cX8_take 128 = .ok (.isub, 1) := by decide +kernel
theorem dX8_take_129 : decode cX8_take 129 = .ok (.istore 5, 2) := by decide +kernel
theorem dX8_take_131 : decode cX8_take 131 = .ok (.iload 6, 2) := by decide +kernel
theorem dX8_take_133 : decode cX8_take 133 = .ok (.iconst 1, 1) := by decide +kernel
theorem dX8_take_134 : decode cX8_take 134 = .ok (.iadd, 1) := by decide +kernel
theorem dX8_take_135 : decode cX8_take 135 = .ok (.istore 7, 2) := by decide +kernel
theorem dX8_take_137 : decode cX8_take 137 = .ok (.iload 7, 2) := by decide +kernel
theorem dX8_take_139 : decode cX8_take 139 = .ok (.aload_n 0, 1) := by decide +kernel
theorem dX8_take_140 : decode cX8_take 140 = .ok (.getfield 103, 3) := by decide +kernel
theorem dX8_take_143 : decode cX8_take 143 = .ok (.if_icmp .ge 42, 3) := by decide +kernel
theorem dX8_take_146 : decode cX8_take 146 = .ok (.iload 5, 2) := by decide +kernel
theorem dX8_take_148 : decode cX8_take 148 = .ok (.iload 4, 2) := by decide +kernel
theorem dX8_take_150 : decode cX8_take 150 = .ok (.iload 7, 2) := by decide +kernel
theorem dX8_take_152 : decode cX8_take 152 = .ok (.ishr, 1) := by decide +kernel
theorem dX8_take_153 : decode cX8_take 153 = .ok (.iconst 1, 1) := by decide +kernel
theorem dX8_take_154 : decode cX8_take 154 = .ok (.iand, 1) := by decide +kernel
theorem dX8_take_155 : decode cX8_take 155 = .ok (.iconst 1, 1) := by decide +kernel
theorem dX8_take_156 : decode cX8_take 156 = .ok (.if_icmp .ne 19, 3) := by decide +kernel
theorem dX8_take_159 : decode cX8_take 159 = .ok (.aload_n 0, 1) := by decide +kernel
theorem dX8_take_160 : decode cX8_take 160 = .ok (.getfield 71, 3) := by decide +kernel
theorem dX8_take_163 : decode cX8_take 163 = .ok (.bipush 6, 2) := by decide +kernel
theorem dX8_take_165 : decode cX8_take 165 = .ok (.iload 6, 2) := by decide +kernel
theorem dX8_take_167 : decode cX8_take 167 = .ok (.imul, 1) := by decide +kernel
theorem dX8_take_168 : decode cX8_take 168 = .ok (.iload 7, 2) := by decide +kernel
theorem dX8_take_170 : decode cX8_take 170 = .ok (.iadd, 1) := by decide +kernel
theorem dX8_take_171 : decode cX8_take 171 = .ok (.iaload, 1) := by decide +kernel
theorem dX8_take_172 : decode cX8_take 172 = .ok (.goto 4, 3) := by decide +kernel
theorem dX8_take_175 : decode cX8_take 175 = .ok (.iconst 0, 1) := by decide +kernel
theorem dX8_take_176 : decode cX8_take 176 = .ok (.iadd, 1) := by decide +kernel
theorem dX8_take_177 : decode cX8_take 177 = .ok (.istore 5, 2) := by decide +kernel
theorem dX8_take_179 : decode cX8_take 179 = .ok (.iinc 7 1, 3) := by decide +kernel
theorem dX8_take_182 : decode cX8_take 182 = .ok (.goto (-45), 3) := by decide +kernel
theorem dX8_take_185 : decode cX8_take 185 = .ok (.iinc 6 1, 3) := by decide +kernel
theorem dX8_take_188 : decode cX8_take 188 = .ok (.goto (-91), 3) := by decide +kernel
theorem dX8_take_191 : decode cX8_take 191 = .ok (.iload 5, 2) := by decide +kernel
theorem dX8_take_193 : decode cX8_take 193 = .ok (.iload_n 3, 1) := by decide +kernel
theorem dX8_take_194 : decode cX8_take 194 = .ok (.if_icmp .le 9, 3) := by decide +kernel
theorem dX8_take_197 : decode cX8_take 197 = .ok (.iload 4, 2) := by decide +kernel
theorem dX8_take_199 : decode cX8_take 199 = .ok (.istore_n 2, 1) := by decide +kernel
theorem dX8_take_200 : decode cX8_take 200 = .ok (.iload 5, 2) := by decide +kernel
theorem dX8_take_202 : decode cX8_take 202 = .ok (.istore_n 3, 1) := by decide +kernel
theorem dX8_take_203 : decode cX8_take 203 = .ok (.iinc 4 1, 3) := by decide +kernel
theorem dX8_take_206 : decode cX8_take 206 = .ok (.goto (-126), 3) := by decide +kernel
theorem dX8_take_209 : decode cX8_take 209 = .ok (.iload_n 1, 1) := by decide +kernel
theorem dX8_take_210 : decode cX8_take 210 = .ok (.ifCond .ne 7, 3) := by decide +kernel
theorem dX8_take_213 : decode cX8_take 213 = .ok (.iload_n 2, 1) := by decide +kernel
theorem dX8_take_214 : decode cX8_take 214 = .ok (.goto 4, 3) := by decide +kernel
theorem dX8_take_217 : decode cX8_take 217 = .ok (.iload_n 3, 1) := by decide +kernel
theorem dX8_take_218 : decode cX8_take 218 = .ok (.ireturn, 1) := by decide +kernel
theorem dX8_drawn_0 : decode cX8_drawn 0 = .ok (.iload_n 2, 1) := by decide +kernel
theorem dX8_drawn_1 : decode cX8_drawn 1 = .ok (.i2l, 1) := by decide +kernel
theorem dX8_drawn_2 : decode cX8_drawn 2 = .ok (.lconst 0, 1) := by decide +kernel
theorem dX8_drawn_3 : decode cX8_drawn 3 = .ok (.ldc2_w 340, 3) := by decide +kernel
theorem dX8_drawn_6 : decode cX8_drawn 6 = .ok (.invokestatic 106, 3) := by decide +kernel
theorem dX8_drawn_9 : decode cX8_drawn 9 = .ok (.ifCond .ne 6, 3) := by decide +kernel
theorem dX8_drawn_12 : decode cX8_drawn 12 = .ok (.bipush (-2), 2) := by decide +kernel
theorem dX8_drawn_14 : decode cX8_drawn 14 = .ok (.ireturn, 1) := by decide +kernel
theorem dX8_drawn_15 : decode cX8_drawn 15 = .ok (.aload_n 0, 1) := by decide +kernel
theorem dX8_drawn_16 : decode cX8_drawn 16 = .ok (.getfield 103, 3) := by decide +kernel
theorem dX8_drawn_19 : decode cX8_drawn 19 = .ok (.iconst 2, 1) := by decide +kernel
theorem dX8_drawn_20 : decode cX8_drawn 20 = .ok (.if_icmp .ge 5, 3) := by decide +kernel
theorem dX8_drawn_23 : decode cX8_drawn 23 = .ok (.iconst 0, 1) := by decide +kernel
theorem dX8_drawn_24 : decode cX8_drawn 24 = .ok (.ireturn, 1) := by decide +kernel
theorem dX8_drawn_25 : decode cX8_drawn 25 = .ok (.iload_n 1, 1) := by decide +kernel
theorem dX8_drawn_26 : decode cX8_drawn 26 = .ok (.istore_n 3, 1) := by decide +kernel
theorem dX8_drawn_27 : decode cX8_drawn 27 = .ok (.aload_n 0, 1) := by decide +kernel
theorem dX8_drawn_28 : decode cX8_drawn 28 = .ok (.iconst 0, 1) := by decide +kernel
theorem dX8_drawn_29 : decode cX8_drawn 29 = .ok (.putfield 274, 3) := by decide +kernel
theorem dX8_drawn_32 : decode cX8_drawn 32 = .ok (.iconst 0, 1) := by decide +kernel
theorem dX8_drawn_33 : decode cX8_drawn 33 = .ok (.istore 4, 2) := by decide +kernel
theorem dX8_drawn_35 : decode cX8_drawn 35 = .ok (.iload 4, 2) := by decide +kernel
theorem dX8_drawn_37 : decode cX8_drawn 37 = .ok (.iload_n 2, 1) := by decide +kernel
theorem dX8_drawn_38 : decode cX8_drawn 38 = .ok (.if_icmp .ge 41, 3) := by decide +kernel
theorem dX8_drawn_41 : decode cX8_drawn 41 = .ok (.iload_n 3, 1) := by decide +kernel
theorem dX8_drawn_42 : decode cX8_drawn 42 = .ok (.ldc_w 342, 3) := by decide +kernel
theorem dX8_drawn_45 : decode cX8_drawn 45 = .ok (.imul, 1) := by decide +kernel
theorem dX8_drawn_46 : decode cX8_drawn 46 = .ok (.sipush 12345, 3) := by decide +kernel
theorem dX8_drawn_49 : decode cX8_drawn 49 = .ok (.iadd, 1) := by decide +kernel
theorem dX8_drawn_50 : decode cX8_drawn 50 = .ok (.istore_n 3, 1) := by decide +kernel
theorem dX8_drawn_51 : decode cX8_drawn 51 = .ok (.aload_n 0, 1) := by decide +kernel
theorem dX8_drawn_52 : decode cX8_drawn 52 = .ok (.iload_n 3, 1) := by decide +kernel
theorem dX8_drawn_53 : decode cX8_drawn 53 = .ok (.bipush 8, 2) := by decide +kernel
theorem dX8_drawn_55 : decode cX8_drawn 55 = .ok (.iushr, 1) := by decide +kernel
theorem dX8_drawn_56 : decode cX8_drawn 56 = .ok (.aload_n 0, 1) := by decide +kernel
theorem dX8_drawn_57 : decode cX8_drawn 57 = .ok (.getfield 103, 3) := by decide +kernel
theorem dX8_drawn_60 : decode cX8_drawn 60 = .ok (.iconst 1, 1) := by decide +kernel
theorem dX8_drawn_61 : decode cX8_drawn 61 = .ok (.isub, 1) := by decide +kernel
theorem dX8_drawn_62 : decode cX8_drawn 62 = .ok (.irem, 1) := by decide +kernel
theorem dX8_drawn_63 : decode cX8_drawn 63 = .ok (.iload_n 3, 1) := by decide +kernel
theorem dX8_drawn_64 : decode cX8_drawn 64 = .ok (.bipush 16, 2) := by decide +kernel
theorem dX8_drawn_66 : decode cX8_drawn 66 = .ok (.iushr, 1) := by decide +kernel
theorem dX8_drawn_67 : decode cX8_drawn 67 = .ok (.iconst 2, 1) := by decide +kernel
theorem dX8_drawn_68 : decode cX8_drawn 68 = .ok (.irem, 1) := by decide +kernel
theorem dX8_drawn_69 : decode cX8_drawn 69 = .ok (.iconst 0, 1) := by decide +kernel
theorem dX8_drawn_70 : decode cX8_drawn 70 = .ok (.invokevirtual 277, 3) := by decide +kernel
theorem dX8_drawn_73 : decode cX8_drawn 73 = .ok (.iinc 4 1, 3) := by decide +kernel
theorem dX8_drawn_76 : decode cX8_drawn 76 = .ok (.goto (-41), 3) := by decide +kernel
theorem dX8_drawn_79 : decode cX8_drawn 79 = .ok (.aload_n 0, 1) := by decide +kernel
theorem dX8_drawn_80 : decode cX8_drawn 80 = .ok (.getfield 274, 3) := by decide +kernel
theorem dX8_drawn_83 : decode cX8_drawn 83 = .ok (.ireturn, 1) := by decide +kernel
theorem dX8_chance_0 : decode cX8_chance 0 = .ok (.iload_n 2, 1) := by decide +kernel
theorem dX8_chance_1 : decode cX8_chance 1 = .ok (.i2l, 1) := by decide +kernel
theorem dX8_chance_2 : decode cX8_chance 2 = .ok (.lconst 1, 1) := by decide +kernel
theorem dX8_chance_3 : decode cX8_chance 3 = .ok (.ldc2_w 343, 3) := by decide +kernel
theorem dX8_chance_6 : decode cX8_chance 6 = .ok (.invokestatic 106, 3) := by decide +kernel
theorem dX8_chance_9 : decode cX8_chance 9 = .ok (.ifCond .eq 39, 3) := by decide +kernel
theorem dX8_chance_12 : decode cX8_chance 12 = .ok (.iload_n 3, 1) := by decide +kernel
theorem dX8_chance_13 : decode cX8_chance 13 = .ok (.i2l, 1) := by decide +kernel
theorem dX8_chance_14 : decode cX8_chance 14 = .ok (.lconst 0, 1) := by decide +kernel
theorem dX8_chance_15 : decode cX8_chance 15 = .ok (.ldc2_w 340, 3) := by decide +kernel
theorem dX8_chance_18 : decode cX8_chance 18 = .ok (.invokestatic 106, 3) := by decide +kernel
theorem dX8_chance_21 : decode cX8_chance 21 = .ok (.ifCond .eq 27, 3) := by decide +kernel
theorem dX8_chance_24 : decode cX8_chance 24 = .ok (.iload 4, 2) := by decide +kernel
theorem dX8_chance_26 : decode cX8_chance 26 = .ok (.i2l, 1) := by decide +kernel
theorem dX8_chance_27 : decode cX8_chance 27 = .ok (.lconst 0, 1) := by decide +kernel
theorem dX8_chance_28 : decode cX8_chance 28 = .ok (.ldc2_w 340, 3) := by decide +kernel
theorem dX8_chance_31 : decode cX8_chance 31 = .ok (.invokestatic 106, 3) := by decide +kernel
theorem dX8_chance_34 : decode cX8_chance 34 = .ok (.ifCond .eq 14, 3) := by decide +kernel
theorem dX8_chance_37 : decode cX8_chance 37 = .ok (.iload 5, 2) := by decide +kernel
theorem dX8_chance_39 : decode cX8_chance 39 = .ok (.i2l, 1) := by decide +kernel
theorem dX8_chance_40 : decode cX8_chance 40 = .ok (.lconst 0, 1) := by decide +kernel
theorem dX8_chance_41 : decode cX8_chance 41 = .ok (.lconst 1, 1) := by decide +kernel
theorem dX8_chance_42 : decode cX8_chance 42 = .ok (.invokestatic 106, 3) := by decide +kernel
theorem dX8_chance_45 : decode cX8_chance 45 = .ok (.ifCond .ne 7, 3) := by decide +kernel
theorem dX8_chance_48 : decode cX8_chance 48 = .ok (.ldc2_w 345, 3) := by decide +kernel
theorem dX8_chance_51 : decode cX8_chance 51 = .ok (.lreturn, 1) := by decide +kernel
theorem dX8_chance_52 : decode cX8_chance 52 = .ok (.lconst 0, 1) := by decide +kernel
theorem dX8_chance_53 : decode cX8_chance 53 = .ok (.lstore 6, 2) := by decide +kernel
theorem dX8_chance_55 : decode cX8_chance 55 = .ok (.iconst 0, 1) := by decide +kernel
theorem dX8_chance_56 : decode cX8_chance 56 = .ok (.istore 8, 2) := by decide +kernel
theorem dX8_chance_58 : decode cX8_chance 58 = .ok (.iload 8, 2) := by decide +kernel
theorem dX8_chance_60 : decode cX8_chance 60 = .ok (.iload_n 2, 1) := by decide +kernel
theorem dX8_chance_61 : decode cX8_chance 61 = .ok (.if_icmp .ge 33, 3) := by decide +kernel
theorem dX8_chance_64 : decode cX8_chance 64 = .ok (.lload 6, 2) := by decide +kernel
theorem dX8_chance_66 : decode cX8_chance 66 = .ok (.aload_n 0, 1) := by decide +kernel
theorem dX8_chance_67 : decode cX8_chance 67 = .ok (.iload_n 1, 1) := by decide +kernel
theorem dX8_chance_68 : decode cX8_chance 68 = .ok (.iload 8, 2) := by decide +kernel
theorem dX8_chance_70 : decode cX8_chance 70 = .ok (.iadd, 1) := by decide +kernel
theorem dX8_chance_71 : decode cX8_chance 71 = .ok (.iload_n 3, 1) := by decide +kernel
theorem dX8_chance_72 : decode cX8_chance 72 = .ok (.invokevirtual 347, 3) := by decide +kernel
theorem dX8_chance_75 : decode cX8_chance 75 = .ok (.iload 4, 2) := by decide +kernel
theorem dX8_chance_77 : decode cX8_chance 77 = .ok (.if_icmp .gt 7, 3) := by decide +kernel
theorem dX8_chance_80 : decode cX8_chance 80 = .ok (.lconst 1, 1) := by decide +kernel
theorem dX8_chance_81 : decode cX8_chance 81 = .ok (.goto 4, 3) := by decide +kernel
theorem dX8_chance_84 : decode cX8_chance 84 = .ok (.lconst 0, 1) := by decide +kernel
theorem dX8_chance_85 : decode cX8_chance 85 = .ok (.ladd, 1) := by decide +kernel
theorem dX8_chance_86 : decode cX8_chance 86 = .ok (.lstore 6, 2) := by decide +kernel
theorem dX8_chance_88 : decode cX8_chance 88 = .ok (.iinc 8 1, 3) := by decide +kernel
theorem dX8_chance_91 : decode cX8_chance 91 = .ok (.goto (-33), 3) := by decide +kernel
theorem dX8_chance_94 : decode cX8_chance 94 = .ok (.lload 6, 2) := by decide +kernel
theorem dX8_chance_96 : decode cX8_chance 96 = .ok (.lstore 8, 2) := by decide +kernel
theorem dX8_chance_98 : decode cX8_chance 98 = .ok (.iload_n 2, 1) := by decide +kernel
theorem dX8_chance_99 : decode cX8_chance 99 = .ok (.i2l, 1) := by decide +kernel
theorem dX8_chance_100 : decode cX8_chance 100 = .ok (.lstore 10, 2) := by decide +kernel
theorem dX8_chance_102 : decode cX8_chance 102 = .ok (.lload 10, 2) := by decide +kernel
theorem dX8_chance_104 : decode cX8_chance 104 = .ok (.lconst 0, 1) := by decide +kernel
theorem dX8_chance_105 : decode cX8_chance 105 = .ok (.lcmp, 1) := by decide +kernel
theorem dX8_chance_106 : decode cX8_chance 106 = .ok (.ifCond .eq 21, 3) := by decide +kernel
theorem dX8_chance_109 : decode cX8_chance 109 = .ok (.lload 8, 2) := by decide +kernel
theorem dX8_chance_111 : decode cX8_chance 111 = .ok (.lload 10, 2) := by decide +kernel
theorem dX8_chance_113 : decode cX8_chance 113 = .ok (.lrem, 1) := by decide +kernel
theorem dX8_chance_114 : decode cX8_chance 114 = .ok (.lstore 12, 2) := by decide +kernel
theorem dX8_chance_116 : decode cX8_chance 116 = .ok (.lload 10, 2) := by decide +kernel
theorem dX8_chance_118 : decode cX8_chance 118 = .ok (.lstore 8, 2) := by decide +kernel
theorem dX8_chance_120 : decode cX8_chance 120 = .ok (.lload 12, 2) := by decide +kernel
theorem dX8_chance_122 : decode cX8_chance 122 = .ok (.lstore 10, 2) := by decide +kernel
theorem dX8_chance_124 : decode cX8_chance 124 = .ok (.goto (-22), 3) := by decide +kernel
theorem dX8_chance_127 : decode cX8_chance 127 = .ok (.iload 5, 2) := by decide +kernel
theorem dX8_chance_129 : decode cX8_chance 129 = .ok (.ifCond .ne 11, 3) := by decide +kernel
theorem dX8_chance_132 : decode cX8_chance 132 = .ok (.lload 6, 2) := by decide +kernel
theorem dX8_chance_134 : decode cX8_chance 134 = .ok (.lload 8, 2) := by decide +kernel
theorem dX8_chance_136 : decode cX8_chance 136 = .ok (.ldiv, 1) := by decide +kernel
theorem dX8_chance_137 : decode cX8_chance 137 = .ok (.goto 8, 3) := by decide +kernel
theorem dX8_chance_140 : decode cX8_chance 140 = .ok (.iload_n 2, 1) := by decide +kernel
theorem dX8_chance_141 : decode cX8_chance 141 = .ok (.i2l, 1) := by decide +kernel
theorem dX8_chance_142 : decode cX8_chance 142 = .ok (.lload 8, 2) := by decide +kernel
theorem dX8_chance_144 : decode cX8_chance 144 = .ok (.ldiv, 1) := by decide +kernel
theorem dX8_chance_145 : decode cX8_chance 145 = .ok (.lreturn, 1) := by decide +kernel
theorem dX8_image_0 : decode cX8_image 0 = .ok (.iconst 0, 1) := by decide +kernel
theorem dX8_image_1 : decode cX8_image 1 = .ok (.istore_n 1, 1) := by decide +kernel
theorem dX8_image_2 : decode cX8_image 2 = .ok (.iload_n 1, 1) := by decide +kernel
theorem dX8_image_3 : decode cX8_image 3 = .ok (.bipush 6, 2) := by decide +kernel
theorem dX8_image_5 : decode cX8_image 5 = .ok (.if_icmp .ge 66, 3) := by decide +kernel
theorem dX8_image_8 : decode cX8_image 8 = .ok (.aload_n 0, 1) := by decide +kernel
theorem dX8_image_9 : decode cX8_image 9 = .ok (.getfield 74, 3) := by decide +kernel
theorem dX8_image_12 : decode cX8_image 12 = .ok (.iload_n 1, 1) := by decide +kernel
theorem dX8_image_13 : decode cX8_image 13 = .ok (.aload_n 0, 1) := by decide +kernel
theorem dX8_image_14 : decode cX8_image 14 = .ok (.getfield 35, 3) := by decide +kernel
theorem dX8_image_17 : decode cX8_image 17 = .ok (.iload_n 1, 1) := by decide +kernel
theorem dX8_image_18 : decode cX8_image 18 = .ok (.iaload, 1) := by decide +kernel
theorem dX8_image_19 : decode cX8_image 19 = .ok (.iastore, 1) := by decide +kernel
theorem dX8_image_20 : decode cX8_image 20 = .ok (.aload_n 0, 1) := by decide +kernel
theorem dX8_image_21 : decode cX8_image 21 = .ok (.getfield 74, 3) := by decide +kernel
theorem dX8_image_24 : decode cX8_image 24 = .ok (.bipush 6, 2) := by decide +kernel
theorem dX8_image_26 : decode cX8_image 26 = .ok (.iload_n 1, 1) := by decide +kernel
theorem dX8_image_27 : decode cX8_image 27 = .ok (.iadd, 1) := by decide +kernel
theorem dX8_image_28 : decode cX8_image 28 = .ok (.aload_n 0, 1) := by decide +kernel
theorem dX8_image_29 : decode cX8_image 29 = .ok (.getfield 26, 3) := by decide +kernel
theorem dX8_image_32 : decode cX8_image 32 = .ok (.iload_n 1, 1) := by decide +kernel
theorem dX8_image_33 : decode cX8_image 33 = .ok (.iaload, 1) := by decide +kernel
theorem dX8_image_34 : decode cX8_image 34 = .ok (.iastore, 1) := by decide +kernel
theorem dX8_image_35 : decode cX8_image 35 = .ok (.aload_n 0, 1) := by decide +kernel
theorem dX8_image_36 : decode cX8_image 36 = .ok (.getfield 74, 3) := by decide +kernel
theorem dX8_image_39 : decode cX8_image 39 = .ok (.bipush 12, 2) := by decide +kernel
theorem dX8_image_41 : decode cX8_image 41 = .ok (.iload_n 1, 1) := by decide +kernel
theorem dX8_image_42 : decode cX8_image 42 = .ok (.iadd, 1) := by decide +kernel
theorem dX8_image_43 : decode cX8_image 43 = .ok (.aload_n 0, 1) := by decide +kernel
theorem dX8_image_44 : decode cX8_image 44 = .ok (.getfield 29, 3) := by decide +kernel
theorem dX8_image_47 : decode cX8_image 47 = .ok (.iload_n 1, 1) := by decide +kernel
theorem dX8_image_48 : decode cX8_image 48 = .ok (.iaload, 1) := by decide +kernel
theorem dX8_image_49 : decode cX8_image 49 = .ok (.iastore, 1) := by decide +kernel
theorem dX8_image_50 : decode cX8_image 50 = .ok (.aload_n 0, 1) := by decide +kernel
theorem dX8_image_51 : decode cX8_image 51 = .ok (.getfield 74, 3) := by decide +kernel
theorem dX8_image_54 : decode cX8_image 54 = .ok (.bipush 18, 2) := by decide +kernel
theorem dX8_image_56 : decode cX8_image 56 = .ok (.iload_n 1, 1) := by decide +kernel
theorem dX8_image_57 : decode cX8_image 57 = .ok (.iadd, 1) := by decide +kernel
theorem dX8_image_58 : decode cX8_image 58 = .ok (.aload_n 0, 1) := by decide +kernel
theorem dX8_image_59 : decode cX8_image 59 = .ok (.getfield 32, 3) := by decide +kernel
theorem dX8_image_62 : decode cX8_image 62 = .ok (.iload_n 1, 1) := by decide +kernel
theorem dX8_image_63 : decode cX8_image 63 = .ok (.iaload, 1) := by decide +kernel
theorem dX8_image_64 : decode cX8_image 64 = .ok (.iastore, 1) := by decide +kernel
theorem dX8_image_65 : decode cX8_image 65 = .ok (.iinc 1 1, 3) := by decide +kernel
theorem dX8_image_68 : decode cX8_image 68 = .ok (.goto (-66), 3) := by decide +kernel
theorem dX8_image_71 : decode cX8_image 71 = .ok (.iconst 0, 1) := by decide +kernel
theorem dX8_image_72 : decode cX8_image 72 = .ok (.istore_n 1, 1) := by decide +kernel
theorem dX8_image_73 : decode cX8_image 73 = .ok (.iload_n 1, 1) := by decide +kernel
theorem dX8_image_74 : decode cX8_image 74 = .ok (.bipush 40, 2) := by decide +kernel
theorem dX8_image_76 : decode cX8_image 76 = .ok (.if_icmp .ge 36, 3) := by decide +kernel
theorem dX8_image_79 : decode cX8_image 79 = .ok (.aload_n 0, 1) := by decide +kernel
theorem dX8_image_80 : decode cX8_image 80 = .ok (.getfield 77, 3) := by decide +kernel
theorem dX8_image_83 : decode cX8_image 83 = .ok (.iload_n 1, 1) := by decide +kernel
theorem dX8_image_84 : decode cX8_image 84 = .ok (.aload_n 0, 1) := by decide +kernel
theorem dX8_image_85 : decode cX8_image 85 = .ok (.getfield 38, 3) := by decide +kernel
theorem dX8_image_88 : decode cX8_image 88 = .ok (.iload_n 1, 1) := by decide +kernel
theorem dX8_image_89 : decode cX8_image 89 = .ok (.iaload, 1) := by decide +kernel
theorem dX8_image_90 : decode cX8_image 90 = .ok (.iastore, 1) := by decide +kernel
theorem dX8_image_91 : decode cX8_image 91 = .ok (.aload_n 0, 1) := by decide +kernel
theorem dX8_image_92 : decode cX8_image 92 = .ok (.getfield 77, 3) := by decide +kernel
theorem dX8_image_95 : decode cX8_image 95 = .ok (.bipush 40, 2) := by decide +kernel
theorem dX8_image_97 : decode cX8_image 97 = .ok (.iload_n 1, 1) := by decide +kernel
theorem dX8_image_98 : decode cX8_image 98 = .ok (.iadd, 1) := by decide +kernel
theorem dX8_image_99 : decode cX8_image 99 = .ok (.aload_n 0, 1) := by decide +kernel
theorem dX8_image_100 : decode cX8_image 100 = .ok (.getfield 41, 3) := by decide +kernel
theorem dX8_image_103 : decode cX8_image 103 = .ok (.iload_n 1, 1) := by decide +kernel
theorem dX8_image_104 : decode cX8_image 104 = .ok (.iaload, 1) := by decide +kernel
theorem dX8_image_105 : decode cX8_image 105 = .ok (.iastore, 1) := by decide +kernel
theorem dX8_image_106 : decode cX8_image 106 = .ok (.iinc 1 1, 3) := by decide +kernel
theorem dX8_image_109 : decode cX8_image 109 = .ok (.goto (-36), 3) := by decide +kernel
theorem dX8_image_112 : decode cX8_image 112 = .ok (.aload_n 0, 1) := by decide +kernel
theorem dX8_image_113 : decode cX8_image 113 = .ok (.aload_n 0, 1) := by decide +kernel
theorem dX8_image_114 : decode cX8_image 114 = .ok (.getfield 103, 3) := by decide +kernel
theorem dX8_image_117 : decode cX8_image 117 = .ok (.putfield 80, 3) := by decide +kernel
theorem dX8_image_120 : decode cX8_image 120 = .ok (.aload_n 0, 1) := by decide +kernel
theorem dX8_image_121 : decode cX8_image 121 = .ok (.aload_n 0, 1) := by decide +kernel
theorem dX8_image_122 : decode cX8_image 122 = .ok (.getfield 116, 3) := by decide +kernel
theorem dX8_image_125 : decode cX8_image 125 = .ok (.putfield 350, 3) := by decide +kernel
theorem dX8_image_128 : decode cX8_image 128 = .ok (.aload_n 0, 1) := by decide +kernel
theorem dX8_image_129 : decode cX8_image 129 = .ok (.aload_n 0, 1) := by decide +kernel
theorem dX8_image_130 : decode cX8_image 130 = .ok (.getfield 252, 3) := by decide +kernel
theorem dX8_image_133 : decode cX8_image 133 = .ok (.putfield 353, 3) := by decide +kernel
theorem dX8_image_136 : decode cX8_image 136 = .ok (.aload_n 0, 1) := by decide +kernel
theorem dX8_image_137 : decode cX8_image 137 = .ok (.getfield 103, 3) := by decide +kernel
theorem dX8_image_140 : decode cX8_image 140 = .ok (.ireturn, 1) := by decide +kernel
theorem dX8_back_0 : decode cX8_back 0 = .ok (.aload_n 0, 1) := by decide +kernel
theorem dX8_back_1 : decode cX8_back 1 = .ok (.getfield 80, 3) := by decide +kernel
theorem dX8_back_4 : decode cX8_back 4 = .ok (.iconst (-1), 1) := by decide +kernel
theorem dX8_back_5 : decode cX8_back 5 = .ok (.if_icmp .ne 6, 3) := by decide +kernel
theorem dX8_back_8 : decode cX8_back 8 = .ok (.bipush (-3), 2) := by decide +kernel
theorem dX8_back_10 : decode cX8_back 10 = .ok (.ireturn, 1) := by decide +kernel
theorem dX8_back_11 : decode cX8_back 11 = .ok (.aload_n 0, 1) := by decide +kernel
theorem dX8_back_12 : decode cX8_back 12 = .ok (.aload_n 0, 1) := by decide +kernel
theorem dX8_back_13 : decode cX8_back 13 = .ok (.getfield 80, 3) := by decide +kernel
theorem dX8_back_16 : decode cX8_back 16 = .ok (.putfield 103, 3) := by decide +kernel
theorem dX8_back_19 : decode cX8_back 19 = .ok (.iconst 0, 1) := by decide +kernel
theorem dX8_back_20 : decode cX8_back 20 = .ok (.istore_n 1, 1) := by decide +kernel
theorem dX8_back_21 : decode cX8_back 21 = .ok (.iload_n 1, 1) := by decide +kernel
theorem dX8_back_22 : decode cX8_back 22 = .ok (.aload_n 0, 1) := by decide +kernel
theorem dX8_back_23 : decode cX8_back 23 = .ok (.getfield 103, 3) := by decide +kernel
theorem dX8_back_26 : decode cX8_back 26 = .ok (.if_icmp .ge 66, 3) := by decide +kernel
theorem dX8_back_29 : decode cX8_back 29 = .ok (.aload_n 0, 1) := by decide +kernel
theorem dX8_back_30 : decode cX8_back 30 = .ok (.getfield 35, 3) := by decide +kernel
theorem dX8_back_33 : decode cX8_back 33 = .ok (.iload_n 1, 1) := by decide +kernel
theorem dX8_back_34 : decode cX8_back 34 = .ok (.aload_n 0, 1) := by decide +kernel
theorem dX8_back_35 : decode cX8_back 35 = .ok (.getfield 74, 3) := by decide +kernel
theorem dX8_back_38 : decode cX8_back 38 = .ok (.iload_n 1, 1) := by decide +kernel
theorem dX8_back_39 : decode cX8_back 39 = .ok (.iaload, 1) := by decide +kernel
theorem dX8_back_40 : decode cX8_back 40 = .ok (.iastore, 1) := by decide +kernel
theorem dX8_back_41 : decode cX8_back 41 = .ok (.aload_n 0, 1) := by decide +kernel
theorem dX8_back_42 : decode cX8_back 42 = .ok (.getfield 26, 3) := by decide +kernel
theorem dX8_back_45 : decode cX8_back 45 = .ok (.iload_n 1, 1) := by decide +kernel
theorem dX8_back_46 : decode cX8_back 46 = .ok (.aload_n 0, 1) := by decide +kernel
theorem dX8_back_47 : decode cX8_back 47 = .ok (.getfield 74, 3) := by decide +kernel
theorem dX8_back_50 : decode cX8_back 50 = .ok (.bipush 6, 2) := by decide +kernel
theorem dX8_back_52 : decode cX8_back 52 = .ok (.iload_n 1, 1) := by decide +kernel
theorem dX8_back_53 : decode cX8_back 53 = .ok (.iadd, 1) := by decide +kernel
theorem dX8_back_54 : decode cX8_back 54 = .ok (.iaload, 1) := by decide +kernel
theorem dX8_back_55 : decode cX8_back 55 = .ok (.iastore, 1) := by decide +kernel
theorem dX8_back_56 : decode cX8_back 56 = .ok (.aload_n 0, 1) := by decide +kernel
theorem dX8_back_57 : decode cX8_back 57 = .ok (.getfield 29, 3) := by decide +kernel
theorem dX8_back_60 : decode cX8_back 60 = .ok (.iload_n 1, 1) := by decide +kernel
theorem dX8_back_61 : decode cX8_back 61 = .ok (.aload_n 0, 1) := by decide +kernel
theorem dX8_back_62 : decode cX8_back 62 = .ok (.getfield 74, 3) := by decide +kernel
theorem dX8_back_65 : decode cX8_back 65 = .ok (.bipush 12, 2) := by decide +kernel
theorem dX8_back_67 : decode cX8_back 67 = .ok (.iload_n 1, 1) := by decide +kernel
theorem dX8_back_68 : decode cX8_back 68 = .ok (.iadd, 1) := by decide +kernel
theorem dX8_back_69 : decode cX8_back 69 = .ok (.iaload, 1) := by decide +kernel
theorem dX8_back_70 : decode cX8_back 70 = .ok (.iastore, 1) := by decide +kernel
theorem dX8_back_71 : decode cX8_back 71 = .ok (.aload_n 0, 1) := by decide +kernel
theorem dX8_back_72 : decode cX8_back 72 = .ok (.getfield 32, 3) := by decide +kernel
theorem dX8_back_75 : decode cX8_back 75 = .ok (.iload_n 1, 1) := by decide +kernel
theorem dX8_back_76 : decode cX8_back 76 = .ok (.aload_n 0, 1) := by decide +kernel
theorem dX8_back_77 : decode cX8_back 77 = .ok (.getfield 74, 3) := by decide +kernel
theorem dX8_back_80 : decode cX8_back 80 = .ok (.bipush 18, 2) := by decide +kernel
theorem dX8_back_82 : decode cX8_back 82 = .ok (.iload_n 1, 1) := by decide +kernel
theorem dX8_back_83 : decode cX8_back 83 = .ok (.iadd, 1) := by decide +kernel
theorem dX8_back_84 : decode cX8_back 84 = .ok (.iaload, 1) := by decide +kernel
theorem dX8_back_85 : decode cX8_back 85 = .ok (.iastore, 1) := by decide +kernel
theorem dX8_back_86 : decode cX8_back 86 = .ok (.iinc 1 1, 3) := by decide +kernel
theorem dX8_back_89 : decode cX8_back 89 = .ok (.goto (-68), 3) := by decide +kernel
theorem dX8_back_92 : decode cX8_back 92 = .ok (.iconst 0, 1) := by decide +kernel
theorem dX8_back_93 : decode cX8_back 93 = .ok (.istore_n 1, 1) := by decide +kernel
theorem dX8_back_94 : decode cX8_back 94 = .ok (.iload_n 1, 1) := by decide +kernel
theorem dX8_back_95 : decode cX8_back 95 = .ok (.bipush 40, 2) := by decide +kernel
theorem dX8_back_97 : decode cX8_back 97 = .ok (.if_icmp .ge 36, 3) := by decide +kernel
theorem dX8_back_100 : decode cX8_back 100 = .ok (.aload_n 0, 1) := by decide +kernel
theorem dX8_back_101 : decode cX8_back 101 = .ok (.getfield 38, 3) := by decide +kernel
theorem dX8_back_104 : decode cX8_back 104 = .ok (.iload_n 1, 1) := by decide +kernel
theorem dX8_back_105 : decode cX8_back 105 = .ok (.aload_n 0, 1) := by decide +kernel
theorem dX8_back_106 : decode cX8_back 106 = .ok (.getfield 77, 3) := by decide +kernel
theorem dX8_back_109 : decode cX8_back 109 = .ok (.iload_n 1, 1) := by decide +kernel
theorem dX8_back_110 : decode cX8_back 110 = .ok (.iaload, 1) := by decide +kernel
theorem dX8_back_111 : decode cX8_back 111 = .ok (.iastore, 1) := by decide +kernel
theorem dX8_back_112 : decode cX8_back 112 = .ok (.aload_n 0, 1) := by decide +kernel
theorem dX8_back_113 : decode cX8_back 113 = .ok (.getfield 41, 3) := by decide +kernel
theorem dX8_back_116 : decode cX8_back 116 = .ok (.iload_n 1, 1) := by decide +kernel
theorem dX8_back_117 : decode cX8_back 117 = .ok (.aload_n 0, 1) := by decide +kernel
theorem dX8_back_118 : decode cX8_back 118 = .ok (.getfield 77, 3) := by decide +kernel
theorem dX8_back_121 : decode cX8_back 121 = .ok (.bipush 40, 2) := by decide +kernel
theorem dX8_back_123 : decode cX8_back 123 = .ok (.iload_n 1, 1) := by decide +kernel
theorem dX8_back_124 : decode cX8_back 124 = .ok (.iadd, 1) := by decide +kernel
theorem dX8_back_125 : decode cX8_back 125 = .ok (.iaload, 1) := by decide +kernel
theorem dX8_back_126 : decode cX8_back 126 = .ok (.iastore, 1) := by decide +kernel
theorem dX8_back_127 : decode cX8_back 127 = .ok (.iinc 1 1, 3) := by decide +kernel
theorem dX8_back_130 : decode cX8_back 130 = .ok (.goto (-36), 3) := by decide +kernel
theorem dX8_back_133 : decode cX8_back 133 = .ok (.aload_n 0, 1) := by decide +kernel
theorem dX8_back_134 : decode cX8_back 134 = .ok (.aload_n 0, 1) := by decide +kernel
theorem dX8_back_135 : decode cX8_back 135 = .ok (.getfield 350, 3) := by decide +kernel
theorem dX8_back_138 : decode cX8_back 138 = .ok (.putfield 116, 3) := by decide +kernel
theorem dX8_back_141 : decode cX8_back 141 = .ok (.aload_n 0, 1) := by decide +kernel
theorem dX8_back_142 : decode cX8_back 142 = .ok (.aload_n 0, 1) := by decide +kernel
theorem dX8_back_143 : decode cX8_back 143 = .ok (.getfield 353, 3) := by decide +kernel
theorem dX8_back_146 : decode cX8_back 146 = .ok (.putfield 252, 3) := by decide +kernel
theorem dX8_back_149 : decode cX8_back 149 = .ok (.aload_n 0, 1) := by decide +kernel
theorem dX8_back_150 : decode cX8_back 150 = .ok (.getfield 103, 3) := by decide +kernel
theorem dX8_back_153 : decode cX8_back 153 = .ok (.ireturn, 1) := by decide +kernel
theorem dX8_count_0 : decode cX8_count 0 = .ok (.iload_n 1, 1) := by decide +kernel
theorem dX8_count_1 : decode cX8_count 1 = .ok (.i2l, 1) := by decide +kernel
theorem dX8_count_2 : decode cX8_count 2 = .ok (.lconst 0, 1) := by decide +kernel
theorem dX8_count_3 : decode cX8_count 3 = .ok (.ldc2_w 110, 3) := by decide +kernel
theorem dX8_count_6 : decode cX8_count 6 = .ok (.invokestatic 106, 3) := by decide +kernel
theorem dX8_count_9 : decode cX8_count 9 = .ok (.ifCond .ne 6, 3) := by decide +kernel
theorem dX8_count_12 : decode cX8_count 12 = .ok (.bipush (-2), 2) := by decide +kernel
theorem dX8_count_14 : decode cX8_count 14 = .ok (.ireturn, 1) := by decide +kernel
theorem dX8_count_15 : decode cX8_count 15 = .ok (.iload_n 1, 1) := by decide +kernel
theorem dX8_count_16 : decode cX8_count 16 = .ok (.iconst 2, 1) := by decide +kernel
theorem dX8_count_17 : decode cX8_count 17 = .ok (.if_icmp .ne 13, 3) := by decide +kernel
theorem dX8_count_20 : decode cX8_count 20 = .ok (.aload_n 0, 1) := by decide +kernel
theorem dX8_count_21 : decode cX8_count 21 = .ok (.iconst 0, 1) := by decide +kernel
theorem dX8_count_22 : decode cX8_count 22 = .ok (.invokevirtual 281, 3) := by decide +kernel
theorem dX8_count_25 : decode cX8_count 25 = .ok (.aload_n 0, 1) := by decide +kernel
theorem dX8_count_26 : decode cX8_count 26 = .ok (.getfield 274, 3) := by decide +kernel
theorem dX8_count_29 : decode cX8_count 29 = .ok (.ireturn, 1) := by decide +kernel
theorem dX8_count_30 : decode cX8_count 30 = .ok (.iload_n 1, 1) := by decide +kernel
theorem dX8_count_31 : decode cX8_count 31 = .ok (.ifCond .ne 10, 3) := by decide +kernel
theorem dX8_count_34 : decode cX8_count 34 = .ok (.aload_n 0, 1) := by decide +kernel
theorem dX8_count_35 : decode cX8_count 35 = .ok (.getfield 103, 3) := by decide +kernel
theorem dX8_count_38 : decode cX8_count 38 = .ok (.goto 43, 3) := by decide +kernel
theorem dX8_count_41 : decode cX8_count 41 = .ok (.iload_n 1, 1) := by decide +kernel
theorem dX8_count_42 : decode cX8_count 42 = .ok (.iconst 1, 1) := by decide +kernel
theorem dX8_count_43 : decode cX8_count 43 = .ok (.if_icmp .ne 10, 3) := by decide +kernel
theorem dX8_count_46 : decode cX8_count 46 = .ok (.aload_n 0, 1) := by decide +kernel
theorem dX8_count_47 : decode cX8_count 47 = .ok (.getfield 116, 3) := by decide +kernel
theorem dX8_count_50 : decode cX8_count 50 = .ok (.goto 31, 3) := by decide +kernel
theorem dX8_count_53 : decode cX8_count 53 = .ok (.iload_n 1, 1) := by decide +kernel
theorem dX8_count_54 : decode cX8_count 54 = .ok (.iconst 3, 1) := by decide +kernel
theorem dX8_count_55 : decode cX8_count 55 = .ok (.if_icmp .ne 10, 3) := by decide +kernel
theorem dX8_count_58 : decode cX8_count 58 = .ok (.aload_n 0, 1) := by decide +kernel
theorem dX8_count_59 : decode cX8_count 59 = .ok (.getfield 100, 3) := by decide +kernel
theorem dX8_count_62 : decode cX8_count 62 = .ok (.goto 19, 3) := by decide +kernel
theorem dX8_count_65 : decode cX8_count 65 = .ok (.iload_n 1, 1) := by decide +kernel
theorem dX8_count_66 : decode cX8_count 66 = .ok (.iconst 4, 1) := by decide +kernel
theorem dX8_count_67 : decode cX8_count 67 = .ok (.if_icmp .ne 10, 3) := by decide +kernel
theorem dX8_count_70 : decode cX8_count 70 = .ok (.aload_n 0, 1) := by decide +kernel
theorem dX8_count_71 : decode cX8_count 71 = .ok (.getfield 137, 3) := by decide +kernel
theorem dX8_count_74 : decode cX8_count 74 = .ok (.goto 7, 3) := by decide +kernel
theorem dX8_count_77 : decode cX8_count 77 = .ok (.aload_n 0, 1) := by decide +kernel
theorem dX8_count_78 : decode cX8_count 78 = .ok (.getfield 252, 3) := by decide +kernel
theorem dX8_count_81 : decode cX8_count 81 = .ok (.ireturn, 1) := by decide +kernel
theorem dX8_isSheet_0 : decode cX8_isSheet 0 = .ok (.iload_n 0, 1) := by decide +kernel
theorem dX8_isSheet_1 : decode cX8_isSheet 1 = .ok (.i2l, 1) := by decide +kernel
theorem dX8_isSheet_2 : decode cX8_isSheet 2 = .ok (.lconst 0, 1) := by decide +kernel
theorem dX8_isSheet_3 : decode cX8_isSheet 3 = .ok (.ldc2_w 356, 3) := by decide +kernel
theorem dX8_isSheet_6 : decode cX8_isSheet 6 = .ok (.invokestatic 106, 3) := by decide +kernel
theorem dX8_isSheet_9 : decode cX8_isSheet 9 = .ok (.ireturn, 1) := by decide +kernel
theorem dX8_sheet_0 : decode cX8_sheet 0 = .ok (.iload_n 1, 1) := by decide +kernel
theorem dX8_sheet_1 : decode cX8_sheet 1 = .ok (.invokestatic 300, 3) := by decide +kernel
theorem dX8_sheet_4 : decode cX8_sheet 4 = .ok (.ifCond .eq 27, 3) := by decide +kernel
theorem dX8_sheet_7 : decode cX8_sheet 7 = .ok (.iload_n 2, 1) := by decide +kernel
theorem dX8_sheet_8 : decode cX8_sheet 8 = .ok (.i2l, 1) := by decide +kernel
theorem dX8_sheet_9 : decode cX8_sheet 9 = .ok (.ldc2_w 358, 3) := by decide +kernel
theorem dX8_sheet_12 : decode cX8_sheet 12 = .ok (.ldc2_w 123, 3) := by decide +kernel
theorem dX8_sheet_15 : decode cX8_sheet 15 = .ok (.invokestatic 106, 3) := by decide +kernel
theorem dX8_sheet_18 : decode cX8_sheet 18 = .ok (.ifCond .eq 13, 3) := by decide +kernel
theorem dX8_sheet_21 : decode cX8_sheet 21 = .ok (.iload_n 2, 1) := by decide +kernel
theorem dX8_sheet_22 : decode cX8_sheet 22 = .ok (.ifCond .lt 12, 3) := by decide +kernel
theorem dX8_sheet_25 : decode cX8_sheet 25 = .ok (.iload_n 3, 1) := by decide +kernel
theorem dX8_sheet_26 : decode cX8_sheet 26 = .ok (.bipush 40, 2) := by decide +kernel
theorem dX8_sheet_28 : decode cX8_sheet 28 = .ok (.if_icmp .le 6, 3) := by decide +kernel
theorem dX8_sheet_31 : decode cX8_sheet 31 = .ok (.bipush (-2), 2) := by decide +kernel
theorem dX8_sheet_33 : decode cX8_sheet 33 = .ok (.ireturn, 1) := by decide +kernel
theorem dX8_sheet_34 : decode cX8_sheet 34 = .ok (.iload_n 2, 1) := by decide +kernel
theorem dX8_sheet_35 : decode cX8_sheet 35 = .ok (.ifCond .lt 10, 3) := by decide +kernel
theorem dX8_sheet_38 : decode cX8_sheet 38 = .ok (.iload_n 3, 1) := by decide +kernel
theorem dX8_sheet_39 : decode cX8_sheet 39 = .ok (.ifCond .ge 6, 3) := by decide +kernel
theorem dX8_sheet_42 : decode cX8_sheet 42 = .ok (.bipush (-14), 2) := by decide +kernel
theorem dX8_sheet_44 : decode cX8_sheet 44 = .ok (.ireturn, 1) := by decide +kernel
theorem dX8_sheet_45 : decode cX8_sheet 45 = .ok (.aload_n 0, 1) := by decide +kernel
theorem dX8_sheet_46 : decode cX8_sheet 46 = .ok (.getfield 83, 3) := by decide +kernel
theorem dX8_sheet_49 : decode cX8_sheet 49 = .ok (.iload_n 1, 1) := by decide +kernel
theorem dX8_sheet_50 : decode cX8_sheet 50 = .ok (.iload_n 2, 1) := by decide +kernel
theorem dX8_sheet_51 : decode cX8_sheet 51 = .ok (.ifCond .lt 7, 3) := by decide +kernel
theorem dX8_sheet_54 : decode cX8_sheet 54 = .ok (.iconst 1, 1) := by decide +kernel
theorem dX8_sheet_55 : decode cX8_sheet 55 = .ok (.goto 4, 3) := by decide +kernel
theorem dX8_sheet_58 : decode cX8_sheet 58 = .ok (.iconst 0, 1) := by decide +kernel
theorem dX8_sheet_59 : decode cX8_sheet 59 = .ok (.bastore, 1) := by decide +kernel
theorem dX8_sheet_60 : decode cX8_sheet 60 = .ok (.aload_n 0, 1) := by decide +kernel
theorem dX8_sheet_61 : decode cX8_sheet 61 = .ok (.getfield 87, 3) := by decide +kernel
theorem dX8_sheet_64 : decode cX8_sheet 64 = .ok (.iload_n 1, 1) := by decide +kernel
theorem dX8_sheet_65 : decode cX8_sheet 65 = .ok (.iload_n 2, 1) := by decide +kernel
theorem dX8_sheet_66 : decode cX8_sheet 66 = .ok (.iastore, 1) := by decide +kernel
theorem dX8_sheet_67 : decode cX8_sheet 67 = .ok (.aload_n 0, 1) := by decide +kernel
theorem dX8_sheet_68 : decode cX8_sheet 68 = .ok (.getfield 90, 3) := by decide +kernel
theorem dX8_sheet_71 : decode cX8_sheet 71 = .ok (.iload_n 1, 1) := by decide +kernel
theorem dX8_sheet_72 : decode cX8_sheet 72 = .ok (.iload_n 3, 1) := by decide +kernel
theorem dX8_sheet_73 : decode cX8_sheet 73 = .ok (.iastore, 1) := by decide +kernel
theorem dX8_sheet_74 : decode cX8_sheet 74 = .ok (.iconst 0, 1) := by decide +kernel
theorem dX8_sheet_75 : decode cX8_sheet 75 = .ok (.istore 4, 2) := by decide +kernel
theorem dX8_sheet_77 : decode cX8_sheet 77 = .ok (.iload 4, 2) := by decide +kernel
theorem dX8_sheet_79 : decode cX8_sheet 79 = .ok (.iload_n 3, 1) := by decide +kernel
theorem dX8_sheet_80 : decode cX8_sheet 80 = .ok (.if_icmp .ge 26, 3) := by decide +kernel
theorem dX8_sheet_83 : decode cX8_sheet 83 = .ok (.iload_n 2, 1) := by decide +kernel
theorem dX8_sheet_84 : decode cX8_sheet 84 = .ok (.ifCond .lt 22, 3) := by decide +kernel
theorem dX8_sheet_87 : decode cX8_sheet 87 = .ok (.aload_n 0, 1) := by decide +kernel
theorem dX8_sheet_88 : decode cX8_sheet 88 = .ok (.getfield 93, 3) := by decide +kernel
theorem dX8_sheet_91 : decode cX8_sheet 91 = .ok (.bipush 40, 2) := by decide +kernel
theorem dX8_sheet_93 : decode cX8_sheet 93 = .ok (.iload_n 1, 1) := by decide +kernel
theorem dX8_sheet_94 : decode cX8_sheet 94 = .ok (.imul, 1) := by decide +kernel
theorem dX8_sheet_95 : decode cX8_sheet 95 = .ok (.iload 4, 2) := by decide +kernel
theorem dX8_sheet_97 : decode cX8_sheet 97 = .ok (.iadd, 1) := by decide +kernel
theorem dX8_sheet_98 : decode cX8_sheet 98 = .ok (.iconst 0, 1) := by decide +kernel
theorem dX8_sheet_99 : decode cX8_sheet 99 = .ok (.iastore, 1) := by decide +kernel
theorem dX8_sheet_100 : decode cX8_sheet 100 = .ok (.iinc 4 1, 3) := by decide +kernel
theorem dX8_sheet_103 : decode cX8_sheet 103 = .ok (.goto (-26), 3) := by decide +kernel
theorem dX8_sheet_106 : decode cX8_sheet 106 = .ok (.iconst 1, 1) := by decide +kernel
theorem dX8_sheet_107 : decode cX8_sheet 107 = .ok (.ireturn, 1) := by decide +kernel
theorem dX8_cell_0 : decode cX8_cell 0 = .ok (.iload_n 1, 1) := by decide +kernel
theorem dX8_cell_1 : decode cX8_cell 1 = .ok (.invokestatic 300, 3) := by decide +kernel
theorem dX8_cell_4 : decode cX8_cell 4 = .ok (.ifCond .ne 6, 3) := by decide +kernel
theorem dX8_cell_7 : decode cX8_cell 7 = .ok (.bipush (-2), 2) := by decide +kernel
theorem dX8_cell_9 : decode cX8_cell 9 = .ok (.ireturn, 1) := by decide +kernel
theorem dX8_cell_10 : decode cX8_cell 10 = .ok (.aload_n 0, 1) := by decide +kernel
theorem dX8_cell_11 : decode cX8_cell 11 = .ok (.getfield 83, 3) := by decide +kernel
theorem dX8_cell_14 : decode cX8_cell 14 = .ok (.iload_n 1, 1) := by decide +kernel
theorem dX8_cell_15 : decode cX8_cell 15 = .ok (.baload, 1) := by decide +kernel
theorem dX8_cell_16 : decode cX8_cell 16 = .ok (.ifCond .ne 6, 3) := by decide +kernel
theorem dX8_cell_19 : decode cX8_cell 19 = .ok (.bipush (-11), 2) := by decide +kernel
theorem dX8_cell_21 : decode cX8_cell 21 = .ok (.ireturn, 1) := by decide +kernel
theorem dX8_cell_22 : decode cX8_cell 22 = .ok (.iload_n 2, 1) := by decide +kernel
theorem dX8_cell_23 : decode cX8_cell 23 = .ok (.i2l, 1) := by decide +kernel
theorem dX8_cell_24 : decode cX8_cell 24 = .ok (.lconst 0, 1) := by decide +kernel
theorem dX8_cell_25 : decode cX8_cell 25 = .ok (.aload_n 0, 1) := by decide +kernel
theorem dX8_cell_26 : decode cX8_cell 26 = .ok (.getfield 90, 3) := by decide +kernel
theorem dX8_cell_29 : decode cX8_cell 29 = .ok (.iload_n 1, 1) := by decide +kernel
theorem dX8_cell_30 : decode cX8_cell 30 = .ok (.iaload, 1) := by decide +kernel
theorem dX8_cell_31 : decode cX8_cell 31 = .ok (.iconst 1, 1) := by decide +kernel
theorem dX8_cell_32 : decode cX8_cell 32 = .ok (.isub, 1) := by decide +kernel
theorem dX8_cell_33 : decode cX8_cell 33 = .ok (.i2l, 1) := by decide +kernel
theorem dX8_cell_34 : decode cX8_cell 34 = .ok (.invokestatic 106, 3) := by decide +kernel
theorem dX8_cell_37 : decode cX8_cell 37 = .ok (.ifCond .ne 6, 3) := by decide +kernel
theorem dX8_cell_40 : decode cX8_cell 40 = .ok (.bipush (-12), 2) := by decide +kernel
theorem dX8_cell_42 : decode cX8_cell 42 = .ok (.ireturn, 1) := by decide +kernel
theorem dX8_cell_43 : decode cX8_cell 43 = .ok (.aload_n 0, 1) := by decide +kernel
theorem dX8_cell_44 : decode cX8_cell 44 = .ok (.getfield 93, 3) := by decide +kernel
theorem dX8_cell_47 : decode cX8_cell 47 = .ok (.bipush 40, 2) := by decide +kernel
theorem dX8_cell_49 : decode cX8_cell 49 = .ok (.iload_n 1, 1) := by decide +kernel
theorem dX8_cell_50 : decode cX8_cell 50 = .ok (.imul, 1) := by decide +kernel
theorem dX8_cell_51 : decode cX8_cell 51 = .ok (.iload_n 2, 1) := by decide +kernel
theorem dX8_cell_52 : decode cX8_cell 52 = .ok (.iadd, 1) := by decide +kernel
theorem dX8_cell_53 : decode cX8_cell 53 = .ok (.aload_n 0, 1) := by decide +kernel
theorem dX8_cell_54 : decode cX8_cell 54 = .ok (.getfield 87, 3) := by decide +kernel
theorem dX8_cell_57 : decode cX8_cell 57 = .ok (.iload_n 1, 1) := by decide +kernel
theorem dX8_cell_58 : decode cX8_cell 58 = .ok (.iaload, 1) := by decide +kernel
theorem dX8_cell_59 : decode cX8_cell 59 = .ok (.ifCond .ne 8, 3) := by decide +kernel
theorem dX8_cell_62 : decode cX8_cell 62 = .ok (.iload_n 3, 1) := by decide +kernel
theorem dX8_cell_63 : decode cX8_cell 63 = .ok (.i2b, 1) := by decide +kernel
theorem dX8_cell_64 : decode cX8_cell 64 = .ok (.goto 19, 3) := by decide +kernel
theorem dX8_cell_67 : decode cX8_cell 67 = .ok (.aload_n 0, 1) := by decide +kernel
theorem dX8_cell_68 : decode cX8_cell 68 = .ok (.getfield 87, 3) := by decide +kernel
theorem dX8_cell_71 : decode cX8_cell 71 = .ok (.iload_n 1, 1) := by decide +kernel
theorem dX8_cell_72 : decode cX8_cell 72 = .ok (.iaload, 1) := by decide +kernel
theorem dX8_cell_73 : decode cX8_cell 73 = .ok (.iconst 1, 1) := by decide +kernel
theorem dX8_cell_74 : decode cX8_cell 74 = .ok (.if_icmp .ne 8, 3) := by decide +kernel
theorem dX8_cell_77 : decode cX8_cell 77 = .ok (.iload_n 3, 1) := by decide +kernel
theorem dX8_cell_78 : decode cX8_cell 78 = .ok (.i2s, 1) := by decide +kernel
theorem dX8_cell_79 : decode cX8_cell 79 = .ok (.goto 4, 3) := by decide +kernel
theorem dX8_cell_82 : decode cX8_cell 82 = .ok (.iload_n 3, 1) := by decide +kernel
theorem dX8_cell_83 : decode cX8_cell 83 = .ok (.iastore, 1) := by decide +kernel
theorem dX8_cell_84 : decode cX8_cell 84 = .ok (.iconst 1, 1) := by decide +kernel
theorem dX8_cell_85 : decode cX8_cell 85 = .ok (.ireturn, 1) := by decide +kernel
theorem dX8_copy_0 : decode cX8_copy 0 = .ok (.iload_n 1, 1) := by decide +kernel
theorem dX8_copy_1 : decode cX8_copy 1 = .ok (.invokestatic 300, 3) := by decide +kernel
theorem dX8_copy_4 : decode cX8_copy 4 = .ok (.ifCond .eq 10, 3) := by decide +kernel
theorem dX8_copy_7 : decode cX8_copy 7 = .ok (.iload_n 3, 1) := by decide +kernel
theorem dX8_copy_8 : decode cX8_copy 8 = .ok (.invokestatic 300, 3) := by decide +kernel
theorem dX8_copy_11 : decode cX8_copy 11 = .ok (.ifCond .ne 6, 3) := by decide +kernel
theorem dX8_copy_14 : decode cX8_copy 14 = .ok (.bipush (-2), 2) := by decide +kernel
theorem dX8_copy_16 : decode cX8_copy 16 = .ok (.ireturn, 1) := by decide +kernel
theorem dX8_copy_17 : decode cX8_copy 17 = .ok (.aload_n 0, 1) := by decide +kernel
theorem dX8_copy_18 : decode cX8_copy 18 = .ok (.getfield 83, 3) := by decide +kernel
theorem dX8_copy_21 : decode cX8_copy 21 = .ok (.iload_n 1, 1) := by decide +kernel
theorem dX8_copy_22 : decode cX8_copy 22 = .ok (.baload, 1) := by decide +kernel
theorem dX8_copy_23 : decode cX8_copy 23 = .ok (.ifCond .eq 12, 3) := by decide +kernel
theorem dX8_copy_26 : decode cX8_copy 26 = .ok (.aload_n 0, 1) := by decide +kernel
theorem dX8_copy_27 : decode cX8_copy 27 = .ok (.getfield 83, 3) := by decide +kernel
theorem dX8_copy_30 : decode cX8_copy 30 = .ok (.iload_n 3, 1) := by decide +kernel
theorem dX8_copy_31 : decode cX8_copy 31 = .ok (.baload, 1) := by decide +kernel
theorem dX8_copy_32 : decode cX8_copy 32 = .ok (.ifCond .ne 6, 3) := by decide +kernel
theorem dX8_copy_35 : decode cX8_copy 35 = .ok (.bipush (-11), 2) := by decide +kernel
theorem dX8_copy_37 : decode cX8_copy 37 = .ok (.ireturn, 1) := by decide +kernel
theorem dX8_copy_38 : decode cX8_copy 38 = .ok (.aload_n 0, 1) := by decide +kernel
theorem dX8_copy_39 : decode cX8_copy 39 = .ok (.getfield 87, 3) := by decide +kernel
theorem dX8_copy_42 : decode cX8_copy 42 = .ok (.iload_n 1, 1) := by decide +kernel
theorem dX8_copy_43 : decode cX8_copy 43 = .ok (.iaload, 1) := by decide +kernel
theorem dX8_copy_44 : decode cX8_copy 44 = .ok (.aload_n 0, 1) := by decide +kernel
theorem dX8_copy_45 : decode cX8_copy 45 = .ok (.getfield 87, 3) := by decide +kernel
theorem dX8_copy_48 : decode cX8_copy 48 = .ok (.iload_n 3, 1) := by decide +kernel
theorem dX8_copy_49 : decode cX8_copy 49 = .ok (.iaload, 1) := by decide +kernel
theorem dX8_copy_50 : decode cX8_copy 50 = .ok (.if_icmp .eq 6, 3) := by decide +kernel
theorem dX8_copy_53 : decode cX8_copy 53 = .ok (.bipush (-13), 2) := by decide +kernel
theorem dX8_copy_55 : decode cX8_copy 55 = .ok (.ireturn, 1) := by decide +kernel
theorem dX8_copy_56 : decode cX8_copy 56 = .ok (.iload 5, 2) := by decide +kernel
theorem dX8_copy_58 : decode cX8_copy 58 = .ok (.ifCond .lt 39, 3) := by decide +kernel
theorem dX8_copy_61 : decode cX8_copy 61 = .ok (.iload_n 2, 1) := by decide +kernel
theorem dX8_copy_62 : decode cX8_copy 62 = .ok (.ifCond .lt 35, 3) := by decide +kernel
theorem dX8_copy_65 : decode cX8_copy 65 = .ok (.iload 4, 2) := by decide +kernel
theorem dX8_copy_67 : decode cX8_copy 67 = .ok (.ifCond .lt 30, 3) := by decide +kernel
theorem dX8_copy_70 : decode cX8_copy 70 = .ok (.iload_n 2, 1) := by decide +kernel
theorem dX8_copy_71 : decode cX8_copy 71 = .ok (.aload_n 0, 1) := by decide +kernel
theorem dX8_copy_72 : decode cX8_copy 72 = .ok (.getfield 90, 3) := by decide +kernel
theorem dX8_copy_75 : decode cX8_copy 75 = .ok (.iload_n 1, 1) := by decide +kernel
theorem dX8_copy_76 : decode cX8_copy 76 = .ok (.iaload, 1) := by decide +kernel
theorem dX8_copy_77 : decode cX8_copy 77 = .ok (.iload 5, 2) := by decide +kernel
theorem dX8_copy_79 : decode cX8_copy 79 = .ok (.isub, 1) := by decide +kernel
theorem dX8_copy_80 : decode cX8_copy 80 = .ok (.if_icmp .gt 17, 3) := by decide +kernel
theorem dX8_copy_83 : decode cX8_copy 83 = .ok (.iload 4, 2) := by decide +kernel
theorem dX8_copy_85 : decode cX8_copy 85 = .ok (.aload_n 0, 1) := by decide +kernel
theorem dX8_copy_86 : decode cX8_copy 86 = .ok (.getfield 90, 3) := by decide +kernel
theorem dX8_copy_89 : decode cX8_copy 89 = .ok (.iload_n 3, 1) := by decide +kernel
theorem dX8_copy_90 : decode cX8_copy 90 = .ok (.iaload, 1) := by decide +kernel
theorem dX8_copy_91 : decode cX8_copy 91 = .ok (.iload 5, 2) := by decide +kernel
theorem dX8_copy_93 : decode cX8_copy 93 = .ok (.isub, 1) := by decide +kernel
theorem dX8_copy_94 : decode cX8_copy 94 = .ok (.if_icmp .le 6, 3) := by decide +kernel
theorem dX8_copy_97 : decode cX8_copy 97 = .ok (.bipush (-12), 2) := by decide +kernel
theorem dX8_copy_99 : decode cX8_copy 99 = .ok (.ireturn, 1) := by decide +kernel
theorem dX8_copy_100 : decode cX8_copy 100 = .ok (.iload_n 1, 1) := by decide +kernel
theorem dX8_copy_101 : decode cX8_copy 101 = .ok (.iload_n 3, 1) := by decide +kernel
theorem dX8_copy_102 : decode cX8_copy 102 = .ok (.if_icmp .ne 13, 3) := by decide +kernel
theorem dX8_copy_105 : decode cX8_copy 105 = .ok (.iload_n 2, 1) := by decide +kernel
theorem dX8_copy_106 : decode cX8_copy 106 = .ok (.iload 4, 2) := by decide +kernel
theorem dX8_copy_108 : decode cX8_copy 108 = .ok (.if_icmp .ge 7, 3) := by decide +kernel
theorem dX8_copy_111 : decode cX8_copy 111 = .ok (.iconst 1, 1) := by decide +kernel
theorem dX8_copy_112 : decode cX8_copy 112 = .ok (.goto 4, 3) := by decide +kernel
theorem dX8_copy_115 : decode cX8_copy 115 = .ok (.iconst 0, 1) := by decide +kernel
theorem dX8_copy_116 : decode cX8_copy 116 = .ok (.istore 6, 2) := by decide +kernel
theorem dX8_copy_118 : decode cX8_copy 118 = .ok (.iconst 0, 1) := by decide +kernel
theorem dX8_copy_119 : decode cX8_copy 119 = .ok (.istore 7, 2) := by decide +kernel
theorem dX8_copy_121 : decode cX8_copy 121 = .ok (.iload 7, 2) := by decide +kernel
theorem dX8_copy_123 : decode cX8_copy 123 = .ok (.iload 5, 2) := by decide +kernel
theorem dX8_copy_125 : decode cX8_copy 125 = .ok (.if_icmp .ge 57, 3) := by decide +kernel
theorem dX8_copy_128 : decode cX8_copy 128 = .ok (.iload 6, 2) := by decide +kernel
theorem dX8_copy_130 : decode cX8_copy 130 = .ok (.ifCond .eq 13, 3) := by decide +kernel
theorem dX8_copy_133 : decode cX8_copy 133 = .ok (.iload 5, 2) := by decide +kernel
theorem dX8_copy_135 : decode cX8_copy 135 = .ok (.iconst 1, 1) := by decide +kernel
theorem dX8_copy_136 : decode cX8_copy 136 = .ok (.isub, 1) := by decide +kernel
theorem dX8_copy_137 : decode cX8_copy 137 = .ok (.iload 7, 2) := by decide +kernel
theorem dX8_copy_139 : decode cX8_copy 139 = .ok (.isub, 1) := by decide +kernel
theorem dX8_copy_140 : decode cX8_copy 140 = .ok (.goto 5, 3) := by decide +kernel
theorem dX8_copy_143 : decode cX8_copy 143 = .ok (.iload 7, 2) := by decide +kernel
theorem dX8_copy_145 : decode cX8_copy 145 = .ok (.istore 8, 2) := by decide +kernel
theorem dX8_copy_147 : decode cX8_copy 147 = .ok (.aload_n 0, 1) := by decide +kernel
theorem dX8_copy_148 : decode cX8_copy 148 = .ok (.getfield 93, 3) := by decide +kernel
theorem dX8_copy_151 : decode cX8_copy 151 = .ok (.bipush 40, 2) := by decide +kernel
theorem dX8_copy_153 : decode cX8_copy 153 = .ok (.iload_n 3, 1) := by decide +kernel
theorem dX8_copy_154 : decode cX8_copy 154 = .ok (.imul, 1) := by decide +kernel
theorem dX8_copy_155 : decode cX8_copy 155 = .ok (.iload 4, 2) := by decide +kernel
theorem dX8_copy_157 : decode cX8_copy 157 = .ok (.iadd, 1) := by decide +kernel
theorem dX8_copy_158 : decode cX8_copy 158 = .ok (.iload 8, 2) := by decide +kernel
theorem dX8_copy_160 : decode cX8_copy 160 = .ok (.iadd, 1) := by decide +kernel
theorem dX8_copy_161 : decode cX8_copy 161 = .ok (.aload_n 0, 1) := by decide +kernel
theorem dX8_copy_162 : decode cX8_copy 162 = .ok (.getfield 93, 3) := by decide +kernel
theorem dX8_copy_165 : decode cX8_copy 165 = .ok (.bipush 40, 2) := by decide +kernel
theorem dX8_copy_167 : decode cX8_copy 167 = .ok (.iload_n 1, 1) := by decide +kernel
theorem dX8_copy_168 : decode cX8_copy 168 = .ok (.imul, 1) := by decide +kernel
theorem dX8_copy_169 : decode cX8_copy 169 = .ok (.iload_n 2, 1) := by decide +kernel
theorem dX8_copy_170 : decode cX8_copy 170 = .ok (.iadd, 1) := by decide +kernel
theorem dX8_copy_171 : decode cX8_copy 171 = .ok (.iload 8, 2) := by decide +kernel
theorem dX8_copy_173 : decode cX8_copy 173 = .ok (.iadd, 1) := by decide +kernel
theorem dX8_copy_174 : decode cX8_copy 174 = .ok (.iaload, 1) := by decide +kernel
theorem dX8_copy_175 : decode cX8_copy 175 = .ok (.iastore, 1) := by decide +kernel
theorem dX8_copy_176 : decode cX8_copy 176 = .ok (.iinc 7 1, 3) := by decide +kernel
theorem dX8_copy_179 : decode cX8_copy 179 = .ok (.goto (-58), 3) := by decide +kernel
theorem dX8_copy_182 : decode cX8_copy 182 = .ok (.iload 5, 2) := by decide +kernel
theorem dX8_copy_184 : decode cX8_copy 184 = .ok (.ireturn, 1) := by decide +kernel
theorem dX8_crossings_0 : decode cX8_crossings 0 = .ok (.iload_n 1, 1) := by decide +kernel
theorem dX8_crossings_1 : decode cX8_crossings 1 = .ok (.invokestatic 300, 3) := by decide +kernel
theorem dX8_crossings_4 : decode cX8_crossings 4 = .ok (.ifCond .eq 28, 3) := by decide +kernel
theorem dX8_crossings_7 : decode cX8_crossings 7 = .ok (.iload_n 2, 1) := by decide +kernel
theorem dX8_crossings_8 : decode cX8_crossings 8 = .ok (.i2l, 1) := by decide +kernel
theorem dX8_crossings_9 : decode cX8_crossings 9 = .ok (.lconst 0, 1) := by decide +kernel
theorem dX8_crossings_10 : decode cX8_crossings 10 = .ok (.ldc2_w 123, 3) := by decide +kernel
theorem dX8_crossings_13 : decode cX8_crossings 13 = .ok (.invokestatic 106, 3) := by decide +kernel
theorem dX8_crossings_16 : decode cX8_crossings 16 = .ok (.ifCond .eq 16, 3) := by decide +kernel
theorem dX8_crossings_19 : decode cX8_crossings 19 = .ok (.iload 4, 2) := by decide +kernel
theorem dX8_crossings_21 : decode cX8_crossings 21 = .ok (.i2l, 1) := by decide +kernel
theorem dX8_crossings_22 : decode cX8_crossings 22 = .ok (.lconst 0, 1) := by decide +kernel
theorem dX8_crossings_23 : decode cX8_crossings 23 = .ok (.ldc2_w 343, 3) := by decide +kernel
theorem dX8_crossings_26 : decode cX8_crossings 26 = .ok (.invokestatic 106, 3) := by decide +kernel
theorem dX8_crossings_29 : decode cX8_crossings 29 = .ok (.ifCond .ne 6, 3) := by decide +kernel
theorem dX8_crossings_32 : decode cX8_crossings 32 = .ok (.bipush (-2), 2) := by decide +kernel
theorem dX8_crossings_34 : decode cX8_crossings 34 = .ok (.ireturn, 1) := by decide +kernel
theorem dX8_crossings_35 : decode cX8_crossings 35 = .ok (.aload_n 0, 1) := by decide +kernel
theorem dX8_crossings_36 : decode cX8_crossings 36 = .ok (.getfield 83, 3) := by decide +kernel
theorem dX8_crossings_39 : decode cX8_crossings 39 = .ok (.iload_n 1, 1) := by decide +kernel
theorem dX8_crossings_40 : decode cX8_crossings 40 = .ok (.baload, 1) := by decide +kernel
theorem dX8_crossings_41 : decode cX8_crossings 41 = .ok (.ifCond .eq 16, 3) := by decide +kernel
theorem dX8_crossings_44 : decode cX8_crossings 44 = .ok (.aload_n 0, 1) := by decide +kernel
theorem dX8_crossings_45 : decode cX8_crossings 45 = .ok (.getfield 87, 3) := by decide +kernel
theorem dX8_crossings_48 : decode cX8_crossings 48 = .ok (.iload_n 1, 1) := by decide +kernel
theorem dX8_crossings_49 : decode cX8_crossings 49 = .ok (.iaload, 1) := by decide +kernel
theorem dX8_crossings_50 : decode cX8_crossings 50 = .ok (.iload_n 2, 1) := by decide +kernel
theorem dX8_crossings_51 : decode cX8_crossings 51 = .ok (.if_icmp .eq 6, 3) := by decide +kernel
theorem dX8_crossings_54 : decode cX8_crossings 54 = .ok (.bipush (-13), 2) := by decide +kernel
theorem dX8_crossings_56 : decode cX8_crossings 56 = .ok (.ireturn, 1) := by decide +kernel
theorem dX8_crossings_57 : decode cX8_crossings 57 = .ok (.aload_n 0, 1) := by decide +kernel
theorem dX8_crossings_58 : decode cX8_crossings 58 = .ok (.getfield 83, 3) := by decide +kernel
theorem dX8_crossings_61 : decode cX8_crossings 61 = .ok (.iload_n 1, 1) := by decide +kernel
theorem dX8_crossings_62 : decode cX8_crossings 62 = .ok (.baload, 1) := by decide +kernel
theorem dX8_crossings_63 : decode cX8_crossings 63 = .ok (.ifCond .ne 6, 3) := by decide +kernel
theorem dX8_crossings_66 : decode cX8_crossings 66 = .ok (.bipush (-11), 2) := by decide +kernel
theorem dX8_crossings_68 : decode cX8_crossings 68 = .ok (.ireturn, 1) := by decide +kernel
theorem dX8_crossings_69 : decode cX8_crossings 69 = .ok (.iconst 0, 1) := by decide +kernel
theorem dX8_crossings_70 : decode cX8_crossings 70 = .ok (.istore 5, 2) := by decide +kernel
theorem dX8_crossings_72 : decode cX8_crossings 72 = .ok (.iconst 0, 1) := by decide +kernel
theorem dX8_crossings_73 : decode cX8_crossings 73 = .ok (.istore 6, 2) := by decide +kernel
theorem dX8_crossings_75 : decode cX8_crossings 75 = .ok (.iload 6, 2) := by decide +kernel
theorem dX8_crossings_77 : decode cX8_crossings 77 = .ok (.iload 4, 2) := by decide +kernel
theorem dX8_crossings_79 : decode cX8_crossings 79 = .ok (.if_icmp .ge 79, 3) := by decide +kernel
theorem dX8_crossings_82 : decode cX8_crossings 82 = .ok (.iload_n 3, 1) := by decide +kernel
theorem dX8_crossings_83 : decode cX8_crossings 83 = .ok (.ifCond .lt 20, 3) := by decide +kernel
theorem dX8_crossings_86 : decode cX8_crossings 86 = .ok (.iload_n 3, 1) := by decide +kernel
theorem dX8_crossings_87 : decode cX8_crossings 87 = .ok (.aload_n 0, 1) := by decide +kernel
theorem dX8_crossings_88 : decode cX8_crossings 88 = .ok (.getfield 90, 3) := by decide +kernel
theorem dX8_crossings_91 : decode cX8_crossings 91 = .ok (.iload_n 1, 1) := by decide +kernel
theorem dX8_crossings_92 : decode cX8_crossings 92 = .ok (.iaload, 1) := by decide +kernel
theorem dX8_crossings_93 : decode cX8_crossings 93 = .ok (.iconst 2, 1) := by decide +kernel
theorem dX8_crossings_94 : decode cX8_crossings 94 = .ok (.iload 6, 2) := by decide +kernel
theorem dX8_crossings_96 : decode cX8_crossings 96 = .ok (.imul, 1) := by decide +kernel
theorem dX8_crossings_97 : decode cX8_crossings 97 = .ok (.isub, 1) := by decide +kernel
theorem dX8_crossings_98 : decode cX8_crossings 98 = .ok (.iconst 2, 1) := by decide +kernel
theorem dX8_crossings_99 : decode cX8_crossings 99 = .ok (.isub, 1) := by decide +kernel
theorem dX8_crossings_100 : decode cX8_crossings 100 = .ok (.if_icmp .le 6, 3) := by decide +kernel
theorem dX8_crossings_103 : decode cX8_crossings 103 = .ok (.bipush (-12), 2) := by decide +kernel
theorem dX8_crossings_105 : decode cX8_crossings 105 = .ok (.ireturn, 1) := by decide +kernel
theorem dX8_crossings_106 : decode cX8_crossings 106 = .ok (.bipush 40, 2) := by decide +kernel
theorem dX8_crossings_108 : decode cX8_crossings 108 = .ok (.iload_n 1, 1) := by decide +kernel
theorem dX8_crossings_109 : decode cX8_crossings 109 = .ok (.imul, 1) := by decide +kernel
theorem dX8_crossings_110 : decode cX8_crossings 110 = .ok (.iload_n 3, 1) := by decide +kernel
theorem dX8_crossings_111 : decode cX8_crossings 111 = .ok (.iadd, 1) := by decide +kernel
theorem dX8_crossings_112 : decode cX8_crossings 112 = .ok (.iconst 2, 1) := by decide +kernel
theorem dX8_crossings_113 : decode cX8_crossings 113 = .ok (.iload 6, 2) := by decide +kernel
theorem dX8_crossings_115 : decode cX8_crossings 115 = .ok (.imul, 1) := by decide +kernel
theorem dX8_crossings_116 : decode cX8_crossings 116 = .ok (.iadd, 1) := by decide +kernel
theorem dX8_crossings_117 : decode cX8_crossings 117 = .ok (.istore 7, 2) := by decide +kernel
theorem dX8_crossings_119 : decode cX8_crossings 119 = .ok (.iload 5, 2) := by decide +kernel
theorem dX8_crossings_121 : decode cX8_crossings 121 = .ok (.aload_n 0, 1) := by decide +kernel
theorem dX8_crossings_122 : decode cX8_crossings 122 = .ok (.aload_n 0, 1) := by decide +kernel
theorem dX8_crossings_123 : decode cX8_crossings 123 = .ok (.getfield 93, 3) := by decide +kernel
theorem dX8_crossings_126 : decode cX8_crossings 126 = .ok (.iload 7, 2) := by decide +kernel
theorem dX8_crossings_128 : decode cX8_crossings 128 = .ok (.iaload, 1) := by decide +kernel
theorem dX8_crossings_129 : decode cX8_crossings 129 = .ok (.aload_n 0, 1) := by decide +kernel
theorem dX8_crossings_130 : decode cX8_crossings 130 = .ok (.getfield 93, 3) := by decide +kernel
theorem dX8_crossings_133 : decode cX8_crossings 133 = .ok (.iload 7, 2) := by decide +kernel
theorem dX8_crossings_135 : decode cX8_crossings 135 = .ok (.iconst 1, 1) := by decide +kernel
theorem dX8_crossings_136 : decode cX8_crossings 136 = .ok (.iadd, 1) := by decide +kernel
theorem dX8_crossings_137 : decode cX8_crossings 137 = .ok (.iaload, 1) := by decide +kernel
theorem dX8_crossings_138 : decode cX8_crossings 138 = .ok (.invokevirtual 360, 3) := by decide +kernel
theorem dX8_crossings_141 : decode cX8_crossings 141 = .ok (.ifCond .lt 7, 3) := by decide +kernel
theorem dX8_crossings_144 : decode cX8_crossings 144 = .ok (.iconst 1, 1) := by decide +kernel
theorem dX8_crossings_145 : decode cX8_crossings 145 = .ok (.goto 4, 3) := by decide +kernel
theorem dX8_crossings_148 : decode cX8_crossings 148 = .ok (.iconst 0, 1) := by decide +kernel
theorem dX8_crossings_149 : decode cX8_crossings 149 = .ok (.iadd, 1) := by decide +kernel
theorem dX8_crossings_150 : decode cX8_crossings 150 = .ok (.istore 5, 2) := by decide +kernel
theorem dX8_crossings_152 : decode cX8_crossings 152 = .ok (.iinc 6 1, 3) := by decide +kernel
theorem dX8_crossings_155 : decode cX8_crossings 155 = .ok (.goto (-80), 3) := by decide +kernel
theorem dX8_crossings_158 : decode cX8_crossings 158 = .ok (.iload 5, 2) := by decide +kernel
theorem dX8_crossings_160 : decode cX8_crossings 160 = .ok (.ireturn, 1) := by decide +kernel
theorem dX8_over_0 : decode cX8_over 0 = .ok (.iload_n 0, 1) := by decide +kernel
theorem dX8_over_1 : decode cX8_over 1 = .ok (.ifCond .ne 7, 3) := by decide +kernel
theorem dX8_over_4 : decode cX8_over 4 = .ok (.iconst (-1), 1) := by decide +kernel
theorem dX8_over_5 : decode cX8_over 5 = .ok (.goto 27, 3) := by decide +kernel
theorem dX8_over_8 : decode cX8_over 8 = .ok (.iload_n 0, 1) := by decide +kernel
theorem dX8_over_9 : decode cX8_over 9 = .ok (.iconst 1, 1) := by decide +kernel
theorem dX8_over_10 : decode cX8_over 10 = .ok (.if_icmp .eq 8, 3) := by decide +kernel
theorem dX8_over_13 : decode cX8_over 13 = .ok (.iload_n 0, 1) := by decide +kernel
theorem dX8_over_14 : decode cX8_over 14 = .ok (.iconst 2, 1) := by decide +kernel
theorem dX8_over_15 : decode cX8_over 15 = .ok (.if_icmp .ne 7, 3) := by decide +kernel
theorem dX8_over_18 : decode cX8_over 18 = .ok (.iconst 0, 1) := by decide +kernel
theorem dX8_over_19 : decode cX8_over 19 = .ok (.goto 13, 3) := by decide +kernel
theorem dX8_over_22 : decode cX8_over 22 = .ok (.iload_n 0, 1) := by decide +kernel
theorem dX8_over_23 : decode cX8_over 23 = .ok (.iconst 4, 1) := by decide +kernel
theorem dX8_over_24 : decode cX8_over 24 = .ok (.if_icmp .ne 7, 3) := by decide +kernel
theorem dX8_over_27 : decode cX8_over 27 = .ok (.iconst 2, 1) := by decide +kernel
theorem dX8_over_28 : decode cX8_over 28 = .ok (.goto 4, 3) := by decide +kernel
theorem dX8_over_31 : decode cX8_over 31 = .ok (.iconst 1, 1) := by decide +kernel
theorem dX8_over_32 : decode cX8_over 32 = .ok (.ireturn, 1) := by decide +kernel
theorem dX8_taken_0 : decode cX8_taken 0 = .ok (.iload_n 2, 1) := by decide +kernel
theorem dX8_taken_1 : decode cX8_taken 1 = .ok (.i2l, 1) := by decide +kernel
theorem dX8_taken_2 : decode cX8_taken 2 = .ok (.lconst 0, 1) := by decide +kernel
theorem dX8_taken_3 : decode cX8_taken 3 = .ok (.ldc2_w 110, 3) := by decide +kernel
theorem dX8_taken_6 : decode cX8_taken 6 = .ok (.invokestatic 106, 3) := by decide +kernel
theorem dX8_taken_9 : decode cX8_taken 9 = .ok (.ifCond .ne 6, 3) := by decide +kernel
theorem dX8_taken_12 : decode cX8_taken 12 = .ok (.bipush (-2), 2) := by decide +kernel
theorem dX8_taken_14 : decode cX8_taken 14 = .ok (.ireturn, 1) := by decide +kernel
theorem dX8_taken_15 : decode cX8_taken 15 = .ok (.aload_n 0, 1) := by decide +kernel
theorem dX8_taken_16 : decode cX8_taken 16 = .ok (.iload_n 1, 1) := by decide +kernel
theorem dX8_taken_17 : decode cX8_taken 17 = .ok (.invokevirtual 119, 3) := by decide +kernel
theorem dX8_taken_20 : decode cX8_taken 20 = .ok (.ifCond .ne 6, 3) := by decide +kernel
theorem dX8_taken_23 : decode cX8_taken 23 = .ok (.bipush (-11), 2) := by decide +kernel
theorem dX8_taken_25 : decode cX8_taken 25 = .ok (.ireturn, 1) := by decide +kernel
theorem dX8_taken_26 : decode cX8_taken 26 = .ok (.aload_n 0, 1) := by decide +kernel
theorem dX8_taken_27 : decode cX8_taken 27 = .ok (.getfield 23, 3) := by decide +kernel
theorem dX8_taken_30 : decode cX8_taken 30 = .ok (.iload_n 1, 1) := by decide +kernel
theorem dX8_taken_31 : decode cX8_taken 31 = .ok (.iaload, 1) := by decide +kernel
theorem dX8_taken_32 : decode cX8_taken 32 = .ok (.istore_n 3, 1) := by decide +kernel
theorem dX8_taken_33 : decode cX8_taken 33 = .ok (.iload_n 3, 1) := by decide +kernel
theorem dX8_taken_34 : decode cX8_taken 34 = .ok (.iconst (-1), 1) := by decide +kernel
theorem dX8_taken_35 : decode cX8_taken 35 = .ok (.if_icmp .eq 16, 3) := by decide +kernel
theorem dX8_taken_38 : decode cX8_taken 38 = .ok (.iload_n 3, 1) := by decide +kernel
theorem dX8_taken_39 : decode cX8_taken 39 = .ok (.iload_n 2, 1) := by decide +kernel
theorem dX8_taken_40 : decode cX8_taken 40 = .ok (.if_icmp .eq 11, 3) := by decide +kernel
theorem dX8_taken_43 : decode cX8_taken 43 = .ok (.iload_n 3, 1) := by decide +kernel
theorem dX8_taken_44 : decode cX8_taken 44 = .ok (.invokestatic 363, 3) := by decide +kernel
theorem dX8_taken_47 : decode cX8_taken 47 = .ok (.istore_n 3, 1) := by decide +kernel
theorem dX8_taken_48 : decode cX8_taken 48 = .ok (.goto (-15), 3) := by decide +kernel
theorem dX8_taken_51 : decode cX8_taken 51 = .ok (.iload_n 3, 1) := by decide +kernel
theorem dX8_taken_52 : decode cX8_taken 52 = .ok (.iload_n 2, 1) := by decide +kernel
theorem dX8_taken_53 : decode cX8_taken 53 = .ok (.if_icmp .ne 12, 3) := by decide +kernel
theorem dX8_taken_56 : decode cX8_taken 56 = .ok (.aload_n 0, 1) := by decide +kernel
theorem dX8_taken_57 : decode cX8_taken 57 = .ok (.getfield 29, 3) := by decide +kernel
theorem dX8_taken_60 : decode cX8_taken 60 = .ok (.iload_n 1, 1) := by decide +kernel
theorem dX8_taken_61 : decode cX8_taken 61 = .ok (.iaload, 1) := by decide +kernel
theorem dX8_taken_62 : decode cX8_taken 62 = .ok (.goto 5, 3) := by decide +kernel
theorem dX8_taken_65 : decode cX8_taken 65 = .ok (.bipush (-13), 2) := by decide +kernel
theorem dX8_taken_67 : decode cX8_taken 67 = .ok (.ireturn, 1) := by decide +kernel
end
section
theorem dL_law_0 : decode cL_law 0 = .ok (.new 7, 3) := by decide +kernel
theorem dL_law_3 : decode cL_law 3 = .ok (.dup, 1) := by decide +kernel
theorem dL_law_4 : decode cL_law 4 = .ok (.invokespecial 9, 3) := by decide +kernel
theorem dL_law_7 : decode cL_law 7 = .ok (.astore_n 1, 1) := by decide +kernel
theorem dL_law_8 : decode cL_law 8 = .ok (.new 10, 3) := by decide +kernel
theorem dL_law_11 : decode cL_law 11 = .ok (.dup, 1) := by decide +kernel
theorem dL_law_12 : decode cL_law 12 = .ok (.invokespecial 12, 3) := by decide +kernel
theorem dL_law_15 : decode cL_law 15 = .ok (.astore_n 2, 1) := by decide +kernel
theorem dL_law_16 : decode cL_law 16 = .ok (.iconst 0, 1) := by decide +kernel
theorem dL_law_17 : decode cL_law 17 = .ok (.istore_n 3, 1) := by decide +kernel
theorem dL_law_18 : decode cL_law 18 = .ok (.iload_n 3, 1) := by decide +kernel
theorem dL_law_19 : decode cL_law 19 = .ok (.aload_n 0, 1) := by decide +kernel
theorem dL_law_20 : decode cL_law 20 = .ok (.arraylength, 1) := by decide +kernel
theorem dL_law_21 : decode cL_law 21 = .ok (.bipush 6, 2) := by decide +kernel
theorem dL_law_23 : decode cL_law 23 = .ok (.isub, 1) := by decide +kernel
theorem dL_law_24 : decode cL_law 24 = .ok (.if_icmp .gt 1213, 3) := by decide +kernel
theorem dL_law_27 : decode cL_law 27 = .ok (.aload_n 0, 1) := by decide +kernel
theorem dL_law_28 : decode cL_law 28 = .ok (.iload_n 3, 1) := by decide +kernel
theorem dL_law_29 : decode cL_law 29 = .ok (.iaload, 1) := by decide +kernel
theorem dL_law_30 : decode cL_law 30 = .ok (.bipush 63, 2) := by decide +kernel
theorem dL_law_32 : decode cL_law 32 = .ok (.iand, 1) := by decide +kernel
theorem dL_law_33 : decode cL_law 33 = .ok (.tableswitch 1198 0 35 #[159, 202, 245, 278, 321, 344, 357, 380, 413, 426, 439, 462, 485, 518, 541, 564, 577, 600, 623, 646, 679, 702, 745, 758, 781, 794, 817, 850, 914, 927, 940, 963, 1006, 1049, 1112, 1165], 159) := by decide +kernel
theorem dL_law_192 : decode cL_law 192 = .ok (.aload_n 1, 1) := by decide +kernel
theorem dL_law_193 : decode cL_law 193 = .ok (.aload_n 0, 1) := by decide +kernel
theorem dL_law_194 : decode cL_law 194 = .ok (.iload_n 3, 1) := by decide +kernel
theorem dL_law_195 : decode cL_law 195 = .ok (.iconst 1, 1) := by decide +kernel
theorem dL_law_196 : decode cL_law 196 = .ok (.iadd, 1) := by decide +kernel
theorem dL_law_197 : decode cL_law 197 = .ok (.iaload, 1) := by decide +kernel
theorem dL_law_198 : decode cL_law 198 = .ok (.aload_n 0, 1) := by decide +kernel
theorem dL_law_199 : decode cL_law 199 = .ok (.iload_n 3, 1) := by decide +kernel
theorem dL_law_200 : decode cL_law 200 = .ok (.iconst 2, 1) := by decide +kernel
theorem dL_law_201 : decode cL_law 201 = .ok (.iadd, 1) := by decide +kernel
theorem dL_law_202 : decode cL_law 202 = .ok (.iaload, 1) := by decide +kernel
theorem dL_law_203 : decode cL_law 203 = .ok (.aload_n 0, 1) := by decide +kernel
theorem dL_law_204 : decode cL_law 204 = .ok (.iload_n 3, 1) := by decide +kernel
theorem dL_law_205 : decode cL_law 205 = .ok (.iconst 3, 1) := by decide +kernel
theorem dL_law_206 : decode cL_law 206 = .ok (.iadd, 1) := by decide +kernel
theorem dL_law_207 : decode cL_law 207 = .ok (.iaload, 1) := by decide +kernel
theorem dL_law_208 : decode cL_law 208 = .ok (.invokevirtual 13, 3) := by decide +kernel
theorem dL_law_211 : decode cL_law 211 = .ok (.aload_n 2, 1) := by decide +kernel
theorem dL_law_212 : decode cL_law 212 = .ok (.aload_n 0, 1) := by decide +kernel
theorem dL_law_213 : decode cL_law 213 = .ok (.iload_n 3, 1) := by decide +kernel
theorem dL_law_214 : decode cL_law 214 = .ok (.iconst 1, 1) := by decide +kernel
theorem dL_law_215 : decode cL_law 215 = .ok (.iadd, 1) := by decide +kernel
theorem dL_law_216 : decode cL_law 216 = .ok (.iaload, 1) := by decide +kernel
theorem dL_law_217 : decode cL_law 217 = .ok (.aload_n 0, 1) := by decide +kernel
theorem dL_law_218 : decode cL_law 218 = .ok (.iload_n 3, 1) := by decide +kernel
theorem dL_law_219 : decode cL_law 219 = .ok (.iconst 2, 1) := by decide +kernel
theorem dL_law_220 : decode cL_law 220 = .ok (.iadd, 1) := by decide +kernel
theorem dL_law_221 : decode cL_law 221 = .ok (.iaload, 1) := by decide +kernel
theorem dL_law_222 : decode cL_law 222 = .ok (.aload_n 0, 1) := by decide +kernel
theorem dL_law_223 : decode cL_law 223 = .ok (.iload_n 3, 1) := by decide +kernel
theorem dL_law_224 : decode cL_law 224 = .ok (.iconst 3, 1) := by decide +kernel
theorem dL_law_225 : decode cL_law 225 = .ok (.iadd, 1) := by decide +kernel
theorem dL_law_226 : decode cL_law 226 = .ok (.iaload, 1) := by decide +kernel
theorem dL_law_227 : decode cL_law 227 = .ok (.invokevirtual 17, 3) := by decide +kernel
theorem dL_law_230 : decode cL_law 230 = .ok (.if_icmp .eq 1001, 3) := by decide +kernel
theorem dL_law_233 : decode cL_law 233 = .ok (.iconst 0, 1) := by decide +kernel
theorem dL_law_234 : decode cL_law 234 = .ok (.ireturn, 1) := by decide +kernel
theorem dL_law_235 : decode cL_law 235 = .ok (.aload_n 1, 1) := by decide +kernel
theorem dL_law_236 : decode cL_law 236 = .ok (.aload_n 0, 1) := by decide +kernel
theorem dL_law_237 : decode cL_law 237 = .ok (.iload_n 3, 1) := by decide +kernel
theorem dL_law_238 : decode cL_law 238 = .ok (.iconst 1, 1) := by decide +kernel
theorem dL_law_239 : decode cL_law 239 = .ok (.iadd, 1) := by decide +kernel
theorem dL_law_240 : decode cL_law 240 = .ok (.iaload, 1) := by decide +kernel
theorem dL_law_241 : decode cL_law 241 = .ok (.aload_n 0, 1) := by decide +kernel
theorem dL_law_242 : decode cL_law 242 = .ok (.iload_n 3, 1) := by decide +kernel
theorem dL_law_243 : decode cL_law 243 = .ok (.iconst 2, 1) := by decide +kernel
theorem dL_law_244 : decode cL_law 244 = .ok (.iadd, 1) := by decide +kernel
theorem dL_law_245 : decode cL_law 245 = .ok (.iaload, 1) := by decide +kernel
theorem dL_law_246 : decode cL_law 246 = .ok (.aload_n 0, 1) := by decide +kernel
theorem dL_law_247 : decode cL_law 247 = .ok (.iload_n 3, 1) := by decide +kernel
theorem dL_law_248 : decode cL_law 248 = .ok (.iconst 3, 1) := by decide +kernel
theorem dL_law_249 : decode cL_law 249 = .ok (.iadd, 1) := by decide +kernel
theorem dL_law_250 : decode cL_law 250 = .ok (.iaload, 1) := by decide +kernel
theorem dL_law_251 : decode cL_law 251 = .ok (.invokevirtual 18, 3) := by decide +kernel
theorem dL_law_254 : decode cL_law 254 = .ok (.aload_n 2, 1) := by decide +kernel
theorem dL_law_255 : decode cL_law 255 = .ok (.aload_n 0, 1) := by decide +kernel
theorem dL_law_256 : decode cL_law 256 = .ok (.iload_n 3, 1) := by decide +kernel
theorem dL_law_257 : decode cL_law 257 = .ok (.iconst 1, 1) := by decide +kernel
theorem dL_law_258 : decode cL_law 258 = .ok (.iadd, 1) := by decide +kernel
theorem dL_law_259 : decode cL_law 259 = .ok (.iaload, 1) := by decide +kernel
theorem dL_law_260 : decode cL_law 260 = .ok (.aload_n 0, 1) := by decide +kernel
theorem dL_law_261 : decode cL_law 261 = .ok (.iload_n 3, 1) := by decide +kernel
theorem dL_law_262 : decode cL_law 262 = .ok (.iconst 2, 1) := by decide +kernel
theorem dL_law_263 : decode cL_law 263 = .ok (.iadd, 1) := by decide +kernel
theorem dL_law_264 : decode cL_law 264 = .ok (.iaload, 1) := by decide +kernel
theorem dL_law_265 : decode cL_law 265 = .ok (.aload_n 0, 1) := by decide +kernel
theorem dL_law_266 : decode cL_law 266 = .ok (.iload_n 3, 1) := by decide +kernel
theorem dL_law_267 : decode cL_law 267 = .ok (.iconst 3, 1) := by decide +kernel
theorem dL_law_268 : decode cL_law 268 = .ok (.iadd, 1) := by decide +kernel
theorem dL_law_269 : decode cL_law 269 = .ok (.iaload, 1) := by decide +kernel
theorem dL_law_270 : decode cL_law 270 = .ok (.invokevirtual 21, 3) := by decide +kernel
theorem dL_law_273 : decode cL_law 273 = .ok (.if_icmp .eq 958, 3) := by decide +kernel
theorem dL_law_276 : decode cL_law 276 = .ok (.iconst 0, 1) := by decide +kernel
theorem dL_law_277 : decode cL_law 277 = .ok (.ireturn, 1) := by decide +kernel
theorem dL_law_278 : decode cL_law 278 = .ok (.aload_n 1, 1) := by decide +kernel
theorem dL_law_279 : decode cL_law 279 = .ok (.aload_n 0, 1) := by decide +kernel
theorem dL_law_280 : decode cL_law 280 = .ok (.iload_n 3, 1) := by decide +kernel
theorem dL_law_281 : decode cL_law 281 = .ok (.iconst 1, 1) := by decide +kernel
theorem dL_law_282 : decode cL_law 282 = .ok (.iadd, 1) := by decide +kernel
theorem dL_law_283 : decode cL_law 283 = .ok (.iaload, 1) := by decide +kernel
theorem dL_law_284 : decode cL_law 284 = .ok (.aload_n 0, 1) := by decide +kernel
theorem dL_law_285 : decode cL_law 285 = .ok (.iload_n 3, 1) := by decide +kernel
theorem dL_law_286 : decode cL_law 286 = .ok (.iconst 2, 1) := by decide +kernel
theorem dL_law_287 : decode cL_law 287 = .ok (.iadd, 1) := by decide +kernel
theorem dL_law_288 : decode cL_law 288 = .ok (.iaload, 1) := by decide +kernel
theorem dL_law_289 : decode cL_law 289 = .ok (.invokevirtual 22, 3) := by decide +kernel
theorem dL_law_292 : decode cL_law 292 = .ok (.aload_n 2, 1) := by decide +kernel
theorem dL_law_293 : decode cL_law 293 = .ok (.aload_n 0, 1) := by decide +kernel
theorem dL_law_294 : decode cL_law 294 = .ok (.iload_n 3, 1) := by decide +kernel
theorem dL_law_295 : decode cL_law 295 = .ok (.iconst 1, 1) := by decide +kernel
theorem dL_law_296 : decode cL_law 296 = .ok (.iadd, 1) := by decide +kernel
theorem dL_law_297 : decode cL_law 297 = .ok (.iaload, 1) := by decide +kernel
theorem dL_law_298 : decode cL_law 298 = .ok (.aload_n 0, 1) := by decide +kernel
theorem dL_law_299 : decode cL_law 299 = .ok (.iload_n 3, 1) := by decide +kernel
theorem dL_law_300 : decode cL_law 300 = .ok (.iconst 2, 1) := by decide +kernel
theorem dL_law_301 : decode cL_law 301 = .ok (.iadd, 1) := by decide +kernel
theorem dL_law_302 : decode cL_law 302 = .ok (.iaload, 1) := by decide +kernel
theorem dL_law_303 : decode cL_law 303 = .ok (.invokevirtual 26, 3) := by decide +kernel
theorem dL_law_306 : decode cL_law 306 = .ok (.if_icmp .eq 925, 3) := by decide +kernel
theorem dL_law_309 : decode cL_law 309 = .ok (.iconst 0, 1) := by decide +kernel
theorem dL_law_310 : decode cL_law 310 = .ok (.ireturn, 1) := by decide +kernel
theorem dL_law_311 : decode cL_law 311 = .ok (.aload_n 1, 1) := by decide +kernel
theorem dL_law_312 : decode cL_law 312 = .ok (.aload_n 0, 1) := by decide +kernel
theorem dL_law_313 : decode cL_law 313 = .ok (.iload_n 3, 1) := by decide +kernel
theorem dL_law_314 : decode cL_law 314 = .ok (.iconst 1, 1) := by decide +kernel
theorem dL_law_315 : decode cL_law 315 = .ok (.iadd, 1) := by decide +kernel
theorem dL_law_316 : decode cL_law 316 = .ok (.iaload, 1) := by decide +kernel
theorem dL_law_317 : decode cL_law 317 = .ok (.aload_n 0, 1) := by decide +kernel
theorem dL_law_318 : decode cL_law 318 = .ok (.iload_n 3, 1) := by decide +kernel
theorem dL_law_319 : decode cL_law 319 = .ok (.iconst 2, 1) := by decide +kernel
theorem dL_law_320 : decode cL_law 320 = .ok (.iadd, 1) := by decide +kernel
theorem dL_law_321 : decode cL_law 321 = .ok (.iaload, 1) := by decide +kernel
theorem dL_law_322 : decode cL_law 322 = .ok (.aload_n 0, 1) := by decide +kernel
theorem dL_law_323 : decode cL_law 323 = .ok (.iload_n 3, 1) := by decide +kernel
theorem dL_law_324 : decode cL_law 324 = .ok (.iconst 3, 1) := by decide +kernel
theorem dL_law_325 : decode cL_law 325 = .ok (.iadd, 1) := by decide +kernel
theorem dL_law_326 : decode cL_law 326 = .ok (.iaload, 1) := by decide +kernel
theorem dL_law_327 : decode cL_law 327 = .ok (.invokevirtual 27, 3) := by decide +kernel
theorem dL_law_330 : decode cL_law 330 = .ok (.aload_n 2, 1) := by decide +kernel
theorem dL_law_331 : decode cL_law 331 = .ok (.aload_n 0, 1) := by decide +kernel
theorem dL_law_332 : decode cL_law 332 = .ok (.iload_n 3, 1) := by decide +kernel
theorem dL_law_333 : decode cL_law 333 = .ok (.iconst 1, 1) := by decide +kernel
theorem dL_law_334 : decode cL_law 334 = .ok (.iadd, 1) := by decide +kernel
theorem dL_law_335 : decode cL_law 335 = .ok (.iaload, 1) := by decide +kernel
theorem dL_law_336 : decode cL_law 336 = .ok (.aload_n 0, 1) := by decide +kernel
theorem dL_law_337 : decode cL_law 337 = .ok (.iload_n 3, 1) := by decide +kernel
theorem dL_law_338 : decode cL_law 338 = .ok (.iconst 2, 1) := by decide +kernel
theorem dL_law_339 : decode cL_law 339 = .ok (.iadd, 1) := by decide +kernel
theorem dL_law_340 : decode cL_law 340 = .ok (.iaload, 1) := by decide +kernel
theorem dL_law_341 : decode cL_law 341 = .ok (.aload_n 0, 1) := by decide +kernel
theorem dL_law_342 : decode cL_law 342 = .ok (.iload_n 3, 1) := by decide +kernel
theorem dL_law_343 : decode cL_law 343 = .ok (.iconst 3, 1) := by decide +kernel
theorem dL_law_344 : decode cL_law 344 = .ok (.iadd, 1) := by decide +kernel
theorem dL_law_345 : decode cL_law 345 = .ok (.iaload, 1) := by decide +kernel
theorem dL_law_346 : decode cL_law 346 = .ok (.invokevirtual 30, 3) := by decide +kernel
theorem dL_law_349 : decode cL_law 349 = .ok (.if_icmp .eq 882, 3) := by decide +kernel
theorem dL_law_352 : decode cL_law 352 = .ok (.iconst 0, 1) := by decide +kernel
theorem dL_law_353 : decode cL_law 353 = .ok (.ireturn, 1) := by decide +kernel
theorem dL_law_354 : decode cL_law 354 = .ok (.aload_n 1, 1) := by decide +kernel
theorem dL_law_355 : decode cL_law 355 = .ok (.aload_n 0, 1) := by decide +kernel
theorem dL_law_356 : decode cL_law 356 = .ok (.iload_n 3, 1) := by decide +kernel
theorem dL_law_357 : decode cL_law 357 = .ok (.iconst 1, 1) := by decide +kernel
theorem dL_law_358 : decode cL_law 358 = .ok (.iadd, 1) := by decide +kernel
theorem dL_law_359 : decode cL_law 359 = .ok (.iaload, 1) := by decide +kernel
theorem dL_law_360 : decode cL_law 360 = .ok (.invokevirtual 31, 3) := by decide +kernel
theorem dL_law_363 : decode cL_law 363 = .ok (.aload_n 2, 1) := by decide +kernel
theorem dL_law_364 : decode cL_law 364 = .ok (.aload_n 0, 1) := by decide +kernel
theorem dL_law_365 : decode cL_law 365 = .ok (.iload_n 3, 1) := by decide +kernel
theorem dL_law_366 : decode cL_law 366 = .ok (.iconst 1, 1) := by decide +kernel
theorem dL_law_367 : decode cL_law 367 = .ok (.iadd, 1) := by decide +kernel
theorem dL_law_368 : decode cL_law 368 = .ok (.iaload, 1) := by decide +kernel
theorem dL_law_369 : decode cL_law 369 = .ok (.invokevirtual 35, 3) := by decide +kernel
theorem dL_law_372 : decode cL_law 372 = .ok (.if_icmp .eq 859, 3) := by decide +kernel
theorem dL_law_375 : decode cL_law 375 = .ok (.iconst 0, 1) := by decide +kernel
theorem dL_law_376 : decode cL_law 376 = .ok (.ireturn, 1) := by decide +kernel
theorem dL_law_377 : decode cL_law 377 = .ok (.aload_n 1, 1) := by decide +kernel
theorem dL_law_378 : decode cL_law 378 = .ok (.invokevirtual 36, 3) := by decide +kernel
theorem dL_law_381 : decode cL_law 381 = .ok (.aload_n 2, 1) := by decide +kernel
theorem dL_law_382 : decode cL_law 382 = .ok (.invokevirtual 40, 3) := by decide +kernel
theorem dL_law_385 : decode cL_law 385 = .ok (.if_icmp .eq 846, 3) := by decide +kernel
theorem dL_law_388 : decode cL_law 388 = .ok (.iconst 0, 1) := by decide +kernel
theorem dL_law_389 : decode cL_law 389 = .ok (.ireturn, 1) := by decide +kernel
theorem dL_law_390 : decode cL_law 390 = .ok (.aload_n 1, 1) := by decide +kernel
theorem dL_law_391 : decode cL_law 391 = .ok (.aload_n 0, 1) := by decide +kernel
theorem dL_law_392 : decode cL_law 392 = .ok (.iload_n 3, 1) := by decide +kernel
theorem dL_law_393 : decode cL_law 393 = .ok (.iconst 1, 1) := by decide +kernel
theorem dL_law_394 : decode cL_law 394 = .ok (.iadd, 1) := by decide +kernel
theorem dL_law_395 : decode cL_law 395 = .ok (.iaload, 1) := by decide +kernel
theorem dL_law_396 : decode cL_law 396 = .ok (.invokevirtual 41, 3) := by decide +kernel
theorem dL_law_399 : decode cL_law 399 = .ok (.aload_n 2, 1) := by decide +kernel
theorem dL_law_400 : decode cL_law 400 = .ok (.aload_n 0, 1) := by decide +kernel
theorem dL_law_401 : decode cL_law 401 = .ok (.iload_n 3, 1) := by decide +kernel
theorem dL_law_402 : decode cL_law 402 = .ok (.iconst 1, 1) := by decide +kernel
theorem dL_law_403 : decode cL_law 403 = .ok (.iadd, 1) := by decide +kernel
theorem dL_law_404 : decode cL_law 404 = .ok (.iaload, 1) := by decide +kernel
theorem dL_law_405 : decode cL_law 405 = .ok (.invokevirtual 44, 3) := by decide +kernel
theorem dL_law_408 : decode cL_law 408 = .ok (.if_icmp .eq 823, 3) := by decide +kernel
theorem dL_law_411 : decode cL_law 411 = .ok (.iconst 0, 1) := by decide +kernel
theorem dL_law_412 : decode cL_law 412 = .ok (.ireturn, 1) := by decide +kernel
theorem dL_law_413 : decode cL_law 413 = .ok (.aload_n 1, 1) := by decide +kernel
theorem dL_law_414 : decode cL_law 414 = .ok (.aload_n 0, 1) := by decide +kernel
theorem dL_law_415 : decode cL_law 415 = .ok (.iload_n 3, 1) := by decide +kernel
theorem dL_law_416 : decode cL_law 416 = .ok (.iconst 1, 1) := by decide +kernel
theorem dL_law_417 : decode cL_law 417 = .ok (.iadd, 1) := by decide +kernel
theorem dL_law_418 : decode cL_law 418 = .ok (.iaload, 1) := by decide +kernel
theorem dL_law_419 : decode cL_law 419 = .ok (.aload_n 0, 1) := by decide +kernel
theorem dL_law_420 : decode cL_law 420 = .ok (.iload_n 3, 1) := by decide +kernel
theorem dL_law_421 : decode cL_law 421 = .ok (.iconst 2, 1) := by decide +kernel
theorem dL_law_422 : decode cL_law 422 = .ok (.iadd, 1) := by decide +kernel
theorem dL_law_423 : decode cL_law 423 = .ok (.iaload, 1) := by decide +kernel
theorem dL_law_424 : decode cL_law 424 = .ok (.invokevirtual 45, 3) := by decide +kernel
theorem dL_law_427 : decode cL_law 427 = .ok (.aload_n 2, 1) := by decide +kernel
theorem dL_law_428 : decode cL_law 428 = .ok (.aload_n 0, 1) := by decide +kernel
theorem dL_law_429 : decode cL_law 429 = .ok (.iload_n 3, 1) := by decide +kernel
theorem dL_law_430 : decode cL_law 430 = .ok (.iconst 1, 1) := by decide +kernel
theorem dL_law_431 : decode cL_law 431 = .ok (.iadd, 1) := by decide +kernel
theorem dL_law_432 : decode cL_law 432 = .ok (.iaload, 1) := by decide +kernel
theorem dL_law_433 : decode cL_law 433 = .ok (.aload_n 0, 1) := by decide +kernel
theorem dL_law_434 : decode cL_law 434 = .ok (.iload_n 3, 1) := by decide +kernel
theorem dL_law_435 : decode cL_law 435 = .ok (.iconst 2, 1) := by decide +kernel
theorem dL_law_436 : decode cL_law 436 = .ok (.iadd, 1) := by decide +kernel
theorem dL_law_437 : decode cL_law 437 = .ok (.iaload, 1) := by decide +kernel
theorem dL_law_438 : decode cL_law 438 = .ok (.invokevirtual 48, 3) := by decide +kernel
theorem dL_law_441 : decode cL_law 441 = .ok (.if_icmp .eq 790, 3) := by decide +kernel
theorem dL_law_444 : decode cL_law 444 = .ok (.iconst 0, 1) := by decide +kernel
theorem dL_law_445 : decode cL_law 445 = .ok (.ireturn, 1) := by decide +kernel
theorem dL_law_446 : decode cL_law 446 = .ok (.aload_n 1, 1) := by decide +kernel
theorem dL_law_447 : decode cL_law 447 = .ok (.invokevirtual 49, 3) := by decide +kernel
theorem dL_law_450 : decode cL_law 450 = .ok (.aload_n 2, 1) := by decide +kernel
theorem dL_law_451 : decode cL_law 451 = .ok (.invokevirtual 52, 3) := by decide +kernel
theorem dL_law_454 : decode cL_law 454 = .ok (.if_icmp .eq 777, 3) := by decide +kernel
theorem dL_law_457 : decode cL_law 457 = .ok (.iconst 0, 1) := by decide +kernel
theorem dL_law_458 : decode cL_law 458 = .ok (.ireturn, 1) := by decide +kernel
theorem dL_law_459 : decode cL_law 459 = .ok (.aload_n 1, 1) := by decide +kernel
theorem dL_law_460 : decode cL_law 460 = .ok (.invokevirtual 53, 3) := by decide +kernel
theorem dL_law_463 : decode cL_law 463 = .ok (.aload_n 2, 1) := by decide +kernel
theorem dL_law_464 : decode cL_law 464 = .ok (.invokevirtual 56, 3) := by decide +kernel
theorem dL_law_467 : decode cL_law 467 = .ok (.if_icmp .eq 764, 3) := by decide +kernel
theorem dL_law_470 : decode cL_law 470 = .ok (.iconst 0, 1) := by decide +kernel
theorem dL_law_471 : decode cL_law 471 = .ok (.ireturn, 1) := by decide +kernel
theorem dL_law_472 : decode cL_law 472 = .ok (.aload_n 1, 1) := by decide +kernel
theorem dL_law_473 : decode cL_law 473 = .ok (.aload_n 0, 1) := by decide +kernel
theorem dL_law_474 : decode cL_law 474 = .ok (.iload_n 3, 1) := by decide +kernel
theorem dL_law_475 : decode cL_law 475 = .ok (.iconst 1, 1) := by decide +kernel
theorem dL_law_476 : decode cL_law 476 = .ok (.iadd, 1) := by decide +kernel
theorem dL_law_477 : decode cL_law 477 = .ok (.iaload, 1) := by decide +kernel
theorem dL_law_478 : decode cL_law 478 = .ok (.invokevirtual 57, 3) := by decide +kernel
theorem dL_law_481 : decode cL_law 481 = .ok (.aload_n 2, 1) := by decide +kernel
theorem dL_law_482 : decode cL_law 482 = .ok (.aload_n 0, 1) := by decide +kernel
theorem dL_law_483 : decode cL_law 483 = .ok (.iload_n 3, 1) := by decide +kernel
theorem dL_law_484 : decode cL_law 484 = .ok (.iconst 1, 1) := by decide +kernel
theorem dL_law_485 : decode cL_law 485 = .ok (.iadd, 1) := by decide +kernel
theorem dL_law_486 : decode cL_law 486 = .ok (.iaload, 1) := by decide +kernel
theorem dL_law_487 : decode cL_law 487 = .ok (.invokevirtual 60, 3) := by decide +kernel
theorem dL_law_490 : decode cL_law 490 = .ok (.if_icmp .eq 741, 3) := by decide +kernel
theorem dL_law_493 : decode cL_law 493 = .ok (.iconst 0, 1) := by decide +kernel
theorem dL_law_494 : decode cL_law 494 = .ok (.ireturn, 1) := by decide +kernel
theorem dL_law_495 : decode cL_law 495 = .ok (.aload_n 1, 1) := by decide +kernel
theorem dL_law_496 : decode cL_law 496 = .ok (.aload_n 0, 1) := by decide +kernel
theorem dL_law_497 : decode cL_law 497 = .ok (.iload_n 3, 1) := by decide +kernel
theorem dL_law_498 : decode cL_law 498 = .ok (.iconst 1, 1) := by decide +kernel
theorem dL_law_499 : decode cL_law 499 = .ok (.iadd, 1) := by decide +kernel
theorem dL_law_500 : decode cL_law 500 = .ok (.iaload, 1) := by decide +kernel
theorem dL_law_501 : decode cL_law 501 = .ok (.invokevirtual 61, 3) := by decide +kernel
theorem dL_law_504 : decode cL_law 504 = .ok (.aload_n 2, 1) := by decide +kernel
theorem dL_law_505 : decode cL_law 505 = .ok (.aload_n 0, 1) := by decide +kernel
theorem dL_law_506 : decode cL_law 506 = .ok (.iload_n 3, 1) := by decide +kernel
theorem dL_law_507 : decode cL_law 507 = .ok (.iconst 1, 1) := by decide +kernel
theorem dL_law_508 : decode cL_law 508 = .ok (.iadd, 1) := by decide +kernel
theorem dL_law_509 : decode cL_law 509 = .ok (.iaload, 1) := by decide +kernel
theorem dL_law_510 : decode cL_law 510 = .ok (.invokevirtual 64, 3) := by decide +kernel
theorem dL_law_513 : decode cL_law 513 = .ok (.if_icmp .eq 718, 3) := by decide +kernel
theorem dL_law_516 : decode cL_law 516 = .ok (.iconst 0, 1) := by decide +kernel
theorem dL_law_517 : decode cL_law 517 = .ok (.ireturn, 1) := by decide +kernel
theorem dL_law_518 : decode cL_law 518 = .ok (.aload_n 1, 1) := by decide +kernel
theorem dL_law_519 : decode cL_law 519 = .ok (.aload_n 0, 1) := by decide +kernel
theorem dL_law_520 : decode cL_law 520 = .ok (.iload_n 3, 1) := by decide +kernel
theorem dL_law_521 : decode cL_law 521 = .ok (.iconst 1, 1) := by decide +kernel
theorem dL_law_522 : decode cL_law 522 = .ok (.iadd, 1) := by decide +kernel
theorem dL_law_523 : decode cL_law 523 = .ok (.iaload, 1) := by decide +kernel
theorem dL_law_524 : decode cL_law 524 = .ok (.aload_n 0, 1) := by decide +kernel
theorem dL_law_525 : decode cL_law 525 = .ok (.iload_n 3, 1) := by decide +kernel
theorem dL_law_526 : decode cL_law 526 = .ok (.iconst 2, 1) := by decide +kernel
theorem dL_law_527 : decode cL_law 527 = .ok (.iadd, 1) := by decide +kernel
theorem dL_law_528 : decode cL_law 528 = .ok (.iaload, 1) := by decide +kernel
theorem dL_law_529 : decode cL_law 529 = .ok (.invokevirtual 65, 3) := by decide +kernel
theorem dL_law_532 : decode cL_law 532 = .ok (.aload_n 2, 1) := by decide +kernel
theorem dL_law_533 : decode cL_law 533 = .ok (.aload_n 0, 1) := by decide +kernel
theorem dL_law_534 : decode cL_law 534 = .ok (.iload_n 3, 1) := by decide +kernel
theorem dL_law_535 : decode cL_law 535 = .ok (.iconst 1, 1) := by decide +kernel
theorem dL_law_536 : decode cL_law 536 = .ok (.iadd, 1) := by decide +kernel
theorem dL_law_537 : decode cL_law 537 = .ok (.iaload, 1) := by decide +kernel
theorem dL_law_538 : decode cL_law 538 = .ok (.aload_n 0, 1) := by decide +kernel
theorem dL_law_539 : decode cL_law 539 = .ok (.iload_n 3, 1) := by decide +kernel
theorem dL_law_540 : decode cL_law 540 = .ok (.iconst 2, 1) := by decide +kernel
theorem dL_law_541 : decode cL_law 541 = .ok (.iadd, 1) := by decide +kernel
theorem dL_law_542 : decode cL_law 542 = .ok (.iaload, 1) := by decide +kernel
theorem dL_law_543 : decode cL_law 543 = .ok (.invokevirtual 68, 3) := by decide +kernel
theorem dL_law_546 : decode cL_law 546 = .ok (.if_icmp .eq 685, 3) := by decide +kernel
theorem dL_law_549 : decode cL_law 549 = .ok (.iconst 0, 1) := by decide +kernel
theorem dL_law_550 : decode cL_law 550 = .ok (.ireturn, 1) := by decide +kernel
theorem dL_law_551 : decode cL_law 551 = .ok (.aload_n 1, 1) := by decide +kernel
theorem dL_law_552 : decode cL_law 552 = .ok (.aload_n 0, 1) := by decide +kernel
theorem dL_law_553 : decode cL_law 553 = .ok (.iload_n 3, 1) := by decide +kernel
theorem dL_law_554 : decode cL_law 554 = .ok (.iconst 1, 1) := by decide +kernel
theorem dL_law_555 : decode cL_law 555 = .ok (.iadd, 1) := by decide +kernel
theorem dL_law_556 : decode cL_law 556 = .ok (.iaload, 1) := by decide +kernel
theorem dL_law_557 : decode cL_law 557 = .ok (.invokevirtual 69, 3) := by decide +kernel
theorem dL_law_560 : decode cL_law 560 = .ok (.aload_n 2, 1) := by decide +kernel
theorem dL_law_561 : decode cL_law 561 = .ok (.aload_n 0, 1) := by decide +kernel
theorem dL_law_562 : decode cL_law 562 = .ok (.iload_n 3, 1) := by decide +kernel
theorem dL_law_563 : decode cL_law 563 = .ok (.iconst 1, 1) := by decide +kernel
theorem dL_law_564 : decode cL_law 564 = .ok (.iadd, 1) := by decide +kernel
theorem dL_law_565 : decode cL_law 565 = .ok (.iaload, 1) := by decide +kernel
theorem dL_law_566 : decode cL_law 566 = .ok (.invokevirtual 72, 3) := by decide +kernel
theorem dL_law_569 : decode cL_law 569 = .ok (.if_icmp .eq 662, 3) := by decide +kernel
theorem dL_law_572 : decode cL_law 572 = .ok (.iconst 0, 1) := by decide +kernel
theorem dL_law_573 : decode cL_law 573 = .ok (.ireturn, 1) := by decide +kernel
theorem dL_law_574 : decode cL_law 574 = .ok (.aload_n 1, 1) := by decide +kernel
theorem dL_law_575 : decode cL_law 575 = .ok (.aload_n 0, 1) := by decide +kernel
theorem dL_law_576 : decode cL_law 576 = .ok (.iload_n 3, 1) := by decide +kernel
theorem dL_law_577 : decode cL_law 577 = .ok (.iconst 1, 1) := by decide +kernel
theorem dL_law_578 : decode cL_law 578 = .ok (.iadd, 1) := by decide +kernel
theorem dL_law_579 : decode cL_law 579 = .ok (.iaload, 1) := by decide +kernel
theorem dL_law_580 : decode cL_law 580 = .ok (.invokevirtual 73, 3) := by decide +kernel
theorem dL_law_583 : decode cL_law 583 = .ok (.aload_n 2, 1) := by decide +kernel
theorem dL_law_584 : decode cL_law 584 = .ok (.aload_n 0, 1) := by decide +kernel
theorem dL_law_585 : decode cL_law 585 = .ok (.iload_n 3, 1) := by decide +kernel
theorem dL_law_586 : decode cL_law 586 = .ok (.iconst 1, 1) := by decide +kernel
theorem dL_law_587 : decode cL_law 587 = .ok (.iadd, 1) := by decide +kernel
theorem dL_law_588 : decode cL_law 588 = .ok (.iaload, 1) := by decide +kernel
theorem dL_law_589 : decode cL_law 589 = .ok (.invokevirtual 76, 3) := by decide +kernel
theorem dL_law_592 : decode cL_law 592 = .ok (.if_icmp .eq 639, 3) := by decide +kernel
theorem dL_law_595 : decode cL_law 595 = .ok (.iconst 0, 1) := by decide +kernel
theorem dL_law_596 : decode cL_law 596 = .ok (.ireturn, 1) := by decide +kernel
theorem dL_law_597 : decode cL_law 597 = .ok (.aload_n 1, 1) := by decide +kernel
theorem dL_law_598 : decode cL_law 598 = .ok (.invokevirtual 77, 3) := by decide +kernel
theorem dL_law_601 : decode cL_law 601 = .ok (.aload_n 2, 1) := by decide +kernel
theorem dL_law_602 : decode cL_law 602 = .ok (.invokevirtual 80, 3) := by decide +kernel
theorem dL_law_605 : decode cL_law 605 = .ok (.if_icmp .eq 626, 3) := by decide +kernel
theorem dL_law_608 : decode cL_law 608 = .ok (.iconst 0, 1) := by decide +kernel
theorem dL_law_609 : decode cL_law 609 = .ok (.ireturn, 1) := by decide +kernel
theorem dL_law_610 : decode cL_law 610 = .ok (.aload_n 1, 1) := by decide +kernel
theorem dL_law_611 : decode cL_law 611 = .ok (.aload_n 0, 1) := by decide +kernel
theorem dL_law_612 : decode cL_law 612 = .ok (.iload_n 3, 1) := by decide +kernel
theorem dL_law_613 : decode cL_law 613 = .ok (.iconst 1, 1) := by decide +kernel
theorem dL_law_614 : decode cL_law 614 = .ok (.iadd, 1) := by decide +kernel
theorem dL_law_615 : decode cL_law 615 = .ok (.iaload, 1) := by decide +kernel
theorem dL_law_616 : decode cL_law 616 = .ok (.invokevirtual 81, 3) := by decide +kernel
theorem dL_law_619 : decode cL_law 619 = .ok (.aload_n 2, 1) := by decide +kernel
theorem dL_law_620 : decode cL_law 620 = .ok (.aload_n 0, 1) := by decide +kernel
theorem dL_law_621 : decode cL_law 621 = .ok (.iload_n 3, 1) := by decide +kernel
theorem dL_law_622 : decode cL_law 622 = .ok (.iconst 1, 1) := by decide +kernel
theorem dL_law_623 : decode cL_law 623 = .ok (.iadd, 1) := by decide +kernel
theorem dL_law_624 : decode cL_law 624 = .ok (.iaload, 1) := by decide +kernel
theorem dL_law_625 : decode cL_law 625 = .ok (.invokevirtual 84, 3) := by decide +kernel
theorem dL_law_628 : decode cL_law 628 = .ok (.if_icmp .eq 603, 3) := by decide +kernel
theorem dL_law_631 : decode cL_law 631 = .ok (.iconst 0, 1) := by decide +kernel
theorem dL_law_632 : decode cL_law 632 = .ok (.ireturn, 1) := by decide +kernel
theorem dL_law_633 : decode cL_law 633 = .ok (.aload_n 1, 1) := by decide +kernel
theorem dL_law_634 : decode cL_law 634 = .ok (.aload_n 0, 1) := by decide +kernel
theorem dL_law_635 : decode cL_law 635 = .ok (.iload_n 3, 1) := by decide +kernel
theorem dL_law_636 : decode cL_law 636 = .ok (.iconst 1, 1) := by decide +kernel
theorem dL_law_637 : decode cL_law 637 = .ok (.iadd, 1) := by decide +kernel
theorem dL_law_638 : decode cL_law 638 = .ok (.iaload, 1) := by decide +kernel
theorem dL_law_639 : decode cL_law 639 = .ok (.invokevirtual 85, 3) := by decide +kernel
theorem dL_law_642 : decode cL_law 642 = .ok (.aload_n 2, 1) := by decide +kernel
theorem dL_law_643 : decode cL_law 643 = .ok (.aload_n 0, 1) := by decide +kernel
theorem dL_law_644 : decode cL_law 644 = .ok (.iload_n 3, 1) := by decide +kernel
theorem dL_law_645 : decode cL_law 645 = .ok (.iconst 1, 1) := by decide +kernel
theorem dL_law_646 : decode cL_law 646 = .ok (.iadd, 1) := by decide +kernel
theorem dL_law_647 : decode cL_law 647 = .ok (.iaload, 1) := by decide +kernel
theorem dL_law_648 : decode cL_law 648 = .ok (.invokevirtual 88, 3) := by decide +kernel
theorem dL_law_651 : decode cL_law 651 = .ok (.if_icmp .eq 580, 3) := by decide +kernel
theorem dL_law_654 : decode cL_law 654 = .ok (.iconst 0, 1) := by decide +kernel
theorem dL_law_655 : decode cL_law 655 = .ok (.ireturn, 1) := by decide +kernel
theorem dL_law_656 : decode cL_law 656 = .ok (.aload_n 1, 1) := by decide +kernel
theorem dL_law_657 : decode cL_law 657 = .ok (.aload_n 0, 1) := by decide +kernel
theorem dL_law_658 : decode cL_law 658 = .ok (.iload_n 3, 1) := by decide +kernel
theorem dL_law_659 : decode cL_law 659 = .ok (.iconst 1, 1) := by decide +kernel
theorem dL_law_660 : decode cL_law 660 = .ok (.iadd, 1) := by decide +kernel
theorem dL_law_661 : decode cL_law 661 = .ok (.iaload, 1) := by decide +kernel
theorem dL_law_662 : decode cL_law 662 = .ok (.invokevirtual 89, 3) := by decide +kernel
theorem dL_law_665 : decode cL_law 665 = .ok (.aload_n 2, 1) := by decide +kernel
theorem dL_law_666 : decode cL_law 666 = .ok (.aload_n 0, 1) := by decide +kernel
theorem dL_law_667 : decode cL_law 667 = .ok (.iload_n 3, 1) := by decide +kernel
theorem dL_law_668 : decode cL_law 668 = .ok (.iconst 1, 1) := by decide +kernel
theorem dL_law_669 : decode cL_law 669 = .ok (.iadd, 1) := by decide +kernel
theorem dL_law_670 : decode cL_law 670 = .ok (.iaload, 1) := by decide +kernel
theorem dL_law_671 : decode cL_law 671 = .ok (.invokevirtual 92, 3) := by decide +kernel
theorem dL_law_674 : decode cL_law 674 = .ok (.if_icmp .eq 557, 3) := by decide +kernel
theorem dL_law_677 : decode cL_law 677 = .ok (.iconst 0, 1) := by decide +kernel
theorem dL_law_678 : decode cL_law 678 = .ok (.ireturn, 1) := by decide +kernel
theorem dL_law_679 : decode cL_law 679 = .ok (.aload_n 1, 1) := by decide +kernel
theorem dL_law_680 : decode cL_law 680 = .ok (.aload_n 0, 1) := by decide +kernel
theorem dL_law_681 : decode cL_law 681 = .ok (.iload_n 3, 1) := by decide +kernel
theorem dL_law_682 : decode cL_law 682 = .ok (.iconst 1, 1) := by decide +kernel
theorem dL_law_683 : decode cL_law 683 = .ok (.iadd, 1) := by decide +kernel
theorem dL_law_684 : decode cL_law 684 = .ok (.iaload, 1) := by decide +kernel
theorem dL_law_685 : decode cL_law 685 = .ok (.aload_n 0, 1) := by decide +kernel
theorem dL_law_686 : decode cL_law 686 = .ok (.iload_n 3, 1) := by decide +kernel
theorem dL_law_687 : decode cL_law 687 = .ok (.iconst 2, 1) := by decide +kernel
theorem dL_law_688 : decode cL_law 688 = .ok (.iadd, 1) := by decide +kernel
theorem dL_law_689 : decode cL_law 689 = .ok (.iaload, 1) := by decide +kernel
theorem dL_law_690 : decode cL_law 690 = .ok (.invokevirtual 93, 3) := by decide +kernel
theorem dL_law_693 : decode cL_law 693 = .ok (.aload_n 2, 1) := by decide +kernel
theorem dL_law_694 : decode cL_law 694 = .ok (.aload_n 0, 1) := by decide +kernel
theorem dL_law_695 : decode cL_law 695 = .ok (.iload_n 3, 1) := by decide +kernel
theorem dL_law_696 : decode cL_law 696 = .ok (.iconst 1, 1) := by decide +kernel
theorem dL_law_697 : decode cL_law 697 = .ok (.iadd, 1) := by decide +kernel
theorem dL_law_698 : decode cL_law 698 = .ok (.iaload, 1) := by decide +kernel
theorem dL_law_699 : decode cL_law 699 = .ok (.aload_n 0, 1) := by decide +kernel
theorem dL_law_700 : decode cL_law 700 = .ok (.iload_n 3, 1) := by decide +kernel
theorem dL_law_701 : decode cL_law 701 = .ok (.iconst 2, 1) := by decide +kernel
theorem dL_law_702 : decode cL_law 702 = .ok (.iadd, 1) := by decide +kernel
theorem dL_law_703 : decode cL_law 703 = .ok (.iaload, 1) := by decide +kernel
theorem dL_law_704 : decode cL_law 704 = .ok (.invokevirtual 96, 3) := by decide +kernel
theorem dL_law_707 : decode cL_law 707 = .ok (.if_icmp .eq 524, 3) := by decide +kernel
theorem dL_law_710 : decode cL_law 710 = .ok (.iconst 0, 1) := by decide +kernel
theorem dL_law_711 : decode cL_law 711 = .ok (.ireturn, 1) := by decide +kernel
theorem dL_law_712 : decode cL_law 712 = .ok (.aload_n 1, 1) := by decide +kernel
theorem dL_law_713 : decode cL_law 713 = .ok (.aload_n 0, 1) := by decide +kernel
theorem dL_law_714 : decode cL_law 714 = .ok (.iload_n 3, 1) := by decide +kernel
theorem dL_law_715 : decode cL_law 715 = .ok (.iconst 1, 1) := by decide +kernel
theorem dL_law_716 : decode cL_law 716 = .ok (.iadd, 1) := by decide +kernel
theorem dL_law_717 : decode cL_law 717 = .ok (.iaload, 1) := by decide +kernel
theorem dL_law_718 : decode cL_law 718 = .ok (.invokevirtual 97, 3) := by decide +kernel
theorem dL_law_721 : decode cL_law 721 = .ok (.aload_n 2, 1) := by decide +kernel
theorem dL_law_722 : decode cL_law 722 = .ok (.aload_n 0, 1) := by decide +kernel
theorem dL_law_723 : decode cL_law 723 = .ok (.iload_n 3, 1) := by decide +kernel
theorem dL_law_724 : decode cL_law 724 = .ok (.iconst 1, 1) := by decide +kernel
theorem dL_law_725 : decode cL_law 725 = .ok (.iadd, 1) := by decide +kernel
theorem dL_law_726 : decode cL_law 726 = .ok (.iaload, 1) := by decide +kernel
theorem dL_law_727 : decode cL_law 727 = .ok (.invokevirtual 100, 3) := by decide +kernel
theorem dL_law_730 : decode cL_law 730 = .ok (.if_icmp .eq 501, 3) := by decide +kernel
theorem dL_law_733 : decode cL_law 733 = .ok (.iconst 0, 1) := by decide +kernel
theorem dL_law_734 : decode cL_law 734 = .ok (.ireturn, 1) := by decide +kernel
theorem dL_law_735 : decode cL_law 735 = .ok (.aload_n 1, 1) := by decide +kernel
theorem dL_law_736 : decode cL_law 736 = .ok (.aload_n 0, 1) := by decide +kernel
theorem dL_law_737 : decode cL_law 737 = .ok (.iload_n 3, 1) := by decide +kernel
theorem dL_law_738 : decode cL_law 738 = .ok (.iconst 1, 1) := by decide +kernel
theorem dL_law_739 : decode cL_law 739 = .ok (.iadd, 1) := by decide +kernel
theorem dL_law_740 : decode cL_law 740 = .ok (.iaload, 1) := by decide +kernel
theorem dL_law_741 : decode cL_law 741 = .ok (.aload_n 0, 1) := by decide +kernel
theorem dL_law_742 : decode cL_law 742 = .ok (.iload_n 3, 1) := by decide +kernel
theorem dL_law_743 : decode cL_law 743 = .ok (.iconst 2, 1) := by decide +kernel
theorem dL_law_744 : decode cL_law 744 = .ok (.iadd, 1) := by decide +kernel
theorem dL_law_745 : decode cL_law 745 = .ok (.iaload, 1) := by decide +kernel
theorem dL_law_746 : decode cL_law 746 = .ok (.aload_n 0, 1) := by decide +kernel
theorem dL_law_747 : decode cL_law 747 = .ok (.iload_n 3, 1) := by decide +kernel
theorem dL_law_748 : decode cL_law 748 = .ok (.iconst 3, 1) := by decide +kernel
theorem dL_law_749 : decode cL_law 749 = .ok (.iadd, 1) := by decide +kernel
theorem dL_law_750 : decode cL_law 750 = .ok (.iaload, 1) := by decide +kernel
theorem dL_law_751 : decode cL_law 751 = .ok (.invokevirtual 101, 3) := by decide +kernel
theorem dL_law_754 : decode cL_law 754 = .ok (.aload_n 2, 1) := by decide +kernel
theorem dL_law_755 : decode cL_law 755 = .ok (.aload_n 0, 1) := by decide +kernel
theorem dL_law_756 : decode cL_law 756 = .ok (.iload_n 3, 1) := by decide +kernel
theorem dL_law_757 : decode cL_law 757 = .ok (.iconst 1, 1) := by decide +kernel
theorem dL_law_758 : decode cL_law 758 = .ok (.iadd, 1) := by decide +kernel
theorem dL_law_759 : decode cL_law 759 = .ok (.iaload, 1) := by decide +kernel
theorem dL_law_760 : decode cL_law 760 = .ok (.aload_n 0, 1) := by decide +kernel
theorem dL_law_761 : decode cL_law 761 = .ok (.iload_n 3, 1) := by decide +kernel
theorem dL_law_762 : decode cL_law 762 = .ok (.iconst 2, 1) := by decide +kernel
theorem dL_law_763 : decode cL_law 763 = .ok (.iadd, 1) := by decide +kernel
theorem dL_law_764 : decode cL_law 764 = .ok (.iaload, 1) := by decide +kernel
theorem dL_law_765 : decode cL_law 765 = .ok (.aload_n 0, 1) := by decide +kernel
theorem dL_law_766 : decode cL_law 766 = .ok (.iload_n 3, 1) := by decide +kernel
theorem dL_law_767 : decode cL_law 767 = .ok (.iconst 3, 1) := by decide +kernel
theorem dL_law_768 : decode cL_law 768 = .ok (.iadd, 1) := by decide +kernel
theorem dL_law_769 : decode cL_law 769 = .ok (.iaload, 1) := by decide +kernel
theorem dL_law_770 : decode cL_law 770 = .ok (.invokevirtual 104, 3) := by decide +kernel
theorem dL_law_773 : decode cL_law 773 = .ok (.if_icmp .eq 458, 3) := by decide +kernel
theorem dL_law_776 : decode cL_law 776 = .ok (.iconst 0, 1) := by decide +kernel
theorem dL_law_777 : decode cL_law 777 = .ok (.ireturn, 1) := by decide +kernel
theorem dL_law_778 : decode cL_law 778 = .ok (.aload_n 1, 1) := by decide +kernel
theorem dL_law_779 : decode cL_law 779 = .ok (.invokevirtual 105, 3) := by decide +kernel
theorem dL_law_782 : decode cL_law 782 = .ok (.aload_n 2, 1) := by decide +kernel
theorem dL_law_783 : decode cL_law 783 = .ok (.invokevirtual 108, 3) := by decide +kernel
theorem dL_law_786 : decode cL_law 786 = .ok (.if_icmp .eq 445, 3) := by decide +kernel
theorem dL_law_789 : decode cL_law 789 = .ok (.iconst 0, 1) := by decide +kernel
theorem dL_law_790 : decode cL_law 790 = .ok (.ireturn, 1) := by decide +kernel
theorem dL_law_791 : decode cL_law 791 = .ok (.aload_n 1, 1) := by decide +kernel
theorem dL_law_792 : decode cL_law 792 = .ok (.aload_n 0, 1) := by decide +kernel
theorem dL_law_793 : decode cL_law 793 = .ok (.iload_n 3, 1) := by decide +kernel
theorem dL_law_794 : decode cL_law 794 = .ok (.iconst 1, 1) := by decide +kernel
theorem dL_law_795 : decode cL_law 795 = .ok (.iadd, 1) := by decide +kernel
theorem dL_law_796 : decode cL_law 796 = .ok (.iaload, 1) := by decide +kernel
theorem dL_law_797 : decode cL_law 797 = .ok (.invokevirtual 109, 3) := by decide +kernel
theorem dL_law_800 : decode cL_law 800 = .ok (.aload_n 2, 1) := by decide +kernel
theorem dL_law_801 : decode cL_law 801 = .ok (.aload_n 0, 1) := by decide +kernel
theorem dL_law_802 : decode cL_law 802 = .ok (.iload_n 3, 1) := by decide +kernel
theorem dL_law_803 : decode cL_law 803 = .ok (.iconst 1, 1) := by decide +kernel
theorem dL_law_804 : decode cL_law 804 = .ok (.iadd, 1) := by decide +kernel
theorem dL_law_805 : decode cL_law 805 = .ok (.iaload, 1) := by decide +kernel
theorem dL_law_806 : decode cL_law 806 = .ok (.invokevirtual 112, 3) := by decide +kernel
theorem dL_law_809 : decode cL_law 809 = .ok (.if_icmp .eq 422, 3) := by decide +kernel
theorem dL_law_812 : decode cL_law 812 = .ok (.iconst 0, 1) := by decide +kernel
theorem dL_law_813 : decode cL_law 813 = .ok (.ireturn, 1) := by decide +kernel
theorem dL_law_814 : decode cL_law 814 = .ok (.aload_n 1, 1) := by decide +kernel
theorem dL_law_815 : decode cL_law 815 = .ok (.invokevirtual 113, 3) := by decide +kernel
theorem dL_law_818 : decode cL_law 818 = .ok (.aload_n 2, 1) := by decide +kernel
theorem dL_law_819 : decode cL_law 819 = .ok (.invokevirtual 116, 3) := by decide +kernel
theorem dL_law_822 : decode cL_law 822 = .ok (.if_icmp .eq 409, 3) := by decide +kernel
theorem dL_law_825 : decode cL_law 825 = .ok (.iconst 0, 1) := by decide +kernel
theorem dL_law_826 : decode cL_law 826 = .ok (.ireturn, 1) := by decide +kernel
theorem dL_law_827 : decode cL_law 827 = .ok (.aload_n 1, 1) := by decide +kernel
theorem dL_law_828 : decode cL_law 828 = .ok (.aload_n 0, 1) := by decide +kernel
theorem dL_law_829 : decode cL_law 829 = .ok (.iload_n 3, 1) := by decide +kernel
theorem dL_law_830 : decode cL_law 830 = .ok (.iconst 1, 1) := by decide +kernel
theorem dL_law_831 : decode cL_law 831 = .ok (.iadd, 1) := by decide +kernel
theorem dL_law_832 : decode cL_law 832 = .ok (.iaload, 1) := by decide +kernel
theorem dL_law_833 : decode cL_law 833 = .ok (.invokevirtual 117, 3) := by decide +kernel
theorem dL_law_836 : decode cL_law 836 = .ok (.aload_n 2, 1) := by decide +kernel
theorem dL_law_837 : decode cL_law 837 = .ok (.aload_n 0, 1) := by decide +kernel
theorem dL_law_838 : decode cL_law 838 = .ok (.iload_n 3, 1) := by decide +kernel
theorem dL_law_839 : decode cL_law 839 = .ok (.iconst 1, 1) := by decide +kernel
theorem dL_law_840 : decode cL_law 840 = .ok (.iadd, 1) := by decide +kernel
theorem dL_law_841 : decode cL_law 841 = .ok (.iaload, 1) := by decide +kernel
theorem dL_law_842 : decode cL_law 842 = .ok (.invokevirtual 120, 3) := by decide +kernel
theorem dL_law_845 : decode cL_law 845 = .ok (.if_icmp .eq 386, 3) := by decide +kernel
theorem dL_law_848 : decode cL_law 848 = .ok (.iconst 0, 1) := by decide +kernel
theorem dL_law_849 : decode cL_law 849 = .ok (.ireturn, 1) := by decide +kernel
theorem dL_law_850 : decode cL_law 850 = .ok (.aload_n 1, 1) := by decide +kernel
theorem dL_law_851 : decode cL_law 851 = .ok (.aload_n 0, 1) := by decide +kernel
theorem dL_law_852 : decode cL_law 852 = .ok (.iload_n 3, 1) := by decide +kernel
theorem dL_law_853 : decode cL_law 853 = .ok (.iconst 1, 1) := by decide +kernel
theorem dL_law_854 : decode cL_law 854 = .ok (.iadd, 1) := by decide +kernel
theorem dL_law_855 : decode cL_law 855 = .ok (.iaload, 1) := by decide +kernel
theorem dL_law_856 : decode cL_law 856 = .ok (.aload_n 0, 1) := by decide +kernel
theorem dL_law_857 : decode cL_law 857 = .ok (.iload_n 3, 1) := by decide +kernel
theorem dL_law_858 : decode cL_law 858 = .ok (.iconst 2, 1) := by decide +kernel
theorem dL_law_859 : decode cL_law 859 = .ok (.iadd, 1) := by decide +kernel
theorem dL_law_860 : decode cL_law 860 = .ok (.iaload, 1) := by decide +kernel
theorem dL_law_861 : decode cL_law 861 = .ok (.invokevirtual 121, 3) := by decide +kernel
theorem dL_law_864 : decode cL_law 864 = .ok (.aload_n 2, 1) := by decide +kernel
theorem dL_law_865 : decode cL_law 865 = .ok (.aload_n 0, 1) := by decide +kernel
theorem dL_law_866 : decode cL_law 866 = .ok (.iload_n 3, 1) := by decide +kernel
theorem dL_law_867 : decode cL_law 867 = .ok (.iconst 1, 1) := by decide +kernel
theorem dL_law_868 : decode cL_law 868 = .ok (.iadd, 1) := by decide +kernel
theorem dL_law_869 : decode cL_law 869 = .ok (.iaload, 1) := by decide +kernel
theorem dL_law_870 : decode cL_law 870 = .ok (.aload_n 0, 1) := by decide +kernel
theorem dL_law_871 : decode cL_law 871 = .ok (.iload_n 3, 1) := by decide +kernel
theorem dL_law_872 : decode cL_law 872 = .ok (.iconst 2, 1) := by decide +kernel
theorem dL_law_873 : decode cL_law 873 = .ok (.iadd, 1) := by decide +kernel
theorem dL_law_874 : decode cL_law 874 = .ok (.iaload, 1) := by decide +kernel
theorem dL_law_875 : decode cL_law 875 = .ok (.invokevirtual 124, 3) := by decide +kernel
theorem dL_law_878 : decode cL_law 878 = .ok (.if_icmp .eq 353, 3) := by decide +kernel
theorem dL_law_881 : decode cL_law 881 = .ok (.iconst 0, 1) := by decide +kernel
theorem dL_law_882 : decode cL_law 882 = .ok (.ireturn, 1) := by decide +kernel
theorem dL_law_883 : decode cL_law 883 = .ok (.aload_n 1, 1) := by decide +kernel
theorem dL_law_884 : decode cL_law 884 = .ok (.aload_n 0, 1) := by decide +kernel
theorem dL_law_885 : decode cL_law 885 = .ok (.iload_n 3, 1) := by decide +kernel
theorem dL_law_886 : decode cL_law 886 = .ok (.iconst 1, 1) := by decide +kernel
theorem dL_law_887 : decode cL_law 887 = .ok (.iadd, 1) := by decide +kernel
theorem dL_law_888 : decode cL_law 888 = .ok (.iaload, 1) := by decide +kernel
theorem dL_law_889 : decode cL_law 889 = .ok (.aload_n 0, 1) := by decide +kernel
theorem dL_law_890 : decode cL_law 890 = .ok (.iload_n 3, 1) := by decide +kernel
theorem dL_law_891 : decode cL_law 891 = .ok (.iconst 2, 1) := by decide +kernel
theorem dL_law_892 : decode cL_law 892 = .ok (.iadd, 1) := by decide +kernel
theorem dL_law_893 : decode cL_law 893 = .ok (.iaload, 1) := by decide +kernel
theorem dL_law_894 : decode cL_law 894 = .ok (.aload_n 0, 1) := by decide +kernel
theorem dL_law_895 : decode cL_law 895 = .ok (.iload_n 3, 1) := by decide +kernel
theorem dL_law_896 : decode cL_law 896 = .ok (.iconst 3, 1) := by decide +kernel
theorem dL_law_897 : decode cL_law 897 = .ok (.iadd, 1) := by decide +kernel
theorem dL_law_898 : decode cL_law 898 = .ok (.iaload, 1) := by decide +kernel
theorem dL_law_899 : decode cL_law 899 = .ok (.aload_n 0, 1) := by decide +kernel
theorem dL_law_900 : decode cL_law 900 = .ok (.iload_n 3, 1) := by decide +kernel
theorem dL_law_901 : decode cL_law 901 = .ok (.iconst 4, 1) := by decide +kernel
theorem dL_law_902 : decode cL_law 902 = .ok (.iadd, 1) := by decide +kernel
theorem dL_law_903 : decode cL_law 903 = .ok (.iaload, 1) := by decide +kernel
theorem dL_law_904 : decode cL_law 904 = .ok (.aload_n 0, 1) := by decide +kernel
theorem dL_law_905 : decode cL_law 905 = .ok (.iload_n 3, 1) := by decide +kernel
theorem dL_law_906 : decode cL_law 906 = .ok (.iconst 5, 1) := by decide +kernel
theorem dL_law_907 : decode cL_law 907 = .ok (.iadd, 1) := by decide +kernel
theorem dL_law_908 : decode cL_law 908 = .ok (.iaload, 1) := by decide +kernel
theorem dL_law_909 : decode cL_law 909 = .ok (.invokevirtual 125, 3) := by decide +kernel
theorem dL_law_912 : decode cL_law 912 = .ok (.aload_n 2, 1) := by decide +kernel
theorem dL_law_913 : decode cL_law 913 = .ok (.aload_n 0, 1) := by decide +kernel
theorem dL_law_914 : decode cL_law 914 = .ok (.iload_n 3, 1) := by decide +kernel
theorem dL_law_915 : decode cL_law 915 = .ok (.iconst 1, 1) := by decide +kernel
theorem dL_law_916 : decode cL_law 916 = .ok (.iadd, 1) := by decide +kernel
theorem dL_law_917 : decode cL_law 917 = .ok (.iaload, 1) := by decide +kernel
theorem dL_law_918 : decode cL_law 918 = .ok (.aload_n 0, 1) := by decide +kernel
theorem dL_law_919 : decode cL_law 919 = .ok (.iload_n 3, 1) := by decide +kernel
theorem dL_law_920 : decode cL_law 920 = .ok (.iconst 2, 1) := by decide +kernel
theorem dL_law_921 : decode cL_law 921 = .ok (.iadd, 1) := by decide +kernel
theorem dL_law_922 : decode cL_law 922 = .ok (.iaload, 1) := by decide +kernel
theorem dL_law_923 : decode cL_law 923 = .ok (.aload_n 0, 1) := by decide +kernel
theorem dL_law_924 : decode cL_law 924 = .ok (.iload_n 3, 1) := by decide +kernel
theorem dL_law_925 : decode cL_law 925 = .ok (.iconst 3, 1) := by decide +kernel
theorem dL_law_926 : decode cL_law 926 = .ok (.iadd, 1) := by decide +kernel
theorem dL_law_927 : decode cL_law 927 = .ok (.iaload, 1) := by decide +kernel
theorem dL_law_928 : decode cL_law 928 = .ok (.aload_n 0, 1) := by decide +kernel
theorem dL_law_929 : decode cL_law 929 = .ok (.iload_n 3, 1) := by decide +kernel
theorem dL_law_930 : decode cL_law 930 = .ok (.iconst 4, 1) := by decide +kernel
theorem dL_law_931 : decode cL_law 931 = .ok (.iadd, 1) := by decide +kernel
theorem dL_law_932 : decode cL_law 932 = .ok (.iaload, 1) := by decide +kernel
theorem dL_law_933 : decode cL_law 933 = .ok (.aload_n 0, 1) := by decide +kernel
theorem dL_law_934 : decode cL_law 934 = .ok (.iload_n 3, 1) := by decide +kernel
theorem dL_law_935 : decode cL_law 935 = .ok (.iconst 5, 1) := by decide +kernel
theorem dL_law_936 : decode cL_law 936 = .ok (.iadd, 1) := by decide +kernel
theorem dL_law_937 : decode cL_law 937 = .ok (.iaload, 1) := by decide +kernel
theorem dL_law_938 : decode cL_law 938 = .ok (.invokevirtual 129, 3) := by decide +kernel
theorem dL_law_941 : decode cL_law 941 = .ok (.lcmp, 1) := by decide +kernel
theorem dL_law_942 : decode cL_law 942 = .ok (.ifCond .eq 289, 3) := by decide +kernel
theorem dL_law_945 : decode cL_law 945 = .ok (.iconst 0, 1) := by decide +kernel
theorem dL_law_946 : decode cL_law 946 = .ok (.ireturn, 1) := by decide +kernel
theorem dL_law_947 : decode cL_law 947 = .ok (.aload_n 1, 1) := by decide +kernel
theorem dL_law_948 : decode cL_law 948 = .ok (.invokevirtual 130, 3) := by decide +kernel
theorem dL_law_951 : decode cL_law 951 = .ok (.aload_n 2, 1) := by decide +kernel
theorem dL_law_952 : decode cL_law 952 = .ok (.invokevirtual 133, 3) := by decide +kernel
theorem dL_law_955 : decode cL_law 955 = .ok (.if_icmp .eq 276, 3) := by decide +kernel
theorem dL_law_958 : decode cL_law 958 = .ok (.iconst 0, 1) := by decide +kernel
theorem dL_law_959 : decode cL_law 959 = .ok (.ireturn, 1) := by decide +kernel
theorem dL_law_960 : decode cL_law 960 = .ok (.aload_n 1, 1) := by decide +kernel
theorem dL_law_961 : decode cL_law 961 = .ok (.invokevirtual 134, 3) := by decide +kernel
theorem dL_law_964 : decode cL_law 964 = .ok (.aload_n 2, 1) := by decide +kernel
theorem dL_law_965 : decode cL_law 965 = .ok (.invokevirtual 137, 3) := by decide +kernel
theorem dL_law_968 : decode cL_law 968 = .ok (.if_icmp .eq 263, 3) := by decide +kernel
theorem dL_law_971 : decode cL_law 971 = .ok (.iconst 0, 1) := by decide +kernel
theorem dL_law_972 : decode cL_law 972 = .ok (.ireturn, 1) := by decide +kernel
theorem dL_law_973 : decode cL_law 973 = .ok (.aload_n 1, 1) := by decide +kernel
theorem dL_law_974 : decode cL_law 974 = .ok (.aload_n 0, 1) := by decide +kernel
theorem dL_law_975 : decode cL_law 975 = .ok (.iload_n 3, 1) := by decide +kernel
theorem dL_law_976 : decode cL_law 976 = .ok (.iconst 1, 1) := by decide +kernel
theorem dL_law_977 : decode cL_law 977 = .ok (.iadd, 1) := by decide +kernel
theorem dL_law_978 : decode cL_law 978 = .ok (.iaload, 1) := by decide +kernel
theorem dL_law_979 : decode cL_law 979 = .ok (.invokevirtual 138, 3) := by decide +kernel
theorem dL_law_982 : decode cL_law 982 = .ok (.aload_n 2, 1) := by decide +kernel
theorem dL_law_983 : decode cL_law 983 = .ok (.aload_n 0, 1) := by decide +kernel
theorem dL_law_984 : decode cL_law 984 = .ok (.iload_n 3, 1) := by decide +kernel
theorem dL_law_985 : decode cL_law 985 = .ok (.iconst 1, 1) := by decide +kernel
theorem dL_law_986 : decode cL_law 986 = .ok (.iadd, 1) := by decide +kernel
theorem dL_law_987 : decode cL_law 987 = .ok (.iaload, 1) := by decide +kernel
theorem dL_law_988 : decode cL_law 988 = .ok (.invokevirtual 141, 3) := by decide +kernel
theorem dL_law_991 : decode cL_law 991 = .ok (.if_icmp .eq 240, 3) := by decide +kernel
theorem dL_law_994 : decode cL_law 994 = .ok (.iconst 0, 1) := by decide +kernel
theorem dL_law_995 : decode cL_law 995 = .ok (.ireturn, 1) := by decide +kernel
theorem dL_law_996 : decode cL_law 996 = .ok (.aload_n 1, 1) := by decide +kernel
theorem dL_law_997 : decode cL_law 997 = .ok (.aload_n 0, 1) := by decide +kernel
theorem dL_law_998 : decode cL_law 998 = .ok (.iload_n 3, 1) := by decide +kernel
theorem dL_law_999 : decode cL_law 999 = .ok (.iconst 1, 1) := by decide +kernel
theorem dL_law_1000 : decode cL_law 1000 = .ok (.iadd, 1) := by decide +kernel
theorem dL_law_1001 : decode cL_law 1001 = .ok (.iaload, 1) := by decide +kernel
theorem dL_law_1002 : decode cL_law 1002 = .ok (.aload_n 0, 1) := by decide +kernel
theorem dL_law_1003 : decode cL_law 1003 = .ok (.iload_n 3, 1) := by decide +kernel
theorem dL_law_1004 : decode cL_law 1004 = .ok (.iconst 2, 1) := by decide +kernel
theorem dL_law_1005 : decode cL_law 1005 = .ok (.iadd, 1) := by decide +kernel
theorem dL_law_1006 : decode cL_law 1006 = .ok (.iaload, 1) := by decide +kernel
theorem dL_law_1007 : decode cL_law 1007 = .ok (.aload_n 0, 1) := by decide +kernel
theorem dL_law_1008 : decode cL_law 1008 = .ok (.iload_n 3, 1) := by decide +kernel
theorem dL_law_1009 : decode cL_law 1009 = .ok (.iconst 3, 1) := by decide +kernel
theorem dL_law_1010 : decode cL_law 1010 = .ok (.iadd, 1) := by decide +kernel
theorem dL_law_1011 : decode cL_law 1011 = .ok (.iaload, 1) := by decide +kernel
theorem dL_law_1012 : decode cL_law 1012 = .ok (.invokevirtual 142, 3) := by decide +kernel
theorem dL_law_1015 : decode cL_law 1015 = .ok (.aload_n 2, 1) := by decide +kernel
theorem dL_law_1016 : decode cL_law 1016 = .ok (.aload_n 0, 1) := by decide +kernel
theorem dL_law_1017 : decode cL_law 1017 = .ok (.iload_n 3, 1) := by decide +kernel
theorem dL_law_1018 : decode cL_law 1018 = .ok (.iconst 1, 1) := by decide +kernel
theorem dL_law_1019 : decode cL_law 1019 = .ok (.iadd, 1) := by decide +kernel
theorem dL_law_1020 : decode cL_law 1020 = .ok (.iaload, 1) := by decide +kernel
theorem dL_law_1021 : decode cL_law 1021 = .ok (.aload_n 0, 1) := by decide +kernel
theorem dL_law_1022 : decode cL_law 1022 = .ok (.iload_n 3, 1) := by decide +kernel
theorem dL_law_1023 : decode cL_law 1023 = .ok (.iconst 2, 1) := by decide +kernel
theorem dL_law_1024 : decode cL_law 1024 = .ok (.iadd, 1) := by decide +kernel
theorem dL_law_1025 : decode cL_law 1025 = .ok (.iaload, 1) := by decide +kernel
theorem dL_law_1026 : decode cL_law 1026 = .ok (.aload_n 0, 1) := by decide +kernel
theorem dL_law_1027 : decode cL_law 1027 = .ok (.iload_n 3, 1) := by decide +kernel
theorem dL_law_1028 : decode cL_law 1028 = .ok (.iconst 3, 1) := by decide +kernel
theorem dL_law_1029 : decode cL_law 1029 = .ok (.iadd, 1) := by decide +kernel
theorem dL_law_1030 : decode cL_law 1030 = .ok (.iaload, 1) := by decide +kernel
theorem dL_law_1031 : decode cL_law 1031 = .ok (.invokevirtual 145, 3) := by decide +kernel
theorem dL_law_1034 : decode cL_law 1034 = .ok (.if_icmp .eq 197, 3) := by decide +kernel
theorem dL_law_1037 : decode cL_law 1037 = .ok (.iconst 0, 1) := by decide +kernel
theorem dL_law_1038 : decode cL_law 1038 = .ok (.ireturn, 1) := by decide +kernel
theorem dL_law_1039 : decode cL_law 1039 = .ok (.aload_n 1, 1) := by decide +kernel
theorem dL_law_1040 : decode cL_law 1040 = .ok (.aload_n 0, 1) := by decide +kernel
theorem dL_law_1041 : decode cL_law 1041 = .ok (.iload_n 3, 1) := by decide +kernel
theorem dL_law_1042 : decode cL_law 1042 = .ok (.iconst 1, 1) := by decide +kernel
theorem dL_law_1043 : decode cL_law 1043 = .ok (.iadd, 1) := by decide +kernel
theorem dL_law_1044 : decode cL_law 1044 = .ok (.iaload, 1) := by decide +kernel
theorem dL_law_1045 : decode cL_law 1045 = .ok (.aload_n 0, 1) := by decide +kernel
theorem dL_law_1046 : decode cL_law 1046 = .ok (.iload_n 3, 1) := by decide +kernel
theorem dL_law_1047 : decode cL_law 1047 = .ok (.iconst 2, 1) := by decide +kernel
theorem dL_law_1048 : decode cL_law 1048 = .ok (.iadd, 1) := by decide +kernel
theorem dL_law_1049 : decode cL_law 1049 = .ok (.iaload, 1) := by decide +kernel
theorem dL_law_1050 : decode cL_law 1050 = .ok (.aload_n 0, 1) := by decide +kernel
theorem dL_law_1051 : decode cL_law 1051 = .ok (.iload_n 3, 1) := by decide +kernel
theorem dL_law_1052 : decode cL_law 1052 = .ok (.iconst 3, 1) := by decide +kernel
theorem dL_law_1053 : decode cL_law 1053 = .ok (.iadd, 1) := by decide +kernel
theorem dL_law_1054 : decode cL_law 1054 = .ok (.iaload, 1) := by decide +kernel
theorem dL_law_1055 : decode cL_law 1055 = .ok (.invokevirtual 146, 3) := by decide +kernel
theorem dL_law_1058 : decode cL_law 1058 = .ok (.aload_n 2, 1) := by decide +kernel
theorem dL_law_1059 : decode cL_law 1059 = .ok (.aload_n 0, 1) := by decide +kernel
theorem dL_law_1060 : decode cL_law 1060 = .ok (.iload_n 3, 1) := by decide +kernel
theorem dL_law_1061 : decode cL_law 1061 = .ok (.iconst 1, 1) := by decide +kernel
theorem dL_law_1062 : decode cL_law 1062 = .ok (.iadd, 1) := by decide +kernel
theorem dL_law_1063 : decode cL_law 1063 = .ok (.iaload, 1) := by decide +kernel
theorem dL_law_1064 : decode cL_law 1064 = .ok (.aload_n 0, 1) := by decide +kernel
theorem dL_law_1065 : decode cL_law 1065 = .ok (.iload_n 3, 1) := by decide +kernel
theorem dL_law_1066 : decode cL_law 1066 = .ok (.iconst 2, 1) := by decide +kernel
theorem dL_law_1067 : decode cL_law 1067 = .ok (.iadd, 1) := by decide +kernel
theorem dL_law_1068 : decode cL_law 1068 = .ok (.iaload, 1) := by decide +kernel
theorem dL_law_1069 : decode cL_law 1069 = .ok (.aload_n 0, 1) := by decide +kernel
theorem dL_law_1070 : decode cL_law 1070 = .ok (.iload_n 3, 1) := by decide +kernel
theorem dL_law_1071 : decode cL_law 1071 = .ok (.iconst 3, 1) := by decide +kernel
theorem dL_law_1072 : decode cL_law 1072 = .ok (.iadd, 1) := by decide +kernel
theorem dL_law_1073 : decode cL_law 1073 = .ok (.iaload, 1) := by decide +kernel
theorem dL_law_1074 : decode cL_law 1074 = .ok (.invokevirtual 149, 3) := by decide +kernel
theorem dL_law_1077 : decode cL_law 1077 = .ok (.if_icmp .eq 154, 3) := by decide +kernel
theorem dL_law_1080 : decode cL_law 1080 = .ok (.iconst 0, 1) := by decide +kernel
theorem dL_law_1081 : decode cL_law 1081 = .ok (.ireturn, 1) := by decide +kernel
theorem dL_law_1082 : decode cL_law 1082 = .ok (.aload_n 1, 1) := by decide +kernel
theorem dL_law_1083 : decode cL_law 1083 = .ok (.aload_n 0, 1) := by decide +kernel
theorem dL_law_1084 : decode cL_law 1084 = .ok (.iload_n 3, 1) := by decide +kernel
theorem dL_law_1085 : decode cL_law 1085 = .ok (.iconst 1, 1) := by decide +kernel
theorem dL_law_1086 : decode cL_law 1086 = .ok (.iadd, 1) := by decide +kernel
theorem dL_law_1087 : decode cL_law 1087 = .ok (.iaload, 1) := by decide +kernel
theorem dL_law_1088 : decode cL_law 1088 = .ok (.aload_n 0, 1) := by decide +kernel
theorem dL_law_1089 : decode cL_law 1089 = .ok (.iload_n 3, 1) := by decide +kernel
theorem dL_law_1090 : decode cL_law 1090 = .ok (.iconst 2, 1) := by decide +kernel
theorem dL_law_1091 : decode cL_law 1091 = .ok (.iadd, 1) := by decide +kernel
theorem dL_law_1092 : decode cL_law 1092 = .ok (.iaload, 1) := by decide +kernel
theorem dL_law_1093 : decode cL_law 1093 = .ok (.aload_n 0, 1) := by decide +kernel
theorem dL_law_1094 : decode cL_law 1094 = .ok (.iload_n 3, 1) := by decide +kernel
theorem dL_law_1095 : decode cL_law 1095 = .ok (.iconst 3, 1) := by decide +kernel
theorem dL_law_1096 : decode cL_law 1096 = .ok (.iadd, 1) := by decide +kernel
theorem dL_law_1097 : decode cL_law 1097 = .ok (.iaload, 1) := by decide +kernel
theorem dL_law_1098 : decode cL_law 1098 = .ok (.aload_n 0, 1) := by decide +kernel
theorem dL_law_1099 : decode cL_law 1099 = .ok (.iload_n 3, 1) := by decide +kernel
theorem dL_law_1100 : decode cL_law 1100 = .ok (.iconst 4, 1) := by decide +kernel
theorem dL_law_1101 : decode cL_law 1101 = .ok (.iadd, 1) := by decide +kernel
theorem dL_law_1102 : decode cL_law 1102 = .ok (.iaload, 1) := by decide +kernel
theorem dL_law_1103 : decode cL_law 1103 = .ok (.aload_n 0, 1) := by decide +kernel
theorem dL_law_1104 : decode cL_law 1104 = .ok (.iload_n 3, 1) := by decide +kernel
theorem dL_law_1105 : decode cL_law 1105 = .ok (.iconst 5, 1) := by decide +kernel
theorem dL_law_1106 : decode cL_law 1106 = .ok (.iadd, 1) := by decide +kernel
theorem dL_law_1107 : decode cL_law 1107 = .ok (.iaload, 1) := by decide +kernel
theorem dL_law_1108 : decode cL_law 1108 = .ok (.invokevirtual 150, 3) := by decide +kernel
theorem dL_law_1111 : decode cL_law 1111 = .ok (.aload_n 2, 1) := by decide +kernel
theorem dL_law_1112 : decode cL_law 1112 = .ok (.aload_n 0, 1) := by decide +kernel
theorem dL_law_1113 : decode cL_law 1113 = .ok (.iload_n 3, 1) := by decide +kernel
theorem dL_law_1114 : decode cL_law 1114 = .ok (.iconst 1, 1) := by decide +kernel
theorem dL_law_1115 : decode cL_law 1115 = .ok (.iadd, 1) := by decide +kernel
theorem dL_law_1116 : decode cL_law 1116 = .ok (.iaload, 1) := by decide +kernel
theorem dL_law_1117 : decode cL_law 1117 = .ok (.aload_n 0, 1) := by decide +kernel
theorem dL_law_1118 : decode cL_law 1118 = .ok (.iload_n 3, 1) := by decide +kernel
theorem dL_law_1119 : decode cL_law 1119 = .ok (.iconst 2, 1) := by decide +kernel
theorem dL_law_1120 : decode cL_law 1120 = .ok (.iadd, 1) := by decide +kernel
theorem dL_law_1121 : decode cL_law 1121 = .ok (.iaload, 1) := by decide +kernel
theorem dL_law_1122 : decode cL_law 1122 = .ok (.aload_n 0, 1) := by decide +kernel
theorem dL_law_1123 : decode cL_law 1123 = .ok (.iload_n 3, 1) := by decide +kernel
theorem dL_law_1124 : decode cL_law 1124 = .ok (.iconst 3, 1) := by decide +kernel
theorem dL_law_1125 : decode cL_law 1125 = .ok (.iadd, 1) := by decide +kernel
theorem dL_law_1126 : decode cL_law 1126 = .ok (.iaload, 1) := by decide +kernel
theorem dL_law_1127 : decode cL_law 1127 = .ok (.aload_n 0, 1) := by decide +kernel
theorem dL_law_1128 : decode cL_law 1128 = .ok (.iload_n 3, 1) := by decide +kernel
theorem dL_law_1129 : decode cL_law 1129 = .ok (.iconst 4, 1) := by decide +kernel
theorem dL_law_1130 : decode cL_law 1130 = .ok (.iadd, 1) := by decide +kernel
theorem dL_law_1131 : decode cL_law 1131 = .ok (.iaload, 1) := by decide +kernel
theorem dL_law_1132 : decode cL_law 1132 = .ok (.aload_n 0, 1) := by decide +kernel
theorem dL_law_1133 : decode cL_law 1133 = .ok (.iload_n 3, 1) := by decide +kernel
theorem dL_law_1134 : decode cL_law 1134 = .ok (.iconst 5, 1) := by decide +kernel
theorem dL_law_1135 : decode cL_law 1135 = .ok (.iadd, 1) := by decide +kernel
theorem dL_law_1136 : decode cL_law 1136 = .ok (.iaload, 1) := by decide +kernel
theorem dL_law_1137 : decode cL_law 1137 = .ok (.invokevirtual 154, 3) := by decide +kernel
theorem dL_law_1140 : decode cL_law 1140 = .ok (.if_icmp .eq 91, 3) := by decide +kernel
theorem dL_law_1143 : decode cL_law 1143 = .ok (.iconst 0, 1) := by decide +kernel
theorem dL_law_1144 : decode cL_law 1144 = .ok (.ireturn, 1) := by decide +kernel
theorem dL_law_1145 : decode cL_law 1145 = .ok (.aload_n 1, 1) := by decide +kernel
theorem dL_law_1146 : decode cL_law 1146 = .ok (.aload_n 0, 1) := by decide +kernel
theorem dL_law_1147 : decode cL_law 1147 = .ok (.iload_n 3, 1) := by decide +kernel
theorem dL_law_1148 : decode cL_law 1148 = .ok (.iconst 1, 1) := by decide +kernel
theorem dL_law_1149 : decode cL_law 1149 = .ok (.iadd, 1) := by decide +kernel
theorem dL_law_1150 : decode cL_law 1150 = .ok (.iaload, 1) := by decide +kernel
theorem dL_law_1151 : decode cL_law 1151 = .ok (.aload_n 0, 1) := by decide +kernel
theorem dL_law_1152 : decode cL_law 1152 = .ok (.iload_n 3, 1) := by decide +kernel
theorem dL_law_1153 : decode cL_law 1153 = .ok (.iconst 2, 1) := by decide +kernel
theorem dL_law_1154 : decode cL_law 1154 = .ok (.iadd, 1) := by decide +kernel
theorem dL_law_1155 : decode cL_law 1155 = .ok (.iaload, 1) := by decide +kernel
theorem dL_law_1156 : decode cL_law 1156 = .ok (.aload_n 0, 1) := by decide +kernel
theorem dL_law_1157 : decode cL_law 1157 = .ok (.iload_n 3, 1) := by decide +kernel
theorem dL_law_1158 : decode cL_law 1158 = .ok (.iconst 3, 1) := by decide +kernel
theorem dL_law_1159 : decode cL_law 1159 = .ok (.iadd, 1) := by decide +kernel
theorem dL_law_1160 : decode cL_law 1160 = .ok (.iaload, 1) := by decide +kernel
theorem dL_law_1161 : decode cL_law 1161 = .ok (.aload_n 0, 1) := by decide +kernel
theorem dL_law_1162 : decode cL_law 1162 = .ok (.iload_n 3, 1) := by decide +kernel
theorem dL_law_1163 : decode cL_law 1163 = .ok (.iconst 4, 1) := by decide +kernel
theorem dL_law_1164 : decode cL_law 1164 = .ok (.iadd, 1) := by decide +kernel
theorem dL_law_1165 : decode cL_law 1165 = .ok (.iaload, 1) := by decide +kernel
theorem dL_law_1166 : decode cL_law 1166 = .ok (.invokevirtual 155, 3) := by decide +kernel
theorem dL_law_1169 : decode cL_law 1169 = .ok (.aload_n 2, 1) := by decide +kernel
theorem dL_law_1170 : decode cL_law 1170 = .ok (.aload_n 0, 1) := by decide +kernel
theorem dL_law_1171 : decode cL_law 1171 = .ok (.iload_n 3, 1) := by decide +kernel
theorem dL_law_1172 : decode cL_law 1172 = .ok (.iconst 1, 1) := by decide +kernel
theorem dL_law_1173 : decode cL_law 1173 = .ok (.iadd, 1) := by decide +kernel
theorem dL_law_1174 : decode cL_law 1174 = .ok (.iaload, 1) := by decide +kernel
theorem dL_law_1175 : decode cL_law 1175 = .ok (.aload_n 0, 1) := by decide +kernel
theorem dL_law_1176 : decode cL_law 1176 = .ok (.iload_n 3, 1) := by decide +kernel
theorem dL_law_1177 : decode cL_law 1177 = .ok (.iconst 2, 1) := by decide +kernel
theorem dL_law_1178 : decode cL_law 1178 = .ok (.iadd, 1) := by decide +kernel
theorem dL_law_1179 : decode cL_law 1179 = .ok (.iaload, 1) := by decide +kernel
theorem dL_law_1180 : decode cL_law 1180 = .ok (.aload_n 0, 1) := by decide +kernel
theorem dL_law_1181 : decode cL_law 1181 = .ok (.iload_n 3, 1) := by decide +kernel
theorem dL_law_1182 : decode cL_law 1182 = .ok (.iconst 3, 1) := by decide +kernel
theorem dL_law_1183 : decode cL_law 1183 = .ok (.iadd, 1) := by decide +kernel
theorem dL_law_1184 : decode cL_law 1184 = .ok (.iaload, 1) := by decide +kernel
theorem dL_law_1185 : decode cL_law 1185 = .ok (.aload_n 0, 1) := by decide +kernel
theorem dL_law_1186 : decode cL_law 1186 = .ok (.iload_n 3, 1) := by decide +kernel
theorem dL_law_1187 : decode cL_law 1187 = .ok (.iconst 4, 1) := by decide +kernel
theorem dL_law_1188 : decode cL_law 1188 = .ok (.iadd, 1) := by decide +kernel
theorem dL_law_1189 : decode cL_law 1189 = .ok (.iaload, 1) := by decide +kernel
theorem dL_law_1190 : decode cL_law 1190 = .ok (.invokevirtual 159, 3) := by decide +kernel
theorem dL_law_1193 : decode cL_law 1193 = .ok (.if_icmp .eq 38, 3) := by decide +kernel
theorem dL_law_1196 : decode cL_law 1196 = .ok (.iconst 0, 1) := by decide +kernel
theorem dL_law_1197 : decode cL_law 1197 = .ok (.ireturn, 1) := by decide +kernel
theorem dL_law_1198 : decode cL_law 1198 = .ok (.aload_n 1, 1) := by decide +kernel
theorem dL_law_1199 : decode cL_law 1199 = .ok (.aload_n 0, 1) := by decide +kernel
theorem dL_law_1200 : decode cL_law 1200 = .ok (.iload_n 3, 1) := by decide +kernel
theorem dL_law_1201 : decode cL_law 1201 = .ok (.iconst 1, 1) := by decide +kernel
theorem dL_law_1202 : decode cL_law 1202 = .ok (.iadd, 1) := by decide +kernel
theorem dL_law_1203 : decode cL_law 1203 = .ok (.iaload, 1) := by decide +kernel
theorem dL_law_1204 : decode cL_law 1204 = .ok (.aload_n 0, 1) := by decide +kernel
theorem dL_law_1205 : decode cL_law 1205 = .ok (.iload_n 3, 1) := by decide +kernel
theorem dL_law_1206 : decode cL_law 1206 = .ok (.iconst 2, 1) := by decide +kernel
theorem dL_law_1207 : decode cL_law 1207 = .ok (.iadd, 1) := by decide +kernel
theorem dL_law_1208 : decode cL_law 1208 = .ok (.iaload, 1) := by decide +kernel
theorem dL_law_1209 : decode cL_law 1209 = .ok (.invokevirtual 160, 3) := by decide +kernel
theorem dL_law_1212 : decode cL_law 1212 = .ok (.aload_n 2, 1) := by decide +kernel
theorem dL_law_1213 : decode cL_law 1213 = .ok (.aload_n 0, 1) := by decide +kernel
theorem dL_law_1214 : decode cL_law 1214 = .ok (.iload_n 3, 1) := by decide +kernel
theorem dL_law_1215 : decode cL_law 1215 = .ok (.iconst 1, 1) := by decide +kernel
theorem dL_law_1216 : decode cL_law 1216 = .ok (.iadd, 1) := by decide +kernel
theorem dL_law_1217 : decode cL_law 1217 = .ok (.iaload, 1) := by decide +kernel
theorem dL_law_1218 : decode cL_law 1218 = .ok (.aload_n 0, 1) := by decide +kernel
theorem dL_law_1219 : decode cL_law 1219 = .ok (.iload_n 3, 1) := by decide +kernel
theorem dL_law_1220 : decode cL_law 1220 = .ok (.iconst 2, 1) := by decide +kernel
theorem dL_law_1221 : decode cL_law 1221 = .ok (.iadd, 1) := by decide +kernel
theorem dL_law_1222 : decode cL_law 1222 = .ok (.iaload, 1) := by decide +kernel
theorem dL_law_1223 : decode cL_law 1223 = .ok (.invokevirtual 163, 3) := by decide +kernel
theorem dL_law_1226 : decode cL_law 1226 = .ok (.if_icmp .eq 5, 3) := by decide +kernel
theorem dL_law_1229 : decode cL_law 1229 = .ok (.iconst 0, 1) := by decide +kernel
theorem dL_law_1230 : decode cL_law 1230 = .ok (.ireturn, 1) := by decide +kernel
theorem dL_law_1231 : decode cL_law 1231 = .ok (.iinc 3 6, 3) := by decide +kernel
theorem dL_law_1234 : decode cL_law 1234 = .ok (.goto (-1216), 3) := by decide +kernel
theorem dL_law_1237 : decode cL_law 1237 = .ok (.iconst 1, 1) := by decide +kernel
theorem dL_law_1238 : decode cL_law 1238 = .ok (.ireturn, 1) := by decide +kernel
end
section
abbrev vwCl : List vw_C := [(RX0, TX0, 6), (RX1, TX1, 8), (RX2, TX2, 7), (RX3, TX3, 6), (RX4, TX4, 3), (RX5, TX5, 5), (RX7, TX7, 14), (RX8, TX8, 56)]
def gw : List Cond := lw_tbl.filter goodWord
theorem gw_at {i : Nat} {w : Cond} (h : lw_tbl[i]? = some w) (hg : goodWord w = true) : w ∈ gw := List.mem_filter.mpr ⟨List.mem_of_getElem? h, hg⟩
abbrev GE : Type := Launch × va_G × (Nat → ClassId) × Nat × (State → Heap → Prop)
abbrev GM : Type := MethodName × ByteArray × Nat × Option FieldType
def g_tys (E : GE) : List (ClassId × FieldType) := [(E.2.2.1 0, .int), (E.2.2.1 1, .boolean), (E.2.2.1 2, .object "DogsOnLeads$Sheet"), (E.2.2.1 3, .object "DogsOnLeads$Text")]
def g_rm (d mc ms : Nat) : Room := { frames := d, cells := mc, slots := ms, locals := 48 * d }
def g_wd (M : GM) : List Cond := Cond.code M.1 M.2.1 M.2.2.1 M.2.2.2 :: gw
def g_loc (ls0 : Array Slot) (n : Nat) (ls : List (Option Value)) : Prop := ls0.size = n ∧ lv_wf ls0 ∧ ∀ (i : Nat) (v : Value), ls[i]? = some (some v) → ls0[i]? = some (.val v)
def g_Q (E : GE) (A : Nat → Prop) (Q : Option Value → va_W → Prop) : Array Value → State → Outcome → State → Prop := fun _ st oc t => (∃ (v : Option Value) (w : va_W), oc = .returned v ∧ Q v w ∧ va_P E.2.1 vwCl w t.heap ∧ va_D A w) ∧ va_F A st t
def g_Pr (E : GE) (sz : Nat) (ws : va_W) (U : State) : Prop := U.heap.size = sz ∧ E.2.2.2.1 ≤ sz ∧ va_P E.2.1 vwCl ws U.heap ∧ va_K E.2.1 vwCl (g_tys E) U ∧ va_D (fun q => E.2.2.2.1 ≤ q) ws ∧ E.2.2.2.2 U U.heap
def g_C (E : GE) (M : GM) (d mc ms : Nat) (av : List Value) (ws : va_W) (Q : Option Value → va_W → Prop) : Prop := ∀ sz : Nat, Met E.1 M.1 (g_wd M) (g_rm d mc ms) (va_Pc av (g_Pr E sz ws)) (g_Q E (va_A ws sz) Q) mc ms (va_A ws sz)
/-- what is said of the statics stays, while the cells below the base stay and the tables grow warmer -/
def g_St (E : GE) : Prop := ∀ (s U : State) (H H' : Heap), s.WarmedH U.vm → (∀ q : Nat, q < E.2.2.2.1 → H'[q]? = H[q]?) → E.2.2.2.2 s H → E.2.2.2.2 U H'
def g_ctx (E : GE) (M : GM) (A : Nat → Prop) (p : Program) (s : State) (m : MethodId) (args : Array Value) (meth : Method) (c : Code) : Prop :=
  p.tables.exec = Jvm.exec ∧ c.code = M.2.1 ∧ meth.sig.returnType = M.2.2.2 ∧ meth.locks = false ∧ c.maxLocals = M.2.2.1 ∧ s.vm.findClass M.1.cls = some m.cls ∧ (∀ w ∈ g_wd M, w.before args s = true) ∧ va_K E.2.1 vwCl (g_tys E) s ∧ E.2.2.2.2 s s.heap ∧ (∀ q : Nat, A q → E.2.2.2.1 ≤ q) ∧ (∀ q : Nat, s.heap.size ≤ q → A q) ∧ E.2.2.2.1 ≤ s.heap.size ∧ meth.name = M.1.name ∧ g_St E
def G (E : GE) (M : GM) (d mc ms : Nat) (A : Nat → Prop) (Q : Option Value → va_W → Prop) (k n pc : Nat) (ls : List (Option Value)) (st : List Value) (ws : va_W) : Prop :=
  ∀ (p : Program) (e : Env) (s : State) (m : MethodId) (args : Array Value) (below : List Frame) (meth : Method) (c : Code) (H : Heap) (locs : List Loc) (ls0 : Array Slot), g_ctx E M A p s m args meth c → va_P E.2.1 vwCl ws H → va_D A ws → va_S A s.heap H locs → g_loc ls0 M.2.2.1 ls →
    W p E.1 e (g_rm d mc ms) s m args below meth c H locs k n (MQ below (g_Q E A Q) args s mc ms A) (F0 m pc ls0 st)
/-- the entry's locals -/
def g_sl : List Value → List (Option Value)
  | [] => []
  | v :: r => some v :: (if v.category = 2 then none :: g_sl r else g_sl r)
def g_la (n : Nat) (av : List Value) : List (Option Value) := g_sl av ++ List.replicate (n - (g_sl av).length) none
theorem g_sl_in : ∀ (av : List Value) (j i : Nat) (v : Value), (g_sl av)[i]? = some (some v) → (j + i, v) ∈ lv_args j av
  | [], j, i, v, h => by simp [g_sl] at h
  | u :: r, j, i, v, h => by
    rw [g_sl] at h
    cases i with
    | zero =>
      simp at h
      subst h
      exact List.mem_cons_self
    | succ i =>
      rw [List.getElem?_cons_succ] at h
      rw [lv_args]
      by_cases hc : u.category = 2
      · rw [if_pos hc] at h ⊢
        cases i with
        | zero => simp at h
        | succ i =>
          rw [List.getElem?_cons_succ] at h
          have h2 := g_sl_in r (j + 2) i v h
          rw [show j + (i + 1 + 1) = j + 2 + i by omega]
          exact List.mem_cons_of_mem _ h2
      · rw [if_neg hc] at h ⊢
        have h2 := g_sl_in r (j + 1) i v h
        rw [show j + (i + 1) = j + 1 + i by omega]
        exact List.mem_cons_of_mem _ h2
theorem g_la_in {n : Nat} {av : List Value} {i : Nat} {v : Value} (h : (g_la n av)[i]? = some (some v)) : (i, v) ∈ lv_args 0 av := by
  unfold g_la at h
  by_cases hi : i < (g_sl av).length
  · rw [List.getElem?_append_left hi] at h
    have := g_sl_in av 0 i v h
    rwa [Nat.zero_add] at this
  · rw [List.getElem?_append_right (by omega)] at h
    have := List.mem_of_getElem? h
    have := List.eq_of_mem_replicate this
    cases this
theorem g_wd_good {M : GM} (hc : Cond.code M.1 M.2.1 M.2.2.1 M.2.2.2 ∈ gw) : ∀ w ∈ g_wd M, w ∈ gw ∧ goodWord w = true := by
  intro w hw
  rcases List.mem_cons.mp hw with h | h
  · subst h
    exact ⟨hc, (List.mem_filter.mp hc).2⟩
  · exact ⟨h, (List.mem_filter.mp h).2⟩
set_option maxHeartbeats 4000000 in
/-- a contract out of its walk -/
theorem g_enter {E : GE} {M : GM} {d mc ms : Nat} {av : List Value} {ws : va_W} {Q : Option Value → va_W → Prop} (hst : g_St E) (hy : plainName M.1.cls = true) (ls : List (Option Value)) (hl : g_la M.2.2.1 av = ls) (hn : (lg_sl av).length ≤ M.2.2.1) (body : ∀ A, G E M d mc ms A Q 0 0 0 ls [] ws) : g_C E M d mc ms av ws Q := by
  intro sz
  refine Met.ofW (cc := M.2.1) (maxL := M.2.2.1) (ret := M.2.2.2) hy rfl ?_
  intro p e s m args below meth c s₁ B hml hv
  obtain ⟨rfl, hsz, hB, hP, hK, hD, hS⟩ := hv
  have hts := atoms_spec (ws := g_wd M) B.pre
  rw [lg_entry_eq]
  have hlv := lv_entry av (n := M.2.2.1) hn
  refine body (va_A ws sz) p e s m _ below meth c s.heap [] _ ⟨B.exec, B.bytes, B.returns, B.notSynchronized, hml, findClass_of_methodNamed B.named, hts, hK, hS, ?_, ?_, by rw [hsz]; exact hB, (name_of_methodNamed B.named B.method).1, hst⟩ hP ⟨hD.1, fun k q hk => va_A.in hk⟩ va_S.rf ⟨hlv.1, hlv.2.1, fun i v hi => ?_⟩
  · intro q hq
    rcases hq with ⟨k, e, h⟩ | h
    · exact hD.2 k _ h
    · omega
  · intro q hq
    exact Or.inr (by rw [← hsz]; exact hq)
  · rw [← hl] at hi
    exact hlv.2.2 _ (g_la_in hi)
section GR
variable {E : GE} {M : GM} {d mc ms : Nat} {A : Nat → Prop} {Q : Option Value → va_W → Prop} {k n pc : Nat} {ls : List (Option Value)} {st : List Value} {ws : va_W}
theorem g_sub {ws' : va_W} (is : List Nat) (hn : va_nd is = true) (hs : is.map (fun i => ws[i]?) = ws'.map some) (kk : G E M d mc ms A Q k n pc ls st ws') : G E M d mc ms A Q k n pc ls st ws := by
  intro p e s m args below meth c H locs ls0 hc hP hD hS hl
  refine kk p e s m args below meth c H locs ls0 hc (fun j q hq => ?_) (hD.sub is hn hs) hS hl
  have h1 : (is.map (fun i => ws[i]?))[j]? = some (some q) := by rw [hs, List.getElem?_map, hq]; rfl
  rw [List.getElem?_map] at h1
  cases hi : is[j]? with
  | none => rw [hi] at h1; cases h1
  | some i => rw [hi] at h1; exact hP i q (Option.some.inj h1)
theorem g_loose {ls' : List (Option Value)} (hs : ∀ (i : Nat) (v : Value), ls'[i]? = some (some v) → ls[i]? = some (some v)) (kk : G E M d mc ms A Q k n pc ls' st ws) : G E M d mc ms A Q k n pc ls st ws := by
  intro p e s m args below meth c H locs ls0 hc hP hD hS hl
  exact kk p e s m args below meth c H locs ls0 hc hP hD hS ⟨hl.1, hl.2.1, fun i v h => hl.2.2 i v (hs i v h)⟩
theorem g_iadd {x y : Int32} (hd : decode M.2.1 pc = .ok (.iadd, 1)) (kk : G E M d mc ms A Q k n (pc + 1) ls (.int (x + y) :: st) ws) : G E M d mc ms A Q k n pc ls (.int y :: .int x :: st) ws := by
  intro p e s m args below meth c H locs ls0 hc hP hD hS hl
  exact lv_iadd hc.1 hc.2.1 hd (kk p e s m args below meth c H locs ls0 hc hP hD hS hl)
theorem g_isub {x y : Int32} (hd : decode M.2.1 pc = .ok (.isub, 1)) (kk : G E M d mc ms A Q k n (pc + 1) ls (.int (x - y) :: st) ws) : G E M d mc ms A Q k n pc ls (.int y :: .int x :: st) ws := by
  intro p e s m args below meth c H locs ls0 hc hP hD hS hl
  exact lv_isub hc.1 hc.2.1 hd (kk p e s m args below meth c H locs ls0 hc hP hD hS hl)
theorem g_imul {x y : Int32} (hd : decode M.2.1 pc = .ok (.imul, 1)) (kk : G E M d mc ms A Q k n (pc + 1) ls (.int (x * y) :: st) ws) : G E M d mc ms A Q k n pc ls (.int y :: .int x :: st) ws := by
  intro p e s m args below meth c H locs ls0 hc hP hD hS hl
  exact lv_imul hc.1 hc.2.1 hd (kk p e s m args below meth c H locs ls0 hc hP hD hS hl)
theorem g_iand {x y : Int32} (hd : decode M.2.1 pc = .ok (.iand, 1)) (kk : G E M d mc ms A Q k n (pc + 1) ls (.int (x &&& y) :: st) ws) : G E M d mc ms A Q k n pc ls (.int y :: .int x :: st) ws := by
  intro p e s m args below meth c H locs ls0 hc hP hD hS hl
  exact lv_iand hc.1 hc.2.1 hd (kk p e s m args below meth c H locs ls0 hc hP hD hS hl)
theorem g_ior {x y : Int32} (hd : decode M.2.1 pc = .ok (.ior, 1)) (kk : G E M d mc ms A Q k n (pc + 1) ls (.int (x ||| y) :: st) ws) : G E M d mc ms A Q k n pc ls (.int y :: .int x :: st) ws := by
  intro p e s m args below meth c H locs ls0 hc hP hD hS hl
  exact lv_ior hc.1 hc.2.1 hd (kk p e s m args below meth c H locs ls0 hc hP hD hS hl)
theorem g_ixor {x y : Int32} (hd : decode M.2.1 pc = .ok (.ixor, 1)) (kk : G E M d mc ms A Q k n (pc + 1) ls (.int (x ^^^ y) :: st) ws) : G E M d mc ms A Q k n pc ls (.int y :: .int x :: st) ws := by
  intro p e s m args below meth c H locs ls0 hc hP hD hS hl
  exact lv_ixor hc.1 hc.2.1 hd (kk p e s m args below meth c H locs ls0 hc hP hD hS hl)
theorem g_idiv {x y : Int32} (hd : decode M.2.1 pc = .ok (.idiv, 1)) (h0 : ¬ y = 0) (kk : G E M d mc ms A Q k n (pc + 1) ls (.int (x / y) :: st) ws) : G E M d mc ms A Q k n pc ls (.int y :: .int x :: st) ws := by
  intro p e s m args below meth c H locs ls0 hc hP hD hS hl
  exact lv_idiv hc.1 hc.2.1 hd h0 (kk p e s m args below meth c H locs ls0 hc hP hD hS hl)
theorem g_irem {x y : Int32} (hd : decode M.2.1 pc = .ok (.irem, 1)) (h0 : ¬ y = 0) (kk : G E M d mc ms A Q k n (pc + 1) ls (.int (x - x / y * y) :: st) ws) : G E M d mc ms A Q k n pc ls (.int y :: .int x :: st) ws := by
  intro p e s m args below meth c H locs ls0 hc hP hD hS hl
  exact lv_irem hc.1 hc.2.1 hd h0 (kk p e s m args below meth c H locs ls0 hc hP hD hS hl)
theorem g_ishl {x y : Int32} (hd : decode M.2.1 pc = .ok (.ishl, 1)) (kk : G E M d mc ms A Q k n (pc + 1) ls (.int (x <<< (y &&& 31)) :: st) ws) : G E M d mc ms A Q k n pc ls (.int y :: .int x :: st) ws := by
  intro p e s m args below meth c H locs ls0 hc hP hD hS hl
  exact lv_ishl hc.1 hc.2.1 hd (kk p e s m args below meth c H locs ls0 hc hP hD hS hl)
theorem g_ishr {x y : Int32} (hd : decode M.2.1 pc = .ok (.ishr, 1)) (kk : G E M d mc ms A Q k n (pc + 1) ls (.int (x >>> (y &&& 31)) :: st) ws) : G E M d mc ms A Q k n pc ls (.int y :: .int x :: st) ws := by
  intro p e s m args below meth c H locs ls0 hc hP hD hS hl
  exact lv_ishr hc.1 hc.2.1 hd (kk p e s m args below meth c H locs ls0 hc hP hD hS hl)
theorem g_iushr {x y : Int32} (hd : decode M.2.1 pc = .ok (.iushr, 1)) (kk : G E M d mc ms A Q k n (pc + 1) ls (.int ((x.toUInt32 >>> (y.toUInt32 &&& Int32.toUInt32 31)).toInt32) :: st) ws) : G E M d mc ms A Q k n pc ls (.int y :: .int x :: st) ws := by
  intro p e s m args below meth c H locs ls0 hc hP hD hS hl
  exact lv_iushr hc.1 hc.2.1 hd rfl (kk p e s m args below meth c H locs ls0 hc hP hD hS hl)
theorem g_ineg {x : Int32} (hd : decode M.2.1 pc = .ok (.ineg, 1)) (kk : G E M d mc ms A Q k n (pc + 1) ls (.int (-x) :: st) ws) : G E M d mc ms A Q k n pc ls (.int x :: st) ws := by
  intro p e s m args below meth c H locs ls0 hc hP hD hS hl
  exact lv_ineg hc.1 hc.2.1 hd (kk p e s m args below meth c H locs ls0 hc hP hD hS hl)
theorem g_ladd {x y : Int64} (hd : decode M.2.1 pc = .ok (.ladd, 1)) (kk : G E M d mc ms A Q k n (pc + 1) ls (.long (x + y) :: st) ws) : G E M d mc ms A Q k n pc ls (.long y :: .long x :: st) ws := by
  intro p e s m args below meth c H locs ls0 hc hP hD hS hl
  exact lv_ladd hc.1 hc.2.1 hd (kk p e s m args below meth c H locs ls0 hc hP hD hS hl)
theorem g_lsub {x y : Int64} (hd : decode M.2.1 pc = .ok (.lsub, 1)) (kk : G E M d mc ms A Q k n (pc + 1) ls (.long (x - y) :: st) ws) : G E M d mc ms A Q k n pc ls (.long y :: .long x :: st) ws := by
  intro p e s m args below meth c H locs ls0 hc hP hD hS hl
  exact lv_lsub hc.1 hc.2.1 hd (kk p e s m args below meth c H locs ls0 hc hP hD hS hl)
theorem g_lmul {x y : Int64} (hd : decode M.2.1 pc = .ok (.lmul, 1)) (kk : G E M d mc ms A Q k n (pc + 1) ls (.long (x * y) :: st) ws) : G E M d mc ms A Q k n pc ls (.long y :: .long x :: st) ws := by
  intro p e s m args below meth c H locs ls0 hc hP hD hS hl
  exact lv_lmul hc.1 hc.2.1 hd (kk p e s m args below meth c H locs ls0 hc hP hD hS hl)
theorem g_ldiv {x y : Int64} (hd : decode M.2.1 pc = .ok (.ldiv, 1)) (h0 : ¬ y = 0) (kk : G E M d mc ms A Q k n (pc + 1) ls (.long (x / y) :: st) ws) : G E M d mc ms A Q k n pc ls (.long y :: .long x :: st) ws := by
  intro p e s m args below meth c H locs ls0 hc hP hD hS hl
  exact lv_ldiv hc.1 hc.2.1 hd h0 (kk p e s m args below meth c H locs ls0 hc hP hD hS hl)
theorem g_lrem {x y : Int64} (hd : decode M.2.1 pc = .ok (.lrem, 1)) (h0 : ¬ y = 0) (kk : G E M d mc ms A Q k n (pc + 1) ls (.long (x - x / y * y) :: st) ws) : G E M d mc ms A Q k n pc ls (.long y :: .long x :: st) ws := by
  intro p e s m args below meth c H locs ls0 hc hP hD hS hl
  exact lv_lrem hc.1 hc.2.1 hd h0 (kk p e s m args below meth c H locs ls0 hc hP hD hS hl)
theorem g_lcmp {x y : Int64} (hd : decode M.2.1 pc = .ok (.lcmp, 1)) (kk : G E M d mc ms A Q k n (pc + 1) ls (.int (lg_cmp x y) :: st) ws) : G E M d mc ms A Q k n pc ls (.long y :: .long x :: st) ws := by
  intro p e s m args below meth c H locs ls0 hc hP hD hS hl
  exact W.lcmp hc.1 hc.2.1 hd (kk p e s m args below meth c H locs ls0 hc hP hD hS hl)
theorem g_i2l {x : Int32} (hd : decode M.2.1 pc = .ok (.i2l, 1)) (kk : G E M d mc ms A Q k n (pc + 1) ls (.long x.toInt64 :: st) ws) : G E M d mc ms A Q k n pc ls (.int x :: st) ws := by
  intro p e s m args below meth c H locs ls0 hc hP hD hS hl
  exact lv_i2l hc.1 hc.2.1 hd rfl (kk p e s m args below meth c H locs ls0 hc hP hD hS hl)
theorem g_l2i {x : Int64} (hd : decode M.2.1 pc = .ok (.l2i, 1)) (kk : G E M d mc ms A Q k n (pc + 1) ls (.int x.toInt32 :: st) ws) : G E M d mc ms A Q k n pc ls (.long x :: st) ws := by
  intro p e s m args below meth c H locs ls0 hc hP hD hS hl
  exact lv_l2i hc.1 hc.2.1 hd rfl (kk p e s m args below meth c H locs ls0 hc hP hD hS hl)
theorem g_i2b {x : Int32} (hd : decode M.2.1 pc = .ok (.i2b, 1)) (kk : G E M d mc ms A Q k n (pc + 1) ls (.int x.toInt8.toInt32 :: st) ws) : G E M d mc ms A Q k n pc ls (.int x :: st) ws := by
  intro p e s m args below meth c H locs ls0 hc hP hD hS hl
  exact lv_i2b hc.1 hc.2.1 hd rfl (kk p e s m args below meth c H locs ls0 hc hP hD hS hl)
theorem g_i2s {x : Int32} (hd : decode M.2.1 pc = .ok (.i2s, 1)) (kk : G E M d mc ms A Q k n (pc + 1) ls (.int x.toInt16.toInt32 :: st) ws) : G E M d mc ms A Q k n pc ls (.int x :: st) ws := by
  intro p e s m args below meth c H locs ls0 hc hP hD hS hl
  exact lv_i2s hc.1 hc.2.1 hd rfl (kk p e s m args below meth c H locs ls0 hc hP hD hS hl)
theorem g_i2c {x : Int32} (hd : decode M.2.1 pc = .ok (.i2c, 1)) (kk : G E M d mc ms A Q k n (pc + 1) ls (.int (x.toUInt32 % 65536).toInt32 :: st) ws) : G E M d mc ms A Q k n pc ls (.int x :: st) ws := by
  intro p e s m args below meth c H locs ls0 hc hP hD hS hl
  exact lv_i2c hc.1 hc.2.1 hd rfl (kk p e s m args below meth c H locs ls0 hc hP hD hS hl)
theorem g_iconst {c0 : Int} {v : Int32} (hv : Int32.ofInt c0 = v) (hd : decode M.2.1 pc = .ok (.iconst c0, 1)) (kk : G E M d mc ms A Q k n (pc + 1) ls (.int v :: st) ws) : G E M d mc ms A Q k n pc ls st ws := by
  intro p e s m args below meth c H locs ls0 hc hP hD hS hl
  exact lv_iconst hc.1 hc.2.1 hd hv (kk p e s m args below meth c H locs ls0 hc hP hD hS hl)
theorem g_bipush {c0 : Int} {v : Int32} (hv : (Int8.ofInt c0).toInt32 = v) (hd : decode M.2.1 pc = .ok (.bipush c0, 2)) (kk : G E M d mc ms A Q k n (pc + 2) ls (.int v :: st) ws) : G E M d mc ms A Q k n pc ls st ws := by
  intro p e s m args below meth c H locs ls0 hc hP hD hS hl
  exact lv_bipush hc.1 hc.2.1 hd hv (kk p e s m args below meth c H locs ls0 hc hP hD hS hl)
theorem g_sipush {c0 : Int} {v : Int32} (hv : (Int16.ofInt c0).toInt32 = v) (hd : decode M.2.1 pc = .ok (.sipush c0, 3)) (kk : G E M d mc ms A Q k n (pc + 3) ls (.int v :: st) ws) : G E M d mc ms A Q k n pc ls st ws := by
  intro p e s m args below meth c H locs ls0 hc hP hD hS hl
  exact lv_sipush hc.1 hc.2.1 hd hv (kk p e s m args below meth c H locs ls0 hc hP hD hS hl)
theorem g_lconst {c0 : Fin 2} {v : Int64} (hv : Int64.ofNat (c0 : Nat) = v) (hd : decode M.2.1 pc = .ok (.lconst c0, 1)) (kk : G E M d mc ms A Q k n (pc + 1) ls (.long v :: st) ws) : G E M d mc ms A Q k n pc ls st ws := by
  intro p e s m args below meth c H locs ls0 hc hP hD hS hl
  exact lv_lconst hc.1 hc.2.1 hd hv (kk p e s m args below meth c H locs ls0 hc hP hD hS hl)
theorem g_ldc {idx : Nat} {v : Int32} (hw : Cond.constant M.1.cls idx v ∈ gw) (hd : decode M.2.1 pc = .ok (.ldc idx, 2)) (kk : G E M d mc ms A Q k n (pc + 2) ls (.int v :: st) ws) : G E M d mc ms A Q k n pc ls st ws := by
  intro p e s m args below meth c H locs ls0 hc hP hD hS hl
  exact lv_ldc hc.1 hc.2.1 hc.2.2.2.2.2.1 (hc.2.2.2.2.2.2.1 _ (List.mem_cons_of_mem _ hw)) hd (kk p e s m args below meth c H locs ls0 hc hP hD hS hl)
theorem g_ldc_w {idx : Nat} {v : Int32} (hw : Cond.constant M.1.cls idx v ∈ gw) (hd : decode M.2.1 pc = .ok (.ldc_w idx, 3)) (kk : G E M d mc ms A Q k n (pc + 3) ls (.int v :: st) ws) : G E M d mc ms A Q k n pc ls st ws := by
  intro p e s m args below meth c H locs ls0 hc hP hD hS hl
  exact lv_ldcw hc.1 hc.2.1 hc.2.2.2.2.2.1 (hc.2.2.2.2.2.2.1 _ (List.mem_cons_of_mem _ hw)) hd (kk p e s m args below meth c H locs ls0 hc hP hD hS hl)
theorem g_ldc2_w {idx : Nat} {v : Int64} (hw : Cond.constantLong M.1.cls idx v ∈ gw) (hd : decode M.2.1 pc = .ok (.ldc2_w idx, 3)) (kk : G E M d mc ms A Q k n (pc + 3) ls (.long v :: st) ws) : G E M d mc ms A Q k n pc ls st ws := by
  intro p e s m args below meth c H locs ls0 hc hP hD hS hl
  exact lv_ldc2 hc.1 hc.2.1 hc.2.2.2.2.2.1 (hc.2.2.2.2.2.2.1 _ (List.mem_cons_of_mem _ hw)) hd (kk p e s m args below meth c H locs ls0 hc hP hD hS hl)
theorem g_dup {v : Value} (hd : decode M.2.1 pc = .ok (.dup, 1)) (hv : v.category = 1) (kk : G E M d mc ms A Q k n (pc + 1) ls (v :: v :: st) ws) : G E M d mc ms A Q k n pc ls (v :: st) ws := by
  intro p e s m args below meth c H locs ls0 hc hP hD hS hl
  exact lv_dup hc.1 hc.2.1 hd hv (kk p e s m args below meth c H locs ls0 hc hP hD hS hl)
theorem g_pop {v : Value} (hd : decode M.2.1 pc = .ok (.pop, 1)) (hv : v.category = 1) (kk : G E M d mc ms A Q k n (pc + 1) ls st ws) : G E M d mc ms A Q k n pc ls (v :: st) ws := by
  intro p e s m args below meth c H locs ls0 hc hP hD hS hl
  exact lv_pop hc.1 hc.2.1 hd hv (kk p e s m args below meth c H locs ls0 hc hP hD hS hl)
theorem g_if_eq {x : Int32} {off : Int} {tgt : Nat} (hd : decode M.2.1 pc = .ok (.ifCond .eq off, 3)) (ht : (pc : Int) + off = (tgt : Int)) (kt : x.toInt = (0 : Int) → G E M d mc ms A Q k n tgt ls st ws) (kf : ¬ x.toInt = (0 : Int) → G E M d mc ms A Q k n (pc + 3) ls st ws) : G E M d mc ms A Q k n pc ls (.int x :: st) ws := by
  intro p e s m args below meth c H locs ls0 hc hP hD hS hl
  exact lv_if_eq hc.1 hc.2.1 hd ht (fun h => kt (congrArg Int32.toInt h) p e s m args below meth c H locs ls0 hc hP hD hS hl) (fun h => kf (fun q => h (Int32.toInt_inj.mp q)) p e s m args below meth c H locs ls0 hc hP hD hS hl)
theorem g_icmp_eq {x y : Int32} {off : Int} {tgt : Nat} (hd : decode M.2.1 pc = .ok (.if_icmp .eq off, 3)) (ht : (pc : Int) + off = (tgt : Int)) (kt : x.toInt = y.toInt → G E M d mc ms A Q k n tgt ls st ws) (kf : ¬ x.toInt = y.toInt → G E M d mc ms A Q k n (pc + 3) ls st ws) : G E M d mc ms A Q k n pc ls (.int y :: .int x :: st) ws := by
  intro p e s m args below meth c H locs ls0 hc hP hD hS hl
  exact lv_icmp_eq hc.1 hc.2.1 hd ht (fun h => kt (congrArg Int32.toInt h) p e s m args below meth c H locs ls0 hc hP hD hS hl) (fun h => kf (fun q => h (Int32.toInt_inj.mp q)) p e s m args below meth c H locs ls0 hc hP hD hS hl)
theorem g_if_ne {x : Int32} {off : Int} {tgt : Nat} (hd : decode M.2.1 pc = .ok (.ifCond .ne off, 3)) (ht : (pc : Int) + off = (tgt : Int)) (kt : ¬ x.toInt = (0 : Int) → G E M d mc ms A Q k n tgt ls st ws) (kf : x.toInt = (0 : Int) → G E M d mc ms A Q k n (pc + 3) ls st ws) : G E M d mc ms A Q k n pc ls (.int x :: st) ws := by
  intro p e s m args below meth c H locs ls0 hc hP hD hS hl
  exact lv_if_ne hc.1 hc.2.1 hd ht (fun h => kt (fun q => h (Int32.toInt_inj.mp q)) p e s m args below meth c H locs ls0 hc hP hD hS hl) (fun h => kf (congrArg Int32.toInt h) p e s m args below meth c H locs ls0 hc hP hD hS hl)
theorem g_icmp_ne {x y : Int32} {off : Int} {tgt : Nat} (hd : decode M.2.1 pc = .ok (.if_icmp .ne off, 3)) (ht : (pc : Int) + off = (tgt : Int)) (kt : ¬ x.toInt = y.toInt → G E M d mc ms A Q k n tgt ls st ws) (kf : x.toInt = y.toInt → G E M d mc ms A Q k n (pc + 3) ls st ws) : G E M d mc ms A Q k n pc ls (.int y :: .int x :: st) ws := by
  intro p e s m args below meth c H locs ls0 hc hP hD hS hl
  exact lv_icmp_ne hc.1 hc.2.1 hd ht (fun h => kt (fun q => h (Int32.toInt_inj.mp q)) p e s m args below meth c H locs ls0 hc hP hD hS hl) (fun h => kf (congrArg Int32.toInt h) p e s m args below meth c H locs ls0 hc hP hD hS hl)
theorem g_if_lt {x : Int32} {off : Int} {tgt : Nat} (hd : decode M.2.1 pc = .ok (.ifCond .lt off, 3)) (ht : (pc : Int) + off = (tgt : Int)) (kt : x.toInt < (0 : Int) → G E M d mc ms A Q k n tgt ls st ws) (kf : ¬ x.toInt < (0 : Int) → G E M d mc ms A Q k n (pc + 3) ls st ws) : G E M d mc ms A Q k n pc ls (.int x :: st) ws := by
  intro p e s m args below meth c H locs ls0 hc hP hD hS hl
  exact lv_if_lt hc.1 hc.2.1 hd ht (fun h => kt (Int32.lt_iff_toInt_lt.mp h) p e s m args below meth c H locs ls0 hc hP hD hS hl) (fun h => kf (fun q => h (Int32.lt_iff_toInt_lt.mpr q)) p e s m args below meth c H locs ls0 hc hP hD hS hl)
theorem g_icmp_lt {x y : Int32} {off : Int} {tgt : Nat} (hd : decode M.2.1 pc = .ok (.if_icmp .lt off, 3)) (ht : (pc : Int) + off = (tgt : Int)) (kt : x.toInt < y.toInt → G E M d mc ms A Q k n tgt ls st ws) (kf : ¬ x.toInt < y.toInt → G E M d mc ms A Q k n (pc + 3) ls st ws) : G E M d mc ms A Q k n pc ls (.int y :: .int x :: st) ws := by
  intro p e s m args below meth c H locs ls0 hc hP hD hS hl
  exact lv_icmp_lt hc.1 hc.2.1 hd ht (fun h => kt (Int32.lt_iff_toInt_lt.mp h) p e s m args below meth c H locs ls0 hc hP hD hS hl) (fun h => kf (fun q => h (Int32.lt_iff_toInt_lt.mpr q)) p e s m args below meth c H locs ls0 hc hP hD hS hl)
theorem g_if_ge {x : Int32} {off : Int} {tgt : Nat} (hd : decode M.2.1 pc = .ok (.ifCond .ge off, 3)) (ht : (pc : Int) + off = (tgt : Int)) (kt : (0 : Int) ≤ x.toInt → G E M d mc ms A Q k n tgt ls st ws) (kf : ¬ (0 : Int) ≤ x.toInt → G E M d mc ms A Q k n (pc + 3) ls st ws) : G E M d mc ms A Q k n pc ls (.int x :: st) ws := by
  intro p e s m args below meth c H locs ls0 hc hP hD hS hl
  exact lv_if_ge hc.1 hc.2.1 hd ht (fun h => kt (Int32.le_iff_toInt_le.mp h) p e s m args below meth c H locs ls0 hc hP hD hS hl) (fun h => kf (fun q => h (Int32.le_iff_toInt_le.mpr q)) p e s m args below meth c H locs ls0 hc hP hD hS hl)
theorem g_icmp_ge {x y : Int32} {off : Int} {tgt : Nat} (hd : decode M.2.1 pc = .ok (.if_icmp .ge off, 3)) (ht : (pc : Int) + off = (tgt : Int)) (kt : y.toInt ≤ x.toInt → G E M d mc ms A Q k n tgt ls st ws) (kf : ¬ y.toInt ≤ x.toInt → G E M d mc ms A Q k n (pc + 3) ls st ws) : G E M d mc ms A Q k n pc ls (.int y :: .int x :: st) ws := by
  intro p e s m args below meth c H locs ls0 hc hP hD hS hl
  exact lv_icmp_ge hc.1 hc.2.1 hd ht (fun h => kt (Int32.le_iff_toInt_le.mp h) p e s m args below meth c H locs ls0 hc hP hD hS hl) (fun h => kf (fun q => h (Int32.le_iff_toInt_le.mpr q)) p e s m args below meth c H locs ls0 hc hP hD hS hl)
theorem g_if_gt {x : Int32} {off : Int} {tgt : Nat} (hd : decode M.2.1 pc = .ok (.ifCond .gt off, 3)) (ht : (pc : Int) + off = (tgt : Int)) (kt : (0 : Int) < x.toInt → G E M d mc ms A Q k n tgt ls st ws) (kf : ¬ (0 : Int) < x.toInt → G E M d mc ms A Q k n (pc + 3) ls st ws) : G E M d mc ms A Q k n pc ls (.int x :: st) ws := by
  intro p e s m args below meth c H locs ls0 hc hP hD hS hl
  exact lv_if_gt hc.1 hc.2.1 hd ht (fun h => kt (Int32.lt_iff_toInt_lt.mp h) p e s m args below meth c H locs ls0 hc hP hD hS hl) (fun h => kf (fun q => h (Int32.lt_iff_toInt_lt.mpr q)) p e s m args below meth c H locs ls0 hc hP hD hS hl)
theorem g_icmp_gt {x y : Int32} {off : Int} {tgt : Nat} (hd : decode M.2.1 pc = .ok (.if_icmp .gt off, 3)) (ht : (pc : Int) + off = (tgt : Int)) (kt : y.toInt < x.toInt → G E M d mc ms A Q k n tgt ls st ws) (kf : ¬ y.toInt < x.toInt → G E M d mc ms A Q k n (pc + 3) ls st ws) : G E M d mc ms A Q k n pc ls (.int y :: .int x :: st) ws := by
  intro p e s m args below meth c H locs ls0 hc hP hD hS hl
  exact lv_icmp_gt hc.1 hc.2.1 hd ht (fun h => kt (Int32.lt_iff_toInt_lt.mp h) p e s m args below meth c H locs ls0 hc hP hD hS hl) (fun h => kf (fun q => h (Int32.lt_iff_toInt_lt.mpr q)) p e s m args below meth c H locs ls0 hc hP hD hS hl)
theorem g_if_le {x : Int32} {off : Int} {tgt : Nat} (hd : decode M.2.1 pc = .ok (.ifCond .le off, 3)) (ht : (pc : Int) + off = (tgt : Int)) (kt : x.toInt ≤ (0 : Int) → G E M d mc ms A Q k n tgt ls st ws) (kf : ¬ x.toInt ≤ (0 : Int) → G E M d mc ms A Q k n (pc + 3) ls st ws) : G E M d mc ms A Q k n pc ls (.int x :: st) ws := by
  intro p e s m args below meth c H locs ls0 hc hP hD hS hl
  exact lv_if_le hc.1 hc.2.1 hd ht (fun h => kt (Int32.le_iff_toInt_le.mp h) p e s m args below meth c H locs ls0 hc hP hD hS hl) (fun h => kf (fun q => h (Int32.le_iff_toInt_le.mpr q)) p e s m args below meth c H locs ls0 hc hP hD hS hl)
theorem g_icmp_le {x y : Int32} {off : Int} {tgt : Nat} (hd : decode M.2.1 pc = .ok (.if_icmp .le off, 3)) (ht : (pc : Int) + off = (tgt : Int)) (kt : x.toInt ≤ y.toInt → G E M d mc ms A Q k n tgt ls st ws) (kf : ¬ x.toInt ≤ y.toInt → G E M d mc ms A Q k n (pc + 3) ls st ws) : G E M d mc ms A Q k n pc ls (.int y :: .int x :: st) ws := by
  intro p e s m args below meth c H locs ls0 hc hP hD hS hl
  exact lv_icmp_le hc.1 hc.2.1 hd ht (fun h => kt (Int32.le_iff_toInt_le.mp h) p e s m args below meth c H locs ls0 hc hP hD hS hl) (fun h => kf (fun q => h (Int32.le_iff_toInt_le.mpr q)) p e s m args below meth c H locs ls0 hc hP hD hS hl)
theorem g_goto {off : Int} {tgt : Nat} (hd : decode M.2.1 pc = .ok (.goto off, 3)) (ht : (pc : Int) + off = (tgt : Int)) (kk : G E M d mc ms A Q k n tgt ls st ws) : G E M d mc ms A Q k n pc ls st ws := by
  intro p e s m args below meth c H locs ls0 hc hP hD hS hl
  exact lv_goto hc.1 hc.2.1 hd ht (kk p e s m args below meth c H locs ls0 hc hP hD hS hl)
theorem g_tsw_out {x : Int32} {dflt lo hi : Int} {offs : Array Int} {len tgt : Nat} (hd : decode M.2.1 pc = .ok (.tableswitch dflt lo hi offs, len)) (hx : x.toInt < lo ∨ hi < x.toInt) (ht : (pc : Int) + dflt = (tgt : Int)) (kk : G E M d mc ms A Q k n tgt ls st ws) : G E M d mc ms A Q k n pc ls (.int x :: st) ws := by
  intro p e s m args below meth c H locs ls0 hc hP hD hS hl
  exact lv_tableOut hc.1 hc.2.1 hd hx ht (kk p e s m args below meth c H locs ls0 hc hP hD hS hl)
theorem g_tsw_in {x : Int32} {dflt lo hi off : Int} {offs : Array Int} {len tgt : Nat} (j : Nat) (hd : decode M.2.1 pc = .ok (.tableswitch dflt lo hi offs, len)) (hx : x.toInt = lo + (j : Int)) (hj : lo + (j : Int) ≤ hi) (ho : offs[j]? = some off) (ht : (pc : Int) + off = (tgt : Int)) (kk : G E M d mc ms A Q k n tgt ls st ws) : G E M d mc ms A Q k n pc ls (.int x :: st) ws := by
  intro p e s m args below meth c H locs ls0 hc hP hD hS hl
  exact lv_tableIn hc.1 hc.2.1 hd (by omega) (by omega) (by rw [show (x.toInt - lo).toNat = j by omega]; exact ho) ht (kk p e s m args below meth c H locs ls0 hc hP hD hS hl)
theorem g_has {ls0 : Array Slot} {nL : Nat} (h : g_loc ls0 nL ls) : lv_has ls0 nL ((List.range ls.length).filterMap (fun i => (ls[i]?.join).map (fun v => (i, v)))) := by
  refine ⟨h.1, h.2.1, fun q hq => ?_⟩
  obtain ⟨i, hi, hv⟩ := List.mem_filterMap.mp hq
  cases hx : ls[i]? with
  | none => rw [hx] at hv; simp at hv
  | some o =>
    rw [hx] at hv
    cases o with
    | none => simp at hv
    | some v =>
      simp at hv
      subst hv
      exact h.2.2 i v hx
theorem g_has_in {i : Nat} {v : Value} (h : ls[i]? = some (some v)) : (i, v) ∈ (List.range ls.length).filterMap (fun i => (ls[i]?.join).map (fun v => (i, v))) := by
  refine List.mem_filterMap.mpr ⟨i, List.mem_range.mpr (List.getElem?_eq_some_iff.mp h).1, ?_⟩
  rw [h]; rfl
def g_c1 (o : Option Value) : Bool := match o with
  | none => true
  | some v => v.category == 1
theorem g_st1 {ls0 ls1 : Array Slot} {nL i : Nat} {v : Value} (hc1 : ∀ o, ls[i - 1]? = some o → 0 < i → g_c1 o = true)
    (h1 : lv_has ls1 nL ((i, v) :: ((List.range ls.length).filterMap (fun i => (ls[i]?.join).map (fun v => (i, v)))).filter (fun q => !(q.1 == i) && !(q.1 + 1 == i && q.2.category == 2)))) : g_loc ls1 nL (ls.set i (some v)) := by
  refine ⟨h1.1, h1.2.1, fun j u hj => ?_⟩
  by_cases hji : j = i
  · subst hji
    have hlt : j < ls.length := by
      have := (List.getElem?_eq_some_iff.mp hj).1
      simpa using this
    rw [List.getElem?_set_self hlt] at hj
    cases hj
    exact h1.2.2 _ List.mem_cons_self
  · rw [List.getElem?_set_ne (Ne.symm hji)] at hj
    refine h1.2.2 (j, u) (List.mem_cons_of_mem _ (List.mem_filter.mpr ⟨g_has_in hj, ?_⟩))
    by_cases hb : j + 1 = i
    · have h2 := hc1 (some u) (by rw [show i - 1 = j by omega]; exact hj) (by omega)
      have h3 : u.category = 1 := by simpa [g_c1] using h2
      simp [hji, h3]
    · simp [hji, hb]
theorem g_st2 {ls0 ls1 : Array Slot} {nL i : Nat} {v : Value} (hc1 : ∀ o, ls[i - 1]? = some o → 0 < i → g_c1 o = true)
    (h1 : lv_has ls1 nL ((i, v) :: ((List.range ls.length).filterMap (fun i => (ls[i]?.join).map (fun v => (i, v)))).filter (fun q => !(q.1 == i) && (!(q.1 == i + 1) && !(q.1 + 1 == i && q.2.category == 2))))) : g_loc ls1 nL ((ls.set i (some v)).set (i + 1) none) := by
  refine ⟨h1.1, h1.2.1, fun j u hj => ?_⟩
  by_cases hj1 : j = i + 1
  · subst hj1
    have hlt : i + 1 < (ls.set i (some v)).length := by
      have := (List.getElem?_eq_some_iff.mp hj).1
      simpa using this
    rw [List.getElem?_set_self hlt] at hj
    cases hj
  · rw [List.getElem?_set_ne (Ne.symm hj1)] at hj
    by_cases hji : j = i
    · subst hji
      have hlt : j < ls.length := by
        have := (List.getElem?_eq_some_iff.mp hj).1
        simpa using this
      rw [List.getElem?_set_self hlt] at hj
      cases hj
      exact h1.2.2 _ List.mem_cons_self
    · rw [List.getElem?_set_ne (Ne.symm hji)] at hj
      refine h1.2.2 (j, u) (List.mem_cons_of_mem _ (List.mem_filter.mpr ⟨g_has_in hj, ?_⟩))
      by_cases hb : j + 1 = i
      · have h2 := hc1 (some u) (by rw [show i - 1 = j by omega]; exact hj) (by omega)
        have h3 : u.category = 1 := by simpa [g_c1] using h2
        simp [hji, hj1, h3]
      · simp [hji, hj1, hb]
theorem g_iload_g {i : Nat} {x : Int32} (hd : decode M.2.1 pc = .ok (.iload i, 2)) (hi : ls[i]? = some (some (.int x))) (kk : G E M d mc ms A Q k n (pc + 2) ls (.int x :: st) ws) : G E M d mc ms A Q k n pc ls st ws := by
  intro p e s m args below meth c H locs ls0 hc hP hD hS hl
  exact lv_iload hc.1 hc.2.1 hd (hl.2.2 i _ hi) (kk p e s m args below meth c H locs ls0 hc hP hD hS hl)
theorem g_iload_ng {i : Fin 4} {x : Int32} (hd : decode M.2.1 pc = .ok (.iload_n i, 1)) (hi : ls[(i : Nat)]? = some (some (.int x))) (kk : G E M d mc ms A Q k n (pc + 1) ls (.int x :: st) ws) : G E M d mc ms A Q k n pc ls st ws := by
  intro p e s m args below meth c H locs ls0 hc hP hD hS hl
  exact lv_iload_n hc.1 hc.2.1 hd rfl (hl.2.2 _ _ hi) (kk p e s m args below meth c H locs ls0 hc hP hD hS hl)
theorem g_istore_g {i : Nat} {x : Int32} (hd : decode M.2.1 pc = .ok (.istore i, 2)) (hn : i < M.2.2.1) (hc1 : ∀ o, ls[i - 1]? = some o → 0 < i → g_c1 o = true) (kk : G E M d mc ms A Q k n (pc + 2) (ls.set i (some (.int x))) st ws) : G E M d mc ms A Q k n pc ls (.int x :: st) ws := by
  intro p e s m args below meth c H locs ls0 hc hP hD hS hl
  exact lv_istore hc.1 hc.2.1 hd (g_has hl) hn rfl (fun ls1 h1 => kk p e s m args below meth c H locs ls1 hc hP hD hS (g_st1 (ls0 := ls0) hc1 h1))
theorem g_istore_ng {i : Fin 4} {x : Int32} (hd : decode M.2.1 pc = .ok (.istore_n i, 1)) (hn : (i : Nat) < M.2.2.1) (hc1 : ∀ o, ls[(i : Nat) - 1]? = some o → 0 < (i : Nat) → g_c1 o = true) (kk : G E M d mc ms A Q k n (pc + 1) (ls.set (i : Nat) (some (.int x))) st ws) : G E M d mc ms A Q k n pc ls (.int x :: st) ws := by
  intro p e s m args below meth c H locs ls0 hc hP hD hS hl
  exact lv_istore_n hc.1 hc.2.1 hd rfl (g_has hl) hn rfl (fun ls1 h1 => kk p e s m args below meth c H locs ls1 hc hP hD hS (g_st1 (ls0 := ls0) hc1 h1))
theorem g_lload_g {i : Nat} {x : Int64} (hd : decode M.2.1 pc = .ok (.lload i, 2)) (hi : ls[i]? = some (some (.long x))) (kk : G E M d mc ms A Q k n (pc + 2) ls (.long x :: st) ws) : G E M d mc ms A Q k n pc ls st ws := by
  intro p e s m args below meth c H locs ls0 hc hP hD hS hl
  exact lv_lload hc.1 hc.2.1 hd (hl.2.2 i _ hi) (kk p e s m args below meth c H locs ls0 hc hP hD hS hl)
theorem g_lload_ng {i : Fin 4} {x : Int64} (hd : decode M.2.1 pc = .ok (.lload_n i, 1)) (hi : ls[(i : Nat)]? = some (some (.long x))) (kk : G E M d mc ms A Q k n (pc + 1) ls (.long x :: st) ws) : G E M d mc ms A Q k n pc ls st ws := by
  intro p e s m args below meth c H locs ls0 hc hP hD hS hl
  exact lv_lload_n hc.1 hc.2.1 hd rfl (hl.2.2 _ _ hi) (kk p e s m args below meth c H locs ls0 hc hP hD hS hl)
theorem g_lstore_g {i : Nat} {x : Int64} (hd : decode M.2.1 pc = .ok (.lstore i, 2)) (hn : i + 1 < M.2.2.1) (hc1 : ∀ o, ls[i - 1]? = some o → 0 < i → g_c1 o = true) (kk : G E M d mc ms A Q k n (pc + 2) ((ls.set i (some (.long x))).set (i + 1) none) st ws) : G E M d mc ms A Q k n pc ls (.long x :: st) ws := by
  intro p e s m args below meth c H locs ls0 hc hP hD hS hl
  exact lv_lstore hc.1 hc.2.1 hd (g_has hl) hn rfl (fun ls1 h1 => kk p e s m args below meth c H locs ls1 hc hP hD hS (g_st2 (ls0 := ls0) hc1 h1))
theorem g_lstore_ng {i : Fin 4} {x : Int64} (hd : decode M.2.1 pc = .ok (.lstore_n i, 1)) (hn : (i : Nat) + 1 < M.2.2.1) (hc1 : ∀ o, ls[(i : Nat) - 1]? = some o → 0 < (i : Nat) → g_c1 o = true) (kk : G E M d mc ms A Q k n (pc + 1) ((ls.set (i : Nat) (some (.long x))).set ((i : Nat) + 1) none) st ws) : G E M d mc ms A Q k n pc ls (.long x :: st) ws := by
  intro p e s m args below meth c H locs ls0 hc hP hD hS hl
  exact lv_lstore_n hc.1 hc.2.1 hd rfl (g_has hl) hn rfl (fun ls1 h1 => kk p e s m args below meth c H locs ls1 hc hP hD hS (g_st2 (ls0 := ls0) hc1 h1))
theorem g_aload_g {i : Nat} {x : Nat} (hd : decode M.2.1 pc = .ok (.aload i, 2)) (hi : ls[i]? = some (some (.ref x))) (kk : G E M d mc ms A Q k n (pc + 2) ls (.ref x :: st) ws) : G E M d mc ms A Q k n pc ls st ws := by
  intro p e s m args below meth c H locs ls0 hc hP hD hS hl
  exact lv_aload hc.1 hc.2.1 hd (hl.2.2 i _ hi) (kk p e s m args below meth c H locs ls0 hc hP hD hS hl)
theorem g_aload_ng {i : Fin 4} {x : Nat} (hd : decode M.2.1 pc = .ok (.aload_n i, 1)) (hi : ls[(i : Nat)]? = some (some (.ref x))) (kk : G E M d mc ms A Q k n (pc + 1) ls (.ref x :: st) ws) : G E M d mc ms A Q k n pc ls st ws := by
  intro p e s m args below meth c H locs ls0 hc hP hD hS hl
  exact lv_aload_n hc.1 hc.2.1 hd rfl (hl.2.2 _ _ hi) (kk p e s m args below meth c H locs ls0 hc hP hD hS hl)
theorem g_astore_g {i : Nat} {x : Nat} (hd : decode M.2.1 pc = .ok (.astore i, 2)) (hn : i < M.2.2.1) (hc1 : ∀ o, ls[i - 1]? = some o → 0 < i → g_c1 o = true) (kk : G E M d mc ms A Q k n (pc + 2) (ls.set i (some (.ref x))) st ws) : G E M d mc ms A Q k n pc ls (.ref x :: st) ws := by
  intro p e s m args below meth c H locs ls0 hc hP hD hS hl
  exact lv_astore hc.1 hc.2.1 hd (g_has hl) hn rfl (fun ls1 h1 => kk p e s m args below meth c H locs ls1 hc hP hD hS (g_st1 (ls0 := ls0) hc1 h1))
theorem g_astore_ng {i : Fin 4} {x : Nat} (hd : decode M.2.1 pc = .ok (.astore_n i, 1)) (hn : (i : Nat) < M.2.2.1) (hc1 : ∀ o, ls[(i : Nat) - 1]? = some o → 0 < (i : Nat) → g_c1 o = true) (kk : G E M d mc ms A Q k n (pc + 1) (ls.set (i : Nat) (some (.ref x))) st ws) : G E M d mc ms A Q k n pc ls (.ref x :: st) ws := by
  intro p e s m args below meth c H locs ls0 hc hP hD hS hl
  exact lv_astore_n hc.1 hc.2.1 hd rfl (g_has hl) hn rfl (fun ls1 h1 => kk p e s m args below meth c H locs ls1 hc hP hD hS (g_st1 (ls0 := ls0) hc1 h1))
theorem g_iinc_g {i : Nat} {c0 : Int} {x v : Int32} (hv : Int32.ofInt c0 = v) (hd : decode M.2.1 pc = .ok (.iinc i c0, 3)) (hn : i < M.2.2.1) (hi : ls[i]? = some (some (.int x))) (hc1 : ∀ o, ls[i - 1]? = some o → 0 < i → g_c1 o = true) (kk : G E M d mc ms A Q k n (pc + 3) (ls.set i (some (.int (x + v)))) st ws) : G E M d mc ms A Q k n pc ls st ws := by
  intro p e s m args below meth c H locs ls0 hc hP hD hS hl
  subst hv
  obtain ⟨j, hj⟩ := List.getElem?_of_mem (g_has_in hi)
  exact lv_iinc hc.1 hc.2.1 hd (g_has hl) hj rfl hn rfl (fun ls1 h1 => kk p e s m args below meth c H locs ls1 hc hP hD hS (g_st1 (ls0 := ls0) hc1 h1))
end GR
end
section
def FL (own : String) (idx ci kf : Nat) : Prop := ∃ r : vw_C, vwCl[ci]? = some r ∧ kf < r.2.2 ∧ Cond.fieldLink own idx (r.2.1 kf).1 (r.2.1 kf).2.1 (r.2.1 kf).2.2.1 ∈ gw
def FP (ci kf : Nat) (ty : FieldType) (fin : Bool) : Prop := ∃ r : vw_C, vwCl[ci]? = some r ∧ parseFieldDescriptor (r.2.1 kf).2.2.1 = some ty ∧ (r.2.1 kf).2.2.2 = fin ∧ (r.2.1 kf).1 = r.1
def FC (r : vw_C) (ty : Nat → FieldType) : Prop := (∀ k, k < r.2.2 → parseFieldDescriptor (r.2.1 k).2.2.1 = some (ty k)) ∧ (∀ a, a < r.2.2 → ∀ b, b < r.2.2 → a ≠ b → (r.2.1 a).2.1 ≠ (r.2.1 b).2.1) ∧ ∀ w ∈ u_ws r.1 r.2.1 r.2.2, w ∈ gw
theorem gu_0 : ∀ w ∈ u_ws RX0 TX0 6, w ∈ gw := by
  intro w hw
  have h : GoodIn lw_tbl (u_ws RX0 TX0 6) := goodIn_r _ [189, 191, 193, 195, 197, 199] (by decide +kernel) (by decide +kernel)
  have h1 : (u_ws RX0 TX0 6).all goodWord = true := by decide +kernel
  exact List.mem_filter.mpr ⟨(h w hw).1, List.all_eq_true.mp h1 w hw⟩
theorem gu_1 : ∀ w ∈ u_ws RX1 TX1 8, w ∈ gw := by
  intro w hw
  have h : GoodIn lw_tbl (u_ws RX1 TX1 8) := goodIn_r _ [156, 158, 160, 162, 164, 166, 168, 170] (by decide +kernel) (by decide +kernel)
  have h1 : (u_ws RX1 TX1 8).all goodWord = true := by decide +kernel
  exact List.mem_filter.mpr ⟨(h w hw).1, List.all_eq_true.mp h1 w hw⟩
theorem gu_2 : ∀ w ∈ u_ws RX2 TX2 7, w ∈ gw := by
  intro w hw
  have h : GoodIn lw_tbl (u_ws RX2 TX2 7) := goodIn_r _ [238, 240, 242, 244, 246, 248, 250] (by decide +kernel) (by decide +kernel)
  have h1 : (u_ws RX2 TX2 7).all goodWord = true := by decide +kernel
  exact List.mem_filter.mpr ⟨(h w hw).1, List.all_eq_true.mp h1 w hw⟩
theorem gu_3 : ∀ w ∈ u_ws RX3 TX3 6, w ∈ gw := by
  intro w hw
  have h : GoodIn lw_tbl (u_ws RX3 TX3 6) := goodIn_r _ [126, 128, 130, 132, 134, 136] (by decide +kernel) (by decide +kernel)
  have h1 : (u_ws RX3 TX3 6).all goodWord = true := by decide +kernel
  exact List.mem_filter.mpr ⟨(h w hw).1, List.all_eq_true.mp h1 w hw⟩
theorem gu_4 : ∀ w ∈ u_ws RX4 TX4 3, w ∈ gw := by
  intro w hw
  have h : GoodIn lw_tbl (u_ws RX4 TX4 3) := goodIn_r _ [269, 271, 273] (by decide +kernel) (by decide +kernel)
  have h1 : (u_ws RX4 TX4 3).all goodWord = true := by decide +kernel
  exact List.mem_filter.mpr ⟨(h w hw).1, List.all_eq_true.mp h1 w hw⟩
theorem gu_5 : ∀ w ∈ u_ws RX5 TX5 5, w ∈ gw := by
  intro w hw
  have h : GoodIn lw_tbl (u_ws RX5 TX5 5) := goodIn_r _ [219, 221, 223, 225, 227] (by decide +kernel) (by decide +kernel)
  have h1 : (u_ws RX5 TX5 5).all goodWord = true := by decide +kernel
  exact List.mem_filter.mpr ⟨(h w hw).1, List.all_eq_true.mp h1 w hw⟩
theorem gu_6 : ∀ w ∈ u_ws RX7 TX7 14, w ∈ gw := by
  intro w hw
  have h : GoodIn lw_tbl (u_ws RX7 TX7 14) := goodIn_r _ [504, 506, 508, 510, 512, 514, 516, 518, 520, 522, 524, 526, 528, 530] (by decide +kernel) (by decide +kernel)
  have h1 : (u_ws RX7 TX7 14).all goodWord = true := by decide +kernel
  exact List.mem_filter.mpr ⟨(h w hw).1, List.all_eq_true.mp h1 w hw⟩
theorem gu_7 : ∀ w ∈ u_ws RX8 TX8 56, w ∈ gw := by
  intro w hw
  have h : GoodIn lw_tbl (u_ws RX8 TX8 56) := goodIn_r _ [1001, 1003, 1005, 1007, 1009, 1011, 1013, 1015, 1017, 1019, 1021, 1023, 1025, 1027, 1029, 1031, 1033, 1035, 1037, 1039, 1041, 1043, 1045, 1047, 1049, 1051, 1053, 1055, 1057, 1059, 1061, 1063, 1065, 1067, 1069, 1071, 1073, 1075, 1077, 1079, 1081, 1083, 1085, 1087, 1089, 1091, 1093, 1095, 1097, 1099, 1101, 1103, 1105, 1107, 1109, 1111] (by decide +kernel) (by decide +kernel)
  have h1 : (u_ws RX8 TX8 56).all goodWord = true := by decide +kernel
  exact List.mem_filter.mpr ⟨(h w hw).1, List.all_eq_true.mp h1 w hw⟩
theorem g_cls : ∀ (ci : Nat) (r : vw_C), vwCl[ci]? = some r → ∃ ty, FC r ty := by
  intro ci r h
  match ci, h with
  | 0, h => cases h; exact ⟨tyX0, tyX0_ok, nmX0, gu_0⟩
  | 1, h => cases h; exact ⟨tyX1, tyX1_ok, nmX1, gu_1⟩
  | 2, h => cases h; exact ⟨tyX2, tyX2_ok, nmX2, gu_2⟩
  | 3, h => cases h; exact ⟨tyX3, tyX3_ok, nmX3, gu_3⟩
  | 4, h => cases h; exact ⟨tyX4, tyX4_ok, nmX4, gu_4⟩
  | 5, h => cases h; exact ⟨tyX5, tyX5_ok, nmX5, gu_5⟩
  | 6, h => cases h; exact ⟨tyX7, tyX7_ok, nmX7, gu_6⟩
  | 7, h => cases h; exact ⟨tyX8, tyX8_ok, nmX8, gu_7⟩
  | j + 8, h => simp [vwCl] at h
section GH
variable {E : GE} {M : GM} {d mc ms : Nat} {A : Nat → Prop} {Q : Option Value → va_W → Prop} {k n pc : Nat} {ls : List (Option Value)} {st : List Value} {ws : va_W}
theorem g_get {a idx ci kf : Nat} {fs : List Value} {v : Value} (hf : FL M.1.cls idx ci kf) (i : Nat) (he : ws[i]? = some (a, .inr (ci, fs))) (hv : fs[kf]? = some v) (hd : decode M.2.1 pc = .ok (.getfield idx, 3)) (kk : G E M d mc ms A Q k n (pc + 3) ls (v :: st) ws) : G E M d mc ms A Q k n pc ls (.ref a :: st) ws := by
  intro p e s m args below meth c H locs ls0 hc hP hD hS hl
  obtain ⟨⟨C, T, N⟩, h1, h2, h3⟩ := hf
  obtain ⟨ty, -, -, hin⟩ := g_cls ci _ h1
  exact va_get hc.1 hc.2.1 (Ts := g_wd M) hc.2.2.2.2.2.2.1 (fun w hw => List.mem_cons_of_mem _ (hin w hw)) hc.2.2.2.2.2.1 hc.2.2.2.2.2.2.2.1 hP i he h1 kf h2 (hc.2.2.2.2.2.2.1 _ (List.mem_cons_of_mem _ h3)) (fun _ h => h) hv hd (kk p e s m args below meth c H locs ls0 hc hP hD hS hl)
theorem g_put {a idx ci kf : Nat} {fs : List Value} {v : Value} {ty : FieldType} (hf : FL M.1.cls idx ci kf) (hp : FP ci kf ty false) (i : Nat) (he : ws[i]? = some (a, .inr (ci, fs))) (hn : narrow ty v = v) (hft : fits ty v = true) (hkl : kf < fs.length) (hd : decode M.2.1 pc = .ok (.putfield idx, 3)) (kk : G E M d mc ms A Q k n (pc + 3) ls st (ws.set i (a, .inr (ci, fs.set kf v)))) : G E M d mc ms A Q k n pc ls (v :: .ref a :: st) ws := by
  intro p e s m args below meth c H locs ls0 hc hP hD hS hl
  obtain ⟨⟨C, T, N⟩, h1, h2, h3⟩ := hf
  obtain ⟨r, h4, h5, h6, -⟩ := hp
  have hr : r = (C, T, N) := Option.some.inj (h4.symm.trans h1)
  subst hr
  obtain ⟨ty0, hty, hnm, hin⟩ := g_cls ci _ h1
  exact va_put hc.1 hc.2.1 (Ts := g_wd M) hc.2.2.2.2.2.2.1 (fun w hw => List.mem_cons_of_mem _ (hin w hw)) ty0 hty hnm hc.2.2.2.2.2.1 hc.2.2.2.2.2.2.2.1 hP hD hS i he h1 kf h2 (hc.2.2.2.2.2.2.1 _ (List.mem_cons_of_mem _ h3)) (fun _ h => h) h6 h5 hn hft hkl hd (fun H1 locs1 hP1 hD1 hS1 => kk p e s m args below meth c H1 locs1 ls0 hc hP1 hD1 hS1 hl)
theorem g_putF {a idx ci kf : Nat} {fs : List Value} {v : Value} {ty : FieldType} (hf : FL M.1.cls idx ci kf) (hp : FP ci kf ty true) (hi : M.1.name = "<init>") (hown : vwCl[ci]?.map (fun r => r.1) = some M.1.cls) (i : Nat) (he : ws[i]? = some (a, .inr (ci, fs))) (hn : narrow ty v = v) (hft : fits ty v = true) (hkl : kf < fs.length) (hd : decode M.2.1 pc = .ok (.putfield idx, 3)) (kk : G E M d mc ms A Q k n (pc + 3) ls st (ws.set i (a, .inr (ci, fs.set kf v)))) : G E M d mc ms A Q k n pc ls (v :: .ref a :: st) ws := by
  intro p e s m args below meth c H locs ls0 hc hP hD hS hl
  obtain ⟨⟨C, T, N⟩, h1, h2, h3⟩ := hf
  obtain ⟨r, h4, h5, h6, h7⟩ := hp
  have hr : r = (C, T, N) := Option.some.inj (h4.symm.trans h1)
  subst hr
  obtain ⟨ty0, hty, hnm, hin⟩ := g_cls ci _ h1
  rw [h1] at hown
  have hC : C = M.1.cls := Option.some.inj hown
  exact va_putF hc.1 hc.2.1 (Ts := g_wd M) hc.2.2.2.2.2.2.1 (fun w hw => List.mem_cons_of_mem _ (hin w hw)) ty0 hty hnm hc.2.2.2.2.2.1 hc.2.2.2.2.2.2.2.1 hP hD hS i he h1 kf h2 (hc.2.2.2.2.2.2.1 _ (List.mem_cons_of_mem _ h3)) (fun _ h => h) h6 (hc.2.2.2.2.2.2.2.2.2.2.2.2.1.trans hi) (h7.trans hC) h5 hn hft hkl hd (fun H1 locs1 hP1 hD1 hS1 => kk p e s m args below meth c H1 locs1 ls0 hc hP1 hD1 hS1 hl)
theorem g_vin {i : Int32} {m : Nat} (h : 0 ≤ i.toInt ∧ i.toInt < m) : vp_in i m := vp_in_iff.mpr h
theorem g_iaload {a m : Nat} {f : Nat → Int32} {i : Int32} (j : Nat) (he : ws[j]? = some (a, .inl (E.2.2.1 0, m, .inl f))) (hd : decode M.2.1 pc = .ok (.iaload, 1)) (hi : 0 ≤ i.toInt ∧ i.toInt < m) (kk : G E M d mc ms A Q k n (pc + 1) ls (.int (f i.toInt.toNat) :: st) ws) : G E M d mc ms A Q k n pc ls (.int i :: .ref a :: st) ws := by
  intro p e s m args below meth c H locs ls0 hc hP hD hS hl
  exact va_iald hc.1 hc.2.1 hc.2.2.2.2.2.2.2.1 hP j 0 he rfl (g_vin hi) hd (kk p e s m args below meth c H locs ls0 hc hP hD hS hl)
theorem g_iastore {a m : Nat} {f : Nat → Int32} {i x : Int32} (j : Nat) (he : ws[j]? = some (a, .inl (E.2.2.1 0, m, .inl f))) (hd : decode M.2.1 pc = .ok (.iastore, 1)) (hi : 0 ≤ i.toInt ∧ i.toInt < m) (kk : G E M d mc ms A Q k n (pc + 1) ls st (ws.set j (a, .inl (E.2.2.1 0, m, .inl (upd f i.toInt.toNat x))))) : G E M d mc ms A Q k n pc ls (.int x :: .int i :: .ref a :: st) ws := by
  intro p e s m args below meth c H locs ls0 hc hP hD hS hl
  exact va_iast hc.1 hc.2.1 hc.2.2.2.2.2.2.2.1 hP hD hS j 0 he rfl (g_vin hi) hd (fun H1 locs1 hP1 hD1 hS1 => kk p e s m args below meth c H1 locs1 ls0 hc hP1 hD1 hS1 hl)
theorem g_baload {a m : Nat} {f : Nat → Int32} {i : Int32} (j : Nat) (he : ws[j]? = some (a, .inl (E.2.2.1 1, m, .inl f))) (hd : decode M.2.1 pc = .ok (.baload, 1)) (hi : 0 ≤ i.toInt ∧ i.toInt < m) (kk : G E M d mc ms A Q k n (pc + 1) ls (.int (f i.toInt.toNat) :: st) ws) : G E M d mc ms A Q k n pc ls (.int i :: .ref a :: st) ws := by
  intro p e s m args below meth c H locs ls0 hc hP hD hS hl
  exact va_zald hc.1 hc.2.1 hc.2.2.2.2.2.2.2.1 hP j 1 he rfl (g_vin hi) hd (kk p e s m args below meth c H locs ls0 hc hP hD hS hl)
theorem g_aaload {a m : Nat} {f : Nat → Option Nat} {i : Int32} (c : Nat) (j : Nat) {S : String} (hS2 : (g_tys E)[c]? = some (E.2.2.1 c, .object S)) (he : ws[j]? = some (a, .inl (E.2.2.1 c, m, .inr (.inr (.inr (.inr f)))))) (hd : decode M.2.1 pc = .ok (.aaload, 1)) (hi : 0 ≤ i.toInt ∧ i.toInt < m) (kk : G E M d mc ms A Q k n (pc + 1) ls (va_rf (f i.toInt.toNat) :: st) ws) : G E M d mc ms A Q k n pc ls (.int i :: .ref a :: st) ws := by
  intro p e s m args below meth c1 H locs ls0 hc hP hD hS hl
  exact va_aldq hc.1 hc.2.1 hc.2.2.2.2.2.2.2.1 hP j c he hS2 (g_vin hi) hd (kk p e s m args below meth c1 H locs ls0 hc hP hD hS hl)
theorem g_alen {a : Nat} {x : vp_A} {c : Nat} {ty : FieldType} (hS2 : (g_tys E)[c]? = some (E.2.2.1 c, ty)) (j : Nat) (he : ws[j]? = some (a, .inl (E.2.2.1 c, x))) (hd : decode M.2.1 pc = .ok (.arraylength, 1)) (kk : G E M d mc ms A Q k n (pc + 1) ls (.int (nI x.1) :: st) ws) : G E M d mc ms A Q k n pc ls (.ref a :: st) ws := by
  intro p e s m args below meth c1 H locs ls0 hc hP hD hS hl
  exact va_alen hc.1 hc.2.1 hc.2.2.2.2.2.2.2.1 hP j c he hS2 rfl hd (kk p e s m args below meth c1 H locs ls0 hc hP hD hS hl)
theorem g_iret {v : Int32} (hr : M.2.2.2 = some .int) (hd : decode M.2.1 pc = .ok (.ireturn, 1)) (hk : k ≤ mc) (hn : n ≤ ms) (hq : Q (some (.int v)) ws) : G E M d mc ms A Q k n pc ls [.int v] ws := by
  intro p e s m args below meth c H locs ls0 hc hP hD hS hl
  exact W.widen hk hn (W.iret hc.1 hc.2.1 (hc.2.2.1.trans hr) (fun t ht hW => ⟨⟨_, ws, rfl, hq, by rw [ht]; exact hP, hD⟩, hS.F ht⟩) hS.2.2 hd (hlocks := hc.2.2.2.1))
theorem g_zret {v : Int32} (hr : M.2.2.2 = some .boolean) (hv : v = 0 ∨ v = 1) (hd : decode M.2.1 pc = .ok (.ireturn, 1)) (hk : k ≤ mc) (hn : n ≤ ms) (hq : Q (some (.int v)) ws) : G E M d mc ms A Q k n pc ls [.int v] ws := by
  intro p e s m args below meth c H locs ls0 hc hP hD hS hl
  exact W.widen hk hn (W.zret hc.1 hc.2.1 (hc.2.2.1.trans hr) (by rcases hv with h | h <;> subst h <;> rfl) (fun t ht hW => ⟨⟨_, ws, rfl, hq, by rw [ht]; exact hP, hD⟩, hS.F ht⟩) hS.2.2 hd (hlocks := hc.2.2.2.1))
theorem g_cret {v : Int32} (hr : M.2.2.2 = some .char) (hv : narrow .char (.int v) = .int v) (hd : decode M.2.1 pc = .ok (.ireturn, 1)) (hk : k ≤ mc) (hn : n ≤ ms) (hq : Q (some (.int v)) ws) : G E M d mc ms A Q k n pc ls [.int v] ws := by
  intro p e s m args below meth c H locs ls0 hc hP hD hS hl
  exact W.widen hk hn (W.zret hc.1 hc.2.1 (hc.2.2.1.trans hr) hv (fun t ht hW => ⟨⟨_, ws, rfl, hq, by rw [ht]; exact hP, hD⟩, hS.F ht⟩) hS.2.2 hd (hlocks := hc.2.2.2.1))
theorem g_lret {v : Int64} (hr : M.2.2.2 = some .long) (hd : decode M.2.1 pc = .ok (.lreturn, 1)) (hk : k ≤ mc) (hn : n ≤ ms) (hq : Q (some (.long v)) ws) : G E M d mc ms A Q k n pc ls [.long v] ws := by
  intro p e s m args below meth c H locs ls0 hc hP hD hS hl
  exact W.widen hk hn (W.lret hc.1 hc.2.1 (hc.2.2.1.trans hr) (fun t ht hW => ⟨⟨_, ws, rfl, hq, by rw [ht]; exact hP, hD⟩, hS.F ht⟩) hS.2.2 hd (hlocks := hc.2.2.2.1))
theorem g_vret (hr : M.2.2.2 = none) (hd : decode M.2.1 pc = .ok (.return_, 1)) (hk : k ≤ mc) (hn : n ≤ ms) (hq : Q none ws) : G E M d mc ms A Q k n pc ls [] ws := by
  intro p e s m args below meth c H locs ls0 hc hP hD hS hl
  exact W.widen hk hn (W.vret hc.1 hc.2.1 (hc.2.2.1.trans hr) (fun t ht hW => ⟨⟨_, ws, rfl, hq, by rw [ht]; exact hP, hD⟩, hS.F ht⟩) hS.2.2 hd (hlocks := hc.2.2.2.1))
theorem g_aret {v : Nat} {rt : FieldType} (hr : M.2.2.2 = some rt) (hrt : (∃ n, rt = .object n) ∨ ∃ t, rt = .array t) (hd : decode M.2.1 pc = .ok (.areturn, 1)) (hk : k ≤ mc) (hn : n ≤ ms) (hq : Q (some (.ref v)) ws) : G E M d mc ms A Q k n pc ls [.ref v] ws := by
  intro p e s m args below meth c H locs ls0 hc hP hD hS hl
  exact W.widen hk hn (W.aret hc.1 hc.2.1 (hc.2.2.1.trans hr) hrt (Or.inr ⟨_, rfl⟩) (fun t ht hW => ⟨⟨_, ws, rfl, hq, by rw [ht]; exact hP, hD⟩, hS.F ht⟩) hS.2.2 hd (hlocks := hc.2.2.2.1))
end GH
def MB (M' : GM) (np : Nat) : Prop := Cond.code M'.1 M'.2.1 M'.2.2.1 M'.2.2.2 ∈ gw ∧ Cond.initialized M'.1.cls ∈ gw ∧ M'.2.2.1 ≤ 29 ∧ (M'.1.cls ≠ "java/lang/invoke/MethodHandle" ∧ M'.1.cls ≠ "java/lang/invoke/VarHandle") ∧ (parseMethodDescriptor M'.1.desc).map (fun d => d.parameters.length) = some np
def MV (own : String) (idx : Nat) (M' : GM) (np : Nat) : Prop := MB M' np ∧ Cond.methodLink own idx M'.1 ∈ gw ∧ Cond.instanceMethod M'.1 ∈ gw ∧ Cond.selects M'.1.cls M'.1 M'.1 ∈ gw
def MS (own : String) (idx : Nat) (M' : GM) (np : Nat) : Prop := MB M' np ∧ Cond.methodLink own idx M'.1 ∈ gw ∧ Cond.static M'.1 ∈ gw
def MI (own : String) (idx : Nat) (M' : GM) (np : Nat) : Prop := MB M' np ∧ Cond.methodLink own idx M'.1 ∈ gw ∧ Cond.instanceMethod M'.1 ∈ gw ∧ M'.1.name = "<init>" ∧ M'.2.2.2 = none
/-- nest mates: the link's word isn't among the good ones, it comes with what is said of the statics -/
def MSN (E : GE) (own : String) (idx : Nat) (M' : GM) (np : Nat) : Prop := MB M' np ∧ Cond.static M'.1 ∈ gw ∧ ∃ host, ∀ (s : State) (H : Heap), E.2.2.2.2 s H → va_Nw (.methodLinkNest own idx M'.1 host) s
def MIN (E : GE) (own : String) (idx : Nat) (M' : GM) (np : Nat) : Prop := MB M' np ∧ Cond.instanceMethod M'.1 ∈ gw ∧ M'.1.name = "<init>" ∧ M'.2.2.2 = none ∧ ∃ host, ∀ (s : State) (H : Heap), E.2.2.2.2 s H → va_Nw (.methodLinkNest own idx M'.1 host) s
section GC
variable {E : GE} {M : GM} {d mc ms : Nat} {A : Nat → Prop} {Q : Option Value → va_W → Prop} {k n pc : Nat} {ls : List (Option Value)} {st : List Value} {ws : va_W}
theorem g_blind {sz : Nat} {av : List Value} (hst : g_St E) : FrameBlind (va_Pc av (g_Pr E sz ws)) := by
  intro a U g mk h
  obtain ⟨h0, h1, h2, h3, h4, h5, h6⟩ := h
  exact ⟨h0, h1, h2, h3, va_K.moved (u := U) (U := U.calling g mk a) (Vm.Alike.refl U.vm) h4, h5, hst U _ U.heap _ (State.WarmedH.refl U) (fun _ _ => rfl) h6⟩
theorem g_low {s : State} {H : Heap} {locs : List Loc} {B : Nat} (hS : va_S A s.heap H locs) (hB : B ≤ s.heap.size) (hA : ∀ q : Nat, A q → B ≤ q) : ∀ q : Nat, q < B → H[q]? = s.heap[q]? := fun q hq => hS.2.1 q (by omega) (fun h => by have := hA q h; omega)
theorem g_pre {s U : State} {H : Heap} {locs : List Loc} {p : Program} {m : MethodId} {args : Array Value} {meth : Method} {c : Code} (hc : g_ctx E M A p s m args meth c) (hP : va_P E.2.1 vwCl ws H) (hD : va_D A ws) (hS : va_S A s.heap H locs) (hU : U.heap = H) (hW : s.WarmedH U.vm) : g_Pr E H.size ws U := by
  obtain ⟨-, -, -, -, -, -, -, hK, hSt, hA, -, hB, -, hst⟩ := hc
  refine ⟨by rw [hU], Nat.le_trans hB hS.1, by rw [hU]; exact hP, va_K.moved hW.alike hK, hD.weaken (fun _ _ _ h => hA _ h), ?_⟩
  rw [hU]
  exact hst s U s.heap H hW (g_low hS hB hA) hSt
theorem g_back {mc' ms' : Nat} {b : List Value} {Q' : Option Value → va_W → Prop} {s : State} {H : Heap} {locs : List Loc} {p : Program} {e : Env} {m : MethodId} {args : Array Value} {meth : Method} {c : Code} {below : List Frame} {ls0 : Array Slot} {rest st0 : List Value}
    (hc : g_ctx E M A p s m args meth c) (hP : va_P E.2.1 vwCl ws H) (hD : va_D A ws) (hS : va_S A s.heap H locs) (hl : g_loc ls0 M.2.2.1 ls)
    (kk : ∀ (v : Option Value) (w : va_W), Q' v w → G E M (d + 1) mc ms A Q (k + mc') (n + ms') (pc + 3) ls (v.toList ++ rest) w)
    (hr : va_Run p E.1 e (g_rm (d + 1) mc ms) s m args below meth c H locs k n mc' ms' (F0 m pc ls0 st0) rest (g_Q E (va_A ws H.size) Q' b.toArray) (va_A ws H.size)) :
    W p E.1 e (g_rm (d + 1) mc ms) s m args below meth c H locs k n (MQ below (g_Q E A Q) args s mc ms A) (F0 m pc ls0 st0) := by
  have hAA : ∀ q : Nat, va_A ws H.size q → A q := by
    intro q h
    rcases h with ⟨j, x, h⟩ | h
    · exact hD.2 j _ h
    · exact hc.2.2.2.2.2.2.2.2.2.2.1 q (Nat.le_trans hS.1 h)
  intro T hT X
  obtain ⟨v, st₀, t, T', L, h0, X', hL, e1, e2, ⟨⟨v', w', hv, hq, hp, hd'⟩, hz, hk⟩, st⟩ := hr T hT X
  cases hv
  rw [h0] at hz hk
  obtain ⟨t2, a1, b1⟩ := kk v w' hq p e s m args below meth c T'.heap (locs ++ L) ls0 hc (by rw [e1]; exact hp) (hd'.weaken (fun _ _ _ h => hAA _ h))
    ⟨Nat.le_trans hS.1 (by rw [e1]; exact hz), fun q h1 h2 => by rw [e1, hk q (Nat.lt_of_lt_of_le h1 hS.1) (fun z => h2 (hAA q z))]; exact hS.2.1 q h1 h2, fun q hq => by
      rcases List.mem_append.mp hq with h | h
      · exact hS.2.2 q h
      · exact hAA _ (hL q h)⟩ hl T' rfl X'
  exact ⟨t2, st t2 a1, b1⟩
theorem g_callB {M' : GM} {np idx mc' ms' : Nat} {s : State} {args : Array Value} (hts : ∀ w ∈ g_wd M, w.before args s = true) (hm : MB M' np) (hlk : Cond.methodLink M.1.cls idx M'.1 ∈ gw) : CallB (g_rm (d + 1) mc ms) s args M.1.cls idx M'.1 M'.2.1 M'.2.2.1 M'.2.2.2 (g_wd M') (g_rm d mc' ms') mc' ms' np := by
  obtain ⟨h1, h2, h3, h4, h5⟩ := hm
  refine callB_of (Ts := g_wd M) (ws' := gw) np hts (fun w hw => ?_) rfl rfl rfl (hts _ (List.mem_cons_of_mem _ h2)) (hts _ (List.mem_cons_of_mem _ hlk)) ⟨h4.1, h4.2, h5⟩ ⟨Nat.le_refl _, ?_⟩
  · obtain ⟨q1, q2⟩ := g_wd_good h1 w hw
    exact ⟨List.mem_cons_of_mem _ q1, good_of_word q2⟩
  · show 8 + (M'.2.2.1 + 11) + 48 * d ≤ 48 * (d + 1)
    omega
theorem g_callV {M' : GM} {np idx mc' ms' b i ci : Nat} {fs As rest : List Value} {Q' : Option Value → va_W → Prop} (hd : decode M.2.1 pc = .ok (.invokevirtual idx, 3)) (hm : MV M.1.cls idx M' np) (he : ws[i]? = some (b, .inr (ci, fs))) (hci : vwCl[ci]?.map (fun r => r.1) = some M'.1.cls) (hn : As.length = np) (hr : (rest.map fun v => v.category).sum ≤ 8) (hC : g_C E M' d mc' ms' (.ref b :: As) ws Q') (hk : k + mc' ≤ mc) (hk2 : n + ms' ≤ ms)
    (kk : ∀ (v : Option Value) (w : va_W), Q' v w → G E M (d + 1) mc ms A Q (k + mc') (n + ms') (pc + 3) ls (v.toList ++ rest) w) : G E M (d + 1) mc ms A Q k n pc ls (As.reverse ++ .ref b :: rest) ws := by
  intro p e s m args below meth c H locs ls0 hc hP hD hS hl
  obtain ⟨r, hr1, hr2⟩ : ∃ r, vwCl[ci]? = some r ∧ r.1 = M'.1.cls := by
    cases hx : vwCl[ci]? with
    | none => rw [hx] at hci; cases hci
    | some r => rw [hx] at hci; exact ⟨r, rfl, Option.some.inj hci⟩
  have hrv := va_recv hc.2.2.2.2.2.2.2.1 hP hr1 he
  rw [hr2] at hrv
  exact g_back (b := .ref b :: As) hc hP hD hS hl kk (va_runV (Ts := g_wd M) (own := M.1.cls) (C := M'.1.cls) (As := As) (rest := rest) (b := b) ⟨hc.1, hc.2.1, hc.2.2.2.2.1, hc.2.2.2.2.2.1, hc.2.2.2.2.2.2.1⟩ (hC H.size) ⟨g_callB hc.2.2.2.2.2.2.1 hm.1 hm.2.1, hc.2.2.2.2.2.2.1 _ (List.mem_cons_of_mem _ hm.2.2.1), hc.2.2.2.2.2.2.1 _ (List.mem_cons_of_mem _ hm.2.2.2)⟩
    ⟨g_blind hc.2.2.2.2.2.2.2.2.2.2.2.2.2, hrv, fun U hU hW => ⟨rfl, g_pre hc hP hD hS hU hW⟩⟩ rfl hn hl.1 rfl (lv_room hr) hd ⟨hk, hk2⟩)
theorem g_callS {M' : GM} {np idx mc' ms' : Nat} {As rest : List Value} {Q' : Option Value → va_W → Prop} (hd : decode M.2.1 pc = .ok (.invokestatic idx, 3)) (hm : MS M.1.cls idx M' np) (hn : As.length = np) (hr : (rest.map fun v => v.category).sum ≤ 8) (hC : g_C E M' d mc' ms' As ws Q') (hk : k + mc' ≤ mc) (hk2 : n + ms' ≤ ms)
    (kk : ∀ (v : Option Value) (w : va_W), Q' v w → G E M (d + 1) mc ms A Q (k + mc') (n + ms') (pc + 3) ls (v.toList ++ rest) w) : G E M (d + 1) mc ms A Q k n pc ls (As.reverse ++ rest) ws := by
  intro p e s m args below meth c H locs ls0 hc hP hD hS hl
  exact g_back (b := As) hc hP hD hS hl kk (va_runS (Ts := g_wd M) (own := M.1.cls) (As := As) (rest := rest) ⟨hc.1, hc.2.1, hc.2.2.2.2.1, hc.2.2.2.2.2.1, hc.2.2.2.2.2.2.1⟩ (hC H.size) ⟨g_callB hc.2.2.2.2.2.2.1 hm.1 hm.2.1, hc.2.2.2.2.2.2.1 _ (List.mem_cons_of_mem _ hm.2.2)⟩
    ⟨g_blind hc.2.2.2.2.2.2.2.2.2.2.2.2.2, fun U hU hW => ⟨rfl, g_pre hc hP hD hS hU hW⟩⟩ rfl hn hl.1 rfl (lv_room hr) hd ⟨hk, hk2⟩)
theorem g_callCN {M' : GM} {np idx mc' ms' : Nat} {host : String} {s : State} {args : Array Value} (hts : ∀ w ∈ g_wd M, w.before args s = true) (hm : MB M' np) (hlk : va_Nw (.methodLinkNest M.1.cls idx M'.1 host) s) : va_CN (g_rm (d + 1) mc ms) s args M.1.cls idx M'.1 host M'.2.1 M'.2.2.1 M'.2.2.2 (g_wd M') (g_rm d mc' ms') mc' ms' np := by
  obtain ⟨h1, h2, h3, h4, h5⟩ := hm
  refine va_cnB (Ts := g_wd M) (ws' := gw) np hts (fun w hw => ?_) rfl rfl rfl hlk (hts _ (List.mem_cons_of_mem _ h2)) ⟨h4.1, h4.2, h5⟩ ⟨Nat.le_refl _, ?_⟩
  · obtain ⟨q1, q2⟩ := g_wd_good h1 w hw
    exact ⟨List.mem_cons_of_mem _ q1, good_of_word q2⟩
  · show 8 + (M'.2.2.1 + 11) + 48 * d ≤ 48 * (d + 1)
    omega
theorem g_callSN {M' : GM} {np idx mc' ms' : Nat} {As rest : List Value} {Q' : Option Value → va_W → Prop} (hd : decode M.2.1 pc = .ok (.invokestatic idx, 3)) (hm : MSN E M.1.cls idx M' np) (hn : As.length = np) (hr : (rest.map fun v => v.category).sum ≤ 8) (hC : g_C E M' d mc' ms' As ws Q') (hk : k + mc' ≤ mc) (hk2 : n + ms' ≤ ms)
    (kk : ∀ (v : Option Value) (w : va_W), Q' v w → G E M (d + 1) mc ms A Q (k + mc') (n + ms') (pc + 3) ls (v.toList ++ rest) w) : G E M (d + 1) mc ms A Q k n pc ls (As.reverse ++ rest) ws := by
  intro p e s m args below meth c H locs ls0 hc hP hD hS hl
  obtain ⟨hb, hs, host, hN⟩ := hm
  exact g_back (b := As) hc hP hD hS hl kk (va_runSN (Ts := g_wd M) (own := M.1.cls) (host := host) (As := As) (rest := rest) ⟨hc.1, hc.2.1, hc.2.2.2.2.1, hc.2.2.2.2.2.1, hc.2.2.2.2.2.2.1⟩ (hC H.size) ⟨g_callCN hc.2.2.2.2.2.2.1 hb (hN s s.heap hc.2.2.2.2.2.2.2.2.1), hc.2.2.2.2.2.2.1 _ (List.mem_cons_of_mem _ hs), trivial⟩
    ⟨g_blind hc.2.2.2.2.2.2.2.2.2.2.2.2.2, fun U hU hW => ⟨rfl, g_pre hc hP hD hS hU hW⟩⟩ rfl hn hl.1 rfl (lv_room hr) hd ⟨hk, hk2⟩)
end GC
/-- the frame rule: a callee's cells ahead, the rest behind, which stays -/
theorem g_frame {E : GE} {M : GM} {d mc ms : Nat} {av : List Value} {X wc Y : va_W} {Q : Option Value → va_W → Prop} (h : g_C E M d mc ms av wc Q) : g_C E M d mc ms av (X ++ (wc ++ Y)) (fun v w => ∃ w1, Q v w1 ∧ w = X ++ (w1 ++ Y)) := by
  intro sz
  have hin : ∀ (j : Nat) (q : Nat × va_E), wc[j]? = some q → (X ++ (wc ++ Y))[X.length + j]? = some q := by
    intro j q hj
    have hlt := (List.getElem?_eq_some_iff.mp hj).1
    rw [List.getElem?_append_right (by omega), show X.length + j - X.length = j by omega, List.getElem?_append_left hlt]
    exact hj
  have hsub : ∀ q : Nat, va_A wc sz q → va_A (X ++ (wc ++ Y)) sz q := by
    intro q hq
    rcases hq with ⟨j, x, hj⟩ | hq
    · exact Or.inl ⟨X.length + j, x, hin j _ hj⟩
    · exact Or.inr hq
  refine MetFree.mono (h sz) ?_ (fun _ _ _ _ _ h => h) ?_
  · intro a s hp
    obtain ⟨h0, h1, h2, h3, h4, h5, h6⟩ := hp
    refine ⟨h0, h1, h2, fun j q hj => h3 _ q (hin j q hj), h4, ⟨fun i j x y hi hj hxy => ?_, fun j q hj => h5.2 _ q (hin j q hj)⟩, h6⟩
    have := h5.1 _ _ x y (hin i x hi) (hin j y hj) hxy
    omega
  · intro a s o t hp hq
    obtain ⟨⟨⟨⟨v, w1, hv, hQ, hPw, hDw⟩, hz, hk⟩, L, hF, hL⟩⟩ := And.intro hq trivial
    obtain ⟨h0, hs, h2, h3, h4, h5, h6⟩ := hp
    have apart : ∀ (j : Nat) (q : Nat × va_E), (X ++ (wc ++ Y))[j]? = some q → (j < X.length ∨ X.length + wc.length ≤ j) → q.1 < s.heap.size ∧ ¬ va_A wc sz q.1 := by
      intro j q hj hjj
      have hl := (h3 j q hj).lt
      refine ⟨hl, fun hA => ?_⟩
      rcases hA with ⟨i, x, hi⟩ | hA
      · have := h5.1 _ _ q (q.1, x) hj (hin i _ hi) rfl
        have hlt := (List.getElem?_eq_some_iff.mp hi).1
        omega
      · omega
    have eX : ∀ (j : Nat) (q : Nat × va_E), X[j]? = some q → (X ++ (wc ++ Y))[j]? = some q ∧ j < X.length := by
      intro j q hj
      have hlt := (List.getElem?_eq_some_iff.mp hj).1
      exact ⟨by rw [List.getElem?_append_left hlt]; exact hj, hlt⟩
    have eY : ∀ (j : Nat) (q : Nat × va_E), Y[j]? = some q → (X ++ (wc ++ Y))[X.length + (wc.length + j)]? = some q := by
      intro j q hj
      rw [List.getElem?_append_right (by omega), List.getElem?_append_right (by omega), show X.length + (wc.length + j) - X.length - wc.length = j by omega]
      exact hj
    refine ⟨⟨⟨v, X ++ (w1 ++ Y), hv, ⟨w1, hQ, rfl⟩, ?_, ?_⟩, hz, fun q h7 h8 => hk q h7 (fun z => h8 (hsub q z))⟩, L, hF, fun q hq => hsub _ (hL q hq)⟩
    · refine va_P.app (fun j q hj => ?_) (va_P.app hPw (fun j q hj => ?_))
      · obtain ⟨e1, e2⟩ := eX j q hj
        obtain ⟨g1, g2⟩ := apart j q e1 (Or.inl e2)
        exact (h3 j q e1).kept (hk q.1 g1 g2)
      · have e1 := eY j q hj
        obtain ⟨g1, g2⟩ := apart _ q e1 (Or.inr (by omega))
        exact (h3 _ q e1).kept (hk q.1 g1 g2)
    · have hDX : va_D (va_A (X ++ (wc ++ Y)) sz) X := ⟨fun i j x y hi hj hxy => h5.1 i j x y (eX i x hi).1 (eX j y hj).1 hxy, fun j q hj => va_A.in (eX j q hj).1⟩
      have hDY : va_D (va_A (X ++ (wc ++ Y)) sz) Y := ⟨fun i j x y hi hj hxy => by have := h5.1 _ _ x y (eY i x hi) (eY j y hj) hxy; omega, fun j q hj => va_A.in (eY j q hj)⟩
      have hD1 : va_D (va_A (X ++ (wc ++ Y)) sz) w1 := hDw.weaken (fun _ _ _ h => hsub _ h)
      refine hDX.app (hD1.app hDY ?_) ?_
      · intro i j x y hx hy hxy
        have e1 := eY j y hy
        exact (apart _ y e1 (Or.inr (by omega))).2 (by rw [← hxy]; exact hDw.2 i x hx)
      · intro i j x y hx hy hxy
        obtain ⟨e1, e2⟩ := eX i x hx
        obtain ⟨g1, g2⟩ := apart i x e1 (Or.inl e2)
        by_cases hj : j < w1.length
        · rw [List.getElem?_append_left hj] at hy
          exact g2 (by rw [hxy]; exact hDw.2 j y hy)
        · rw [List.getElem?_append_right (by omega)] at hy
          have e3 := eY _ y hy
          have := h5.1 _ _ x y e1 e3 hxy
          omega
/-- a weaker end -/
theorem g_post {E : GE} {M : GM} {d mc ms : Nat} {av : List Value} {ws : va_W} {Q Q' : Option Value → va_W → Prop} (h : g_C E M d mc ms av ws Q) (hq : ∀ v w, Q v w → Q' v w) : g_C E M d mc ms av ws Q' := by
  intro sz
  refine MetFree.mono (h sz) (fun _ _ h => h) (fun _ _ _ _ _ h => h) ?_
  intro a s o t hp hqq
  obtain ⟨⟨⟨v, w1, hv, hQ, r⟩, hz⟩, hL⟩ := hqq
  exact ⟨⟨⟨v, w1, hv, hq v w1 hQ, r⟩, hz⟩, hL⟩
end
