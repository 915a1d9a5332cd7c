section
-- ===== PART A: goes FIRST, ahead of the names: the tables' words, and 'selects' of the private methods out of them =====
/-- a private method of a class that the tables say can be made, by its rows of tables_1 -/
def lw_okq (q : MethodName × Nat) : Prop := (q.1.cls ≠ "java/lang/invoke/MethodHandle" ∧ q.1.cls ≠ "java/lang/invoke/VarHandle") ∧ Cond.instantiable q.1.cls q.2 ∈ tables_1 ∧ Cond.privateMethod q.1 ∈ tables_1 ∧ Cond.instanceMethod q.1 ∈ tables_1
theorem lw_p0 : lw_okq (⟨"ArrayHouse", "append", "(I)V"⟩, 11) := ⟨⟨by decide +kernel, by decide +kernel⟩, List.mem_of_getElem? (i := 24) (by decide +kernel), List.mem_of_getElem? (i := 424) (by decide +kernel), List.mem_of_getElem? (i := 425) (by decide +kernel)⟩
theorem lw_p1 : lw_okq (⟨"ArrayHouse$State", "begin", "()V"⟩, 5) := ⟨⟨by decide +kernel, by decide +kernel⟩, List.mem_of_getElem? (i := 32) (by decide +kernel), List.mem_of_getElem? (i := 436) (by decide +kernel), List.mem_of_getElem? (i := 437) (by decide +kernel)⟩
theorem lw_p2 : lw_okq (⟨"ArrayHouse", "keepHouse", "()V"⟩, 11) := ⟨⟨by decide +kernel, by decide +kernel⟩, List.mem_of_getElem? (i := 24) (by decide +kernel), List.mem_of_getElem? (i := 440) (by decide +kernel), List.mem_of_getElem? (i := 441) (by decide +kernel)⟩
theorem lw_p3 : lw_okq (⟨"ArrayHouse$Places", "pack", "(II)I"⟩, 16) := ⟨⟨by decide +kernel, by decide +kernel⟩, List.mem_of_getElem? (i := 151) (by decide +kernel), List.mem_of_getElem? (i := 444) (by decide +kernel), List.mem_of_getElem? (i := 445) (by decide +kernel)⟩
theorem lw_p4 : lw_okq (⟨"ArrayHouse$Heap", "unsettle", "(I)V"⟩, 9) := ⟨⟨by decide +kernel, by decide +kernel⟩, List.mem_of_getElem? (i := 69) (by decide +kernel), List.mem_of_getElem? (i := 448) (by decide +kernel), List.mem_of_getElem? (i := 449) (by decide +kernel)⟩
theorem lw_p5 : lw_okq (⟨"ArrayHouse$Heap", "moved", "(I)I"⟩, 9) := ⟨⟨by decide +kernel, by decide +kernel⟩, List.mem_of_getElem? (i := 69) (by decide +kernel), List.mem_of_getElem? (i := 453) (by decide +kernel), List.mem_of_getElem? (i := 454) (by decide +kernel)⟩
theorem lw_p6 : lw_okq (⟨"ArrayHouse$Heap", "look", "(I)I"⟩, 9) := ⟨⟨by decide +kernel, by decide +kernel⟩, List.mem_of_getElem? (i := 69) (by decide +kernel), List.mem_of_getElem? (i := 457) (by decide +kernel), List.mem_of_getElem? (i := 458) (by decide +kernel)⟩
theorem lw_p7 : lw_okq (⟨"ArrayHouse$Heap", "count", "(I)I"⟩, 9) := ⟨⟨by decide +kernel, by decide +kernel⟩, List.mem_of_getElem? (i := 69) (by decide +kernel), List.mem_of_getElem? (i := 461) (by decide +kernel), List.mem_of_getElem? (i := 462) (by decide +kernel)⟩
theorem lw_p8 : lw_okq (⟨"ArrayHouse$Heap", "rank", "(I)I"⟩, 9) := ⟨⟨by decide +kernel, by decide +kernel⟩, List.mem_of_getElem? (i := 69) (by decide +kernel), List.mem_of_getElem? (i := 465) (by decide +kernel), List.mem_of_getElem? (i := 466) (by decide +kernel)⟩
theorem lw_p9 : lw_okq (⟨"ArrayHouse$Heap", "put", "(II)V"⟩, 9) := ⟨⟨by decide +kernel, by decide +kernel⟩, List.mem_of_getElem? (i := 69) (by decide +kernel), List.mem_of_getElem? (i := 486) (by decide +kernel), List.mem_of_getElem? (i := 487) (by decide +kernel)⟩
theorem lw_p10 : lw_okq (⟨"ArrayHouse$Places", "firstSlot", "(I)I"⟩, 16) := ⟨⟨by decide +kernel, by decide +kernel⟩, List.mem_of_getElem? (i := 151) (by decide +kernel), List.mem_of_getElem? (i := 497) (by decide +kernel), List.mem_of_getElem? (i := 498) (by decide +kernel)⟩
theorem lw_p11 : lw_okq (⟨"ArrayHouse$Places", "meansAt", "(I)I"⟩, 16) := ⟨⟨by decide +kernel, by decide +kernel⟩, List.mem_of_getElem? (i := 151) (by decide +kernel), List.mem_of_getElem? (i := 502) (by decide +kernel), List.mem_of_getElem? (i := 503) (by decide +kernel)⟩
theorem lw_p12 : lw_okq (⟨"ArrayHouse$Text", "unmake", "(I)V"⟩, 8) := ⟨⟨by decide +kernel, by decide +kernel⟩, List.mem_of_getElem? (i := 114) (by decide +kernel), List.mem_of_getElem? (i := 507) (by decide +kernel), List.mem_of_getElem? (i := 508) (by decide +kernel)⟩
theorem lw_p13 : lw_okq (⟨"ArrayHouse$Text", "field", "(II)I"⟩, 8) := ⟨⟨by decide +kernel, by decide +kernel⟩, List.mem_of_getElem? (i := 114) (by decide +kernel), List.mem_of_getElem? (i := 511) (by decide +kernel), List.mem_of_getElem? (i := 512) (by decide +kernel)⟩
theorem lw_p14 : lw_okq (⟨"ArrayHouse$Text", "putField", "(III)V"⟩, 8) := ⟨⟨by decide +kernel, by decide +kernel⟩, List.mem_of_getElem? (i := 114) (by decide +kernel), List.mem_of_getElem? (i := 515) (by decide +kernel), List.mem_of_getElem? (i := 516) (by decide +kernel)⟩
theorem lw_p15 : lw_okq (⟨"ArrayHouse$Heap", "settle", "()V"⟩, 9) := ⟨⟨by decide +kernel, by decide +kernel⟩, List.mem_of_getElem? (i := 69) (by decide +kernel), List.mem_of_getElem? (i := 520) (by decide +kernel), List.mem_of_getElem? (i := 521) (by decide +kernel)⟩
def lw_privs_1 : List (MethodName × Nat) := [(⟨"ArrayHouse", "append", "(I)V"⟩, 11), (⟨"ArrayHouse$State", "begin", "()V"⟩, 5), (⟨"ArrayHouse", "keepHouse", "()V"⟩, 11), (⟨"ArrayHouse$Places", "pack", "(II)I"⟩, 16), (⟨"ArrayHouse$Heap", "unsettle", "(I)V"⟩, 9), (⟨"ArrayHouse$Heap", "moved", "(I)I"⟩, 9), (⟨"ArrayHouse$Heap", "look", "(I)I"⟩, 9), (⟨"ArrayHouse$Heap", "count", "(I)I"⟩, 9), (⟨"ArrayHouse$Heap", "rank", "(I)I"⟩, 9), (⟨"ArrayHouse$Heap", "put", "(II)V"⟩, 9), (⟨"ArrayHouse$Places", "firstSlot", "(I)I"⟩, 16), (⟨"ArrayHouse$Places", "meansAt", "(I)I"⟩, 16), (⟨"ArrayHouse$Text", "unmake", "(I)V"⟩, 8), (⟨"ArrayHouse$Text", "field", "(II)I"⟩, 8), (⟨"ArrayHouse$Text", "putField", "(III)V"⟩, 8), (⟨"ArrayHouse$Heap", "settle", "()V"⟩, 9)]
theorem lw_r1 : ∀ q ∈ lw_privs_1, lw_okq q := List.forall_mem_cons.mpr ⟨lw_p0, List.forall_mem_cons.mpr ⟨lw_p1, List.forall_mem_cons.mpr ⟨lw_p2, List.forall_mem_cons.mpr ⟨lw_p3, List.forall_mem_cons.mpr ⟨lw_p4, List.forall_mem_cons.mpr ⟨lw_p5, List.forall_mem_cons.mpr ⟨lw_p6, List.forall_mem_cons.mpr ⟨lw_p7, List.forall_mem_cons.mpr ⟨lw_p8, List.forall_mem_cons.mpr ⟨lw_p9, List.forall_mem_cons.mpr ⟨lw_p10, List.forall_mem_cons.mpr ⟨lw_p11, List.forall_mem_cons.mpr ⟨lw_p12, List.forall_mem_cons.mpr ⟨lw_p13, List.forall_mem_cons.mpr ⟨lw_p14, List.forall_mem_cons.mpr ⟨lw_p15, fun _ h => absurd h List.not_mem_nil⟩⟩⟩⟩⟩⟩⟩⟩⟩⟩⟩⟩⟩⟩⟩⟩
theorem lw_p16 : lw_okq (⟨"ArrayHouse$Text", "keep", "(II)I"⟩, 8) := ⟨⟨by decide +kernel, by decide +kernel⟩, List.mem_of_getElem? (i := 114) (by decide +kernel), List.mem_of_getElem? (i := 527) (by decide +kernel), List.mem_of_getElem? (i := 528) (by decide +kernel)⟩
theorem lw_p17 : lw_okq (⟨"ArrayHouse$Text", "span", "(II)I"⟩, 8) := ⟨⟨by decide +kernel, by decide +kernel⟩, List.mem_of_getElem? (i := 114) (by decide +kernel), List.mem_of_getElem? (i := 531) (by decide +kernel), List.mem_of_getElem? (i := 532) (by decide +kernel)⟩
theorem lw_p18 : lw_okq (⟨"ArrayHouse$Text", "byteOf", "(I)I"⟩, 8) := ⟨⟨by decide +kernel, by decide +kernel⟩, List.mem_of_getElem? (i := 114) (by decide +kernel), List.mem_of_getElem? (i := 535) (by decide +kernel), List.mem_of_getElem? (i := 536) (by decide +kernel)⟩
theorem lw_p19 : lw_okq (⟨"ArrayHouse$Text", "restore", "(II)V"⟩, 8) := ⟨⟨by decide +kernel, by decide +kernel⟩, List.mem_of_getElem? (i := 114) (by decide +kernel), List.mem_of_getElem? (i := 539) (by decide +kernel), List.mem_of_getElem? (i := 540) (by decide +kernel)⟩
theorem lw_p20 : lw_okq (⟨"ArrayHouse$Text", "add", "(I)V"⟩, 8) := ⟨⟨by decide +kernel, by decide +kernel⟩, List.mem_of_getElem? (i := 114) (by decide +kernel), List.mem_of_getElem? (i := 543) (by decide +kernel), List.mem_of_getElem? (i := 544) (by decide +kernel)⟩
theorem lw_p21 : lw_okq (⟨"ArrayHouse$Text", "scan", "(I)I"⟩, 8) := ⟨⟨by decide +kernel, by decide +kernel⟩, List.mem_of_getElem? (i := 114) (by decide +kernel), List.mem_of_getElem? (i := 555) (by decide +kernel), List.mem_of_getElem? (i := 556) (by decide +kernel)⟩
theorem lw_p22 : lw_okq (⟨"ArrayHouse$Text", "lineEnd", "(I)I"⟩, 8) := ⟨⟨by decide +kernel, by decide +kernel⟩, List.mem_of_getElem? (i := 114) (by decide +kernel), List.mem_of_getElem? (i := 559) (by decide +kernel), List.mem_of_getElem? (i := 560) (by decide +kernel)⟩
theorem lw_p23 : lw_okq (⟨"ArrayHouse$Text", "scanNumber", "(I)I"⟩, 8) := ⟨⟨by decide +kernel, by decide +kernel⟩, List.mem_of_getElem? (i := 114) (by decide +kernel), List.mem_of_getElem? (i := 566) (by decide +kernel), List.mem_of_getElem? (i := 567) (by decide +kernel)⟩
theorem lw_p24 : lw_okq (⟨"ArrayHouse$Text", "digitsEnd", "(I)I"⟩, 8) := ⟨⟨by decide +kernel, by decide +kernel⟩, List.mem_of_getElem? (i := 114) (by decide +kernel), List.mem_of_getElem? (i := 570) (by decide +kernel), List.mem_of_getElem? (i := 571) (by decide +kernel)⟩
theorem lw_p25 : lw_okq (⟨"ArrayHouse$Text", "digits", "(II)J"⟩, 8) := ⟨⟨by decide +kernel, by decide +kernel⟩, List.mem_of_getElem? (i := 114) (by decide +kernel), List.mem_of_getElem? (i := 574) (by decide +kernel), List.mem_of_getElem? (i := 575) (by decide +kernel)⟩
theorem lw_p26 : lw_okq (⟨"ArrayHouse$Text", "token", "(IIIII)I"⟩, 8) := ⟨⟨by decide +kernel, by decide +kernel⟩, List.mem_of_getElem? (i := 114) (by decide +kernel), List.mem_of_getElem? (i := 590) (by decide +kernel), List.mem_of_getElem? (i := 591) (by decide +kernel)⟩
theorem lw_p27 : lw_okq (⟨"ArrayHouse$Text", "scanName", "(I)I"⟩, 8) := ⟨⟨by decide +kernel, by decide +kernel⟩, List.mem_of_getElem? (i := 114) (by decide +kernel), List.mem_of_getElem? (i := 598) (by decide +kernel), List.mem_of_getElem? (i := 599) (by decide +kernel)⟩
theorem lw_p28 : lw_okq (⟨"ArrayHouse$Text", "isWord", "(III)Z"⟩, 8) := ⟨⟨by decide +kernel, by decide +kernel⟩, List.mem_of_getElem? (i := 114) (by decide +kernel), List.mem_of_getElem? (i := 602) (by decide +kernel), List.mem_of_getElem? (i := 603) (by decide +kernel)⟩
theorem lw_p29 : lw_okq (⟨"ArrayHouse$Text", "wordType", "(I)I"⟩, 8) := ⟨⟨by decide +kernel, by decide +kernel⟩, List.mem_of_getElem? (i := 114) (by decide +kernel), List.mem_of_getElem? (i := 655) (by decide +kernel), List.mem_of_getElem? (i := 656) (by decide +kernel)⟩
theorem lw_p30 : lw_okq (⟨"ArrayHouse$Text", "scanQuoted", "(I)I"⟩, 8) := ⟨⟨by decide +kernel, by decide +kernel⟩, List.mem_of_getElem? (i := 114) (by decide +kernel), List.mem_of_getElem? (i := 662) (by decide +kernel), List.mem_of_getElem? (i := 663) (by decide +kernel)⟩
theorem lw_p31 : lw_okq (⟨"ArrayHouse$Text", "scanSign", "(I)I"⟩, 8) := ⟨⟨by decide +kernel, by decide +kernel⟩, List.mem_of_getElem? (i := 114) (by decide +kernel), List.mem_of_getElem? (i := 666) (by decide +kernel), List.mem_of_getElem? (i := 667) (by decide +kernel)⟩
def lw_privs_2 : List (MethodName × Nat) := [(⟨"ArrayHouse$Text", "keep", "(II)I"⟩, 8), (⟨"ArrayHouse$Text", "span", "(II)I"⟩, 8), (⟨"ArrayHouse$Text", "byteOf", "(I)I"⟩, 8), (⟨"ArrayHouse$Text", "restore", "(II)V"⟩, 8), (⟨"ArrayHouse$Text", "add", "(I)V"⟩, 8), (⟨"ArrayHouse$Text", "scan", "(I)I"⟩, 8), (⟨"ArrayHouse$Text", "lineEnd", "(I)I"⟩, 8), (⟨"ArrayHouse$Text", "scanNumber", "(I)I"⟩, 8), (⟨"ArrayHouse$Text", "digitsEnd", "(I)I"⟩, 8), (⟨"ArrayHouse$Text", "digits", "(II)J"⟩, 8), (⟨"ArrayHouse$Text", "token", "(IIIII)I"⟩, 8), (⟨"ArrayHouse$Text", "scanName", "(I)I"⟩, 8), (⟨"ArrayHouse$Text", "isWord", "(III)Z"⟩, 8), (⟨"ArrayHouse$Text", "wordType", "(I)I"⟩, 8), (⟨"ArrayHouse$Text", "scanQuoted", "(I)I"⟩, 8), (⟨"ArrayHouse$Text", "scanSign", "(I)I"⟩, 8)]
theorem lw_r2 : ∀ q ∈ lw_privs_2, lw_okq q := List.forall_mem_cons.mpr ⟨lw_p16, List.forall_mem_cons.mpr ⟨lw_p17, List.forall_mem_cons.mpr ⟨lw_p18, List.forall_mem_cons.mpr ⟨lw_p19, List.forall_mem_cons.mpr ⟨lw_p20, List.forall_mem_cons.mpr ⟨lw_p21, List.forall_mem_cons.mpr ⟨lw_p22, List.forall_mem_cons.mpr ⟨lw_p23, List.forall_mem_cons.mpr ⟨lw_p24, List.forall_mem_cons.mpr ⟨lw_p25, List.forall_mem_cons.mpr ⟨lw_p26, List.forall_mem_cons.mpr ⟨lw_p27, List.forall_mem_cons.mpr ⟨lw_p28, List.forall_mem_cons.mpr ⟨lw_p29, List.forall_mem_cons.mpr ⟨lw_p30, List.forall_mem_cons.mpr ⟨lw_p31, fun _ h => absurd h List.not_mem_nil⟩⟩⟩⟩⟩⟩⟩⟩⟩⟩⟩⟩⟩⟩⟩⟩
theorem lw_p32 : lw_okq (⟨"ArrayHouse$Text", "scanColon", "(II)I"⟩, 8) := ⟨⟨by decide +kernel, by decide +kernel⟩, List.mem_of_getElem? (i := 114) (by decide +kernel), List.mem_of_getElem? (i := 670) (by decide +kernel), List.mem_of_getElem? (i := 671) (by decide +kernel)⟩
theorem lw_p33 : lw_okq (⟨"ArrayHouse$Text", "type", "(I)I"⟩, 8) := ⟨⟨by decide +kernel, by decide +kernel⟩, List.mem_of_getElem? (i := 114) (by decide +kernel), List.mem_of_getElem? (i := 674) (by decide +kernel), List.mem_of_getElem? (i := 675) (by decide +kernel)⟩
theorem lw_p34 : lw_okq (⟨"ArrayHouse$Text", "scanBracket", "(II)I"⟩, 8) := ⟨⟨by decide +kernel, by decide +kernel⟩, List.mem_of_getElem? (i := 114) (by decide +kernel), List.mem_of_getElem? (i := 736) (by decide +kernel), List.mem_of_getElem? (i := 737) (by decide +kernel)⟩
theorem lw_p35 : lw_okq (⟨"ArrayHouse$Text", "partner", "(I)I"⟩, 8) := ⟨⟨by decide +kernel, by decide +kernel⟩, List.mem_of_getElem? (i := 114) (by decide +kernel), List.mem_of_getElem? (i := 740) (by decide +kernel), List.mem_of_getElem? (i := 741) (by decide +kernel)⟩
theorem lw_p36 : lw_okq (⟨"ArrayHouse", "statements", "(II)V"⟩, 11) := ⟨⟨by decide +kernel, by decide +kernel⟩, List.mem_of_getElem? (i := 24) (by decide +kernel), List.mem_of_getElem? (i := 746) (by decide +kernel), List.mem_of_getElem? (i := 747) (by decide +kernel)⟩
theorem lw_p37 : lw_okq (⟨"ArrayHouse$Text", "statementEnd", "(II)I"⟩, 8) := ⟨⟨by decide +kernel, by decide +kernel⟩, List.mem_of_getElem? (i := 114) (by decide +kernel), List.mem_of_getElem? (i := 750) (by decide +kernel), List.mem_of_getElem? (i := 751) (by decide +kernel)⟩
theorem lw_p38 : lw_okq (⟨"ArrayHouse$Text", "firstOf", "(IIII)I"⟩, 8) := ⟨⟨by decide +kernel, by decide +kernel⟩, List.mem_of_getElem? (i := 114) (by decide +kernel), List.mem_of_getElem? (i := 754) (by decide +kernel), List.mem_of_getElem? (i := 755) (by decide +kernel)⟩
theorem lw_p39 : lw_okq (⟨"ArrayHouse$State", "spend", "(I)Z"⟩, 5) := ⟨⟨by decide +kernel, by decide +kernel⟩, List.mem_of_getElem? (i := 32) (by decide +kernel), List.mem_of_getElem? (i := 759) (by decide +kernel), List.mem_of_getElem? (i := 760) (by decide +kernel)⟩
theorem lw_p40 : lw_okq (⟨"ArrayHouse$Reader", "phrase", "(III)I"⟩, 13) := ⟨⟨by decide +kernel, by decide +kernel⟩, List.mem_of_getElem? (i := 290) (by decide +kernel), List.mem_of_getElem? (i := 764) (by decide +kernel), List.mem_of_getElem? (i := 765) (by decide +kernel)⟩
theorem lw_p41 : lw_okq (⟨"ArrayHouse$Reader", "attached", "(II)I"⟩, 13) := ⟨⟨by decide +kernel, by decide +kernel⟩, List.mem_of_getElem? (i := 290) (by decide +kernel), List.mem_of_getElem? (i := 768) (by decide +kernel), List.mem_of_getElem? (i := 769) (by decide +kernel)⟩
theorem lw_p42 : lw_okq (⟨"ArrayHouse$Heap", "node", "(IIII)I"⟩, 9) := ⟨⟨by decide +kernel, by decide +kernel⟩, List.mem_of_getElem? (i := 69) (by decide +kernel), List.mem_of_getElem? (i := 774) (by decide +kernel), List.mem_of_getElem? (i := 775) (by decide +kernel)⟩
theorem lw_p43 : lw_okq (⟨"ArrayHouse$Heap", "grab", "(I)I"⟩, 9) := ⟨⟨by decide +kernel, by decide +kernel⟩, List.mem_of_getElem? (i := 69) (by decide +kernel), List.mem_of_getElem? (i := 778) (by decide +kernel), List.mem_of_getElem? (i := 779) (by decide +kernel)⟩
theorem lw_p44 : lw_okq (⟨"ArrayHouse$Reader", "meet", "(IIZ)I"⟩, 13) := ⟨⟨by decide +kernel, by decide +kernel⟩, List.mem_of_getElem? (i := 290) (by decide +kernel), List.mem_of_getElem? (i := 784) (by decide +kernel), List.mem_of_getElem? (i := 785) (by decide +kernel)⟩
theorem lw_p45 : lw_okq (⟨"ArrayHouse$State", "raise", "(I)I"⟩, 5) := ⟨⟨by decide +kernel, by decide +kernel⟩, List.mem_of_getElem? (i := 32) (by decide +kernel), List.mem_of_getElem? (i := 788) (by decide +kernel), List.mem_of_getElem? (i := 789) (by decide +kernel)⟩
theorem lw_p46 : lw_okq (⟨"ArrayHouse$Reader", "form", "(II)I"⟩, 13) := ⟨⟨by decide +kernel, by decide +kernel⟩, List.mem_of_getElem? (i := 290) (by decide +kernel), List.mem_of_getElem? (i := 792) (by decide +kernel), List.mem_of_getElem? (i := 793) (by decide +kernel)⟩
theorem lw_p47 : lw_okq (⟨"ArrayHouse$Text", "allNames", "(II)Z"⟩, 8) := ⟨⟨by decide +kernel, by decide +kernel⟩, List.mem_of_getElem? (i := 114) (by decide +kernel), List.mem_of_getElem? (i := 803) (by decide +kernel), List.mem_of_getElem? (i := 804) (by decide +kernel)⟩
def lw_privs_3 : List (MethodName × Nat) := [(⟨"ArrayHouse$Text", "scanColon", "(II)I"⟩, 8), (⟨"ArrayHouse$Text", "type", "(I)I"⟩, 8), (⟨"ArrayHouse$Text", "scanBracket", "(II)I"⟩, 8), (⟨"ArrayHouse$Text", "partner", "(I)I"⟩, 8), (⟨"ArrayHouse", "statements", "(II)V"⟩, 11), (⟨"ArrayHouse$Text", "statementEnd", "(II)I"⟩, 8), (⟨"ArrayHouse$Text", "firstOf", "(IIII)I"⟩, 8), (⟨"ArrayHouse$State", "spend", "(I)Z"⟩, 5), (⟨"ArrayHouse$Reader", "phrase", "(III)I"⟩, 13), (⟨"ArrayHouse$Reader", "attached", "(II)I"⟩, 13), (⟨"ArrayHouse$Heap", "node", "(IIII)I"⟩, 9), (⟨"ArrayHouse$Heap", "grab", "(I)I"⟩, 9), (⟨"ArrayHouse$Reader", "meet", "(IIZ)I"⟩, 13), (⟨"ArrayHouse$State", "raise", "(I)I"⟩, 5), (⟨"ArrayHouse$Reader", "form", "(II)I"⟩, 13), (⟨"ArrayHouse$Text", "allNames", "(II)Z"⟩, 8)]
theorem lw_r3 : ∀ q ∈ lw_privs_3, lw_okq q := List.forall_mem_cons.mpr ⟨lw_p32, List.forall_mem_cons.mpr ⟨lw_p33, List.forall_mem_cons.mpr ⟨lw_p34, List.forall_mem_cons.mpr ⟨lw_p35, List.forall_mem_cons.mpr ⟨lw_p36, List.forall_mem_cons.mpr ⟨lw_p37, List.forall_mem_cons.mpr ⟨lw_p38, List.forall_mem_cons.mpr ⟨lw_p39, List.forall_mem_cons.mpr ⟨lw_p40, List.forall_mem_cons.mpr ⟨lw_p41, List.forall_mem_cons.mpr ⟨lw_p42, List.forall_mem_cons.mpr ⟨lw_p43, List.forall_mem_cons.mpr ⟨lw_p44, List.forall_mem_cons.mpr ⟨lw_p45, List.forall_mem_cons.mpr ⟨lw_p46, List.forall_mem_cons.mpr ⟨lw_p47, fun _ h => absurd h List.not_mem_nil⟩⟩⟩⟩⟩⟩⟩⟩⟩⟩⟩⟩⟩⟩⟩⟩
theorem lw_p48 : lw_okq (⟨"ArrayHouse$Reader", "bracket", "(II)I"⟩, 13) := ⟨⟨by decide +kernel, by decide +kernel⟩, List.mem_of_getElem? (i := 290) (by decide +kernel), List.mem_of_getElem? (i := 807) (by decide +kernel), List.mem_of_getElem? (i := 808) (by decide +kernel)⟩
theorem lw_p49 : lw_okq (⟨"ArrayHouse$State", "enter", "()Z"⟩, 5) := ⟨⟨by decide +kernel, by decide +kernel⟩, List.mem_of_getElem? (i := 32) (by decide +kernel), List.mem_of_getElem? (i := 811) (by decide +kernel), List.mem_of_getElem? (i := 812) (by decide +kernel)⟩
theorem lw_p50 : lw_okq (⟨"ArrayHouse$Reader", "indices", "(II)I"⟩, 13) := ⟨⟨by decide +kernel, by decide +kernel⟩, List.mem_of_getElem? (i := 290) (by decide +kernel), List.mem_of_getElem? (i := 815) (by decide +kernel), List.mem_of_getElem? (i := 816) (by decide +kernel)⟩
theorem lw_p51 : lw_okq (⟨"ArrayHouse$Text", "lastIndex", "(II)I"⟩, 8) := ⟨⟨by decide +kernel, by decide +kernel⟩, List.mem_of_getElem? (i := 114) (by decide +kernel), List.mem_of_getElem? (i := 819) (by decide +kernel), List.mem_of_getElem? (i := 820) (by decide +kernel)⟩
theorem lw_p52 : lw_okq (⟨"ArrayHouse$Reader", "needed", "(I)I"⟩, 13) := ⟨⟨by decide +kernel, by decide +kernel⟩, List.mem_of_getElem? (i := 290) (by decide +kernel), List.mem_of_getElem? (i := 826) (by decide +kernel), List.mem_of_getElem? (i := 827) (by decide +kernel)⟩
theorem lw_p53 : lw_okq (⟨"ArrayHouse$Reader", "checked", "(I)I"⟩, 13) := ⟨⟨by decide +kernel, by decide +kernel⟩, List.mem_of_getElem? (i := 290) (by decide +kernel), List.mem_of_getElem? (i := 830) (by decide +kernel), List.mem_of_getElem? (i := 831) (by decide +kernel)⟩
theorem lw_p54 : lw_okq (⟨"ArrayHouse$Heap", "isValue", "(I)Z"⟩, 9) := ⟨⟨by decide +kernel, by decide +kernel⟩, List.mem_of_getElem? (i := 69) (by decide +kernel), List.mem_of_getElem? (i := 834) (by decide +kernel), List.mem_of_getElem? (i := 835) (by decide +kernel)⟩
theorem lw_p55 : lw_okq (⟨"ArrayHouse$Heap", "size", "(I)I"⟩, 9) := ⟨⟨by decide +kernel, by decide +kernel⟩, List.mem_of_getElem? (i := 69) (by decide +kernel), List.mem_of_getElem? (i := 839) (by decide +kernel), List.mem_of_getElem? (i := 840) (by decide +kernel)⟩
theorem lw_p56 : lw_okq (⟨"ArrayHouse$Reader", "takesAxis", "(I)Z"⟩, 13) := ⟨⟨by decide +kernel, by decide +kernel⟩, List.mem_of_getElem? (i := 290) (by decide +kernel), List.mem_of_getElem? (i := 843) (by decide +kernel), List.mem_of_getElem? (i := 844) (by decide +kernel)⟩
theorem lw_p57 : lw_okq (⟨"ArrayHouse$State", "leave", "()V"⟩, 5) := ⟨⟨by decide +kernel, by decide +kernel⟩, List.mem_of_getElem? (i := 32) (by decide +kernel), List.mem_of_getElem? (i := 848) (by decide +kernel), List.mem_of_getElem? (i := 849) (by decide +kernel)⟩
theorem lw_p58 : lw_okq (⟨"ArrayHouse$Reader", "mayBeOperand", "(I)Z"⟩, 13) := ⟨⟨by decide +kernel, by decide +kernel⟩, List.mem_of_getElem? (i := 290) (by decide +kernel), List.mem_of_getElem? (i := 852) (by decide +kernel), List.mem_of_getElem? (i := 853) (by decide +kernel)⟩
theorem lw_p59 : lw_okq (⟨"ArrayHouse$Reader", "primary", "(I)I"⟩, 13) := ⟨⟨by decide +kernel, by decide +kernel⟩, List.mem_of_getElem? (i := 290) (by decide +kernel), List.mem_of_getElem? (i := 856) (by decide +kernel), List.mem_of_getElem? (i := 857) (by decide +kernel)⟩
theorem lw_p60 : lw_okq (⟨"ArrayHouse$Reader", "paren", "(I)I"⟩, 13) := ⟨⟨by decide +kernel, by decide +kernel⟩, List.mem_of_getElem? (i := 290) (by decide +kernel), List.mem_of_getElem? (i := 860) (by decide +kernel), List.mem_of_getElem? (i := 861) (by decide +kernel)⟩
theorem lw_p61 : lw_okq (⟨"ArrayHouse$Places", "keep", "(II)I"⟩, 16) := ⟨⟨by decide +kernel, by decide +kernel⟩, List.mem_of_getElem? (i := 151) (by decide +kernel), List.mem_of_getElem? (i := 864) (by decide +kernel), List.mem_of_getElem? (i := 865) (by decide +kernel)⟩
theorem lw_p62 : lw_okq (⟨"ArrayHouse$Heap", "scalar", "(II)I"⟩, 9) := ⟨⟨by decide +kernel, by decide +kernel⟩, List.mem_of_getElem? (i := 69) (by decide +kernel), List.mem_of_getElem? (i := 871) (by decide +kernel), List.mem_of_getElem? (i := 872) (by decide +kernel)⟩
theorem lw_p63 : lw_okq (⟨"ArrayHouse$Heap", "lay", "(II)I"⟩, 9) := ⟨⟨by decide +kernel, by decide +kernel⟩, List.mem_of_getElem? (i := 69) (by decide +kernel), List.mem_of_getElem? (i := 875) (by decide +kernel), List.mem_of_getElem? (i := 876) (by decide +kernel)⟩
def lw_privs_4 : List (MethodName × Nat) := [(⟨"ArrayHouse$Reader", "bracket", "(II)I"⟩, 13), (⟨"ArrayHouse$State", "enter", "()Z"⟩, 5), (⟨"ArrayHouse$Reader", "indices", "(II)I"⟩, 13), (⟨"ArrayHouse$Text", "lastIndex", "(II)I"⟩, 8), (⟨"ArrayHouse$Reader", "needed", "(I)I"⟩, 13), (⟨"ArrayHouse$Reader", "checked", "(I)I"⟩, 13), (⟨"ArrayHouse$Heap", "isValue", "(I)Z"⟩, 9), (⟨"ArrayHouse$Heap", "size", "(I)I"⟩, 9), (⟨"ArrayHouse$Reader", "takesAxis", "(I)Z"⟩, 13), (⟨"ArrayHouse$State", "leave", "()V"⟩, 5), (⟨"ArrayHouse$Reader", "mayBeOperand", "(I)Z"⟩, 13), (⟨"ArrayHouse$Reader", "primary", "(I)I"⟩, 13), (⟨"ArrayHouse$Reader", "paren", "(I)I"⟩, 13), (⟨"ArrayHouse$Places", "keep", "(II)I"⟩, 16), (⟨"ArrayHouse$Heap", "scalar", "(II)I"⟩, 9), (⟨"ArrayHouse$Heap", "lay", "(II)I"⟩, 9)]
theorem lw_r4 : ∀ q ∈ lw_privs_4, lw_okq q := List.forall_mem_cons.mpr ⟨lw_p48, List.forall_mem_cons.mpr ⟨lw_p49, List.forall_mem_cons.mpr ⟨lw_p50, List.forall_mem_cons.mpr ⟨lw_p51, List.forall_mem_cons.mpr ⟨lw_p52, List.forall_mem_cons.mpr ⟨lw_p53, List.forall_mem_cons.mpr ⟨lw_p54, List.forall_mem_cons.mpr ⟨lw_p55, List.forall_mem_cons.mpr ⟨lw_p56, List.forall_mem_cons.mpr ⟨lw_p57, List.forall_mem_cons.mpr ⟨lw_p58, List.forall_mem_cons.mpr ⟨lw_p59, List.forall_mem_cons.mpr ⟨lw_p60, List.forall_mem_cons.mpr ⟨lw_p61, List.forall_mem_cons.mpr ⟨lw_p62, List.forall_mem_cons.mpr ⟨lw_p63, fun _ h => absurd h List.not_mem_nil⟩⟩⟩⟩⟩⟩⟩⟩⟩⟩⟩⟩⟩⟩⟩⟩
theorem lw_p64 : lw_okq (⟨"ArrayHouse$Heap", "putItem", "(IIII)V"⟩, 9) := ⟨⟨by decide +kernel, by decide +kernel⟩, List.mem_of_getElem? (i := 69) (by decide +kernel), List.mem_of_getElem? (i := 879) (by decide +kernel), List.mem_of_getElem? (i := 880) (by decide +kernel)⟩
theorem lw_p65 : lw_okq (⟨"ArrayHouse$Reader", "quoted", "(I)I"⟩, 13) := ⟨⟨by decide +kernel, by decide +kernel⟩, List.mem_of_getElem? (i := 290) (by decide +kernel), List.mem_of_getElem? (i := 883) (by decide +kernel), List.mem_of_getElem? (i := 884) (by decide +kernel)⟩
theorem lw_p66 : lw_okq (⟨"ArrayHouse$Reader", "signs", "(I)I"⟩, 13) := ⟨⟨by decide +kernel, by decide +kernel⟩, List.mem_of_getElem? (i := 290) (by decide +kernel), List.mem_of_getElem? (i := 887) (by decide +kernel), List.mem_of_getElem? (i := 888) (by decide +kernel)⟩
theorem lw_p67 : lw_okq (⟨"ArrayHouse$Heap", "vector", "(I)I"⟩, 9) := ⟨⟨by decide +kernel, by decide +kernel⟩, List.mem_of_getElem? (i := 69) (by decide +kernel), List.mem_of_getElem? (i := 892) (by decide +kernel), List.mem_of_getElem? (i := 893) (by decide +kernel)⟩
theorem lw_p68 : lw_okq (⟨"ArrayHouse$Heap", "seal", "(I)I"⟩, 9) := ⟨⟨by decide +kernel, by decide +kernel⟩, List.mem_of_getElem? (i := 69) (by decide +kernel), List.mem_of_getElem? (i := 898) (by decide +kernel), List.mem_of_getElem? (i := 899) (by decide +kernel)⟩
theorem lw_p69 : lw_okq (⟨"ArrayHouse$Heap", "den", "(II)I"⟩, 9) := ⟨⟨by decide +kernel, by decide +kernel⟩, List.mem_of_getElem? (i := 69) (by decide +kernel), List.mem_of_getElem? (i := 902) (by decide +kernel), List.mem_of_getElem? (i := 903) (by decide +kernel)⟩
theorem lw_p70 : lw_okq (⟨"ArrayHouse$Heap", "num", "(II)I"⟩, 9) := ⟨⟨by decide +kernel, by decide +kernel⟩, List.mem_of_getElem? (i := 69) (by decide +kernel), List.mem_of_getElem? (i := 906) (by decide +kernel), List.mem_of_getElem? (i := 907) (by decide +kernel)⟩
theorem lw_p71 : lw_okq (⟨"ArrayHouse$Heap", "depth", "(I)I"⟩, 9) := ⟨⟨by decide +kernel, by decide +kernel⟩, List.mem_of_getElem? (i := 69) (by decide +kernel), List.mem_of_getElem? (i := 911) (by decide +kernel), List.mem_of_getElem? (i := 912) (by decide +kernel)⟩
theorem lw_p72 : lw_okq (⟨"ArrayHouse$Text", "made", "(II)V"⟩, 8) := ⟨⟨by decide +kernel, by decide +kernel⟩, List.mem_of_getElem? (i := 114) (by decide +kernel), List.mem_of_getElem? (i := 915) (by decide +kernel), List.mem_of_getElem? (i := 916) (by decide +kernel)⟩
theorem lw_p73 : lw_okq (⟨"ArrayHouse$Reader", "named", "(I)I"⟩, 13) := ⟨⟨by decide +kernel, by decide +kernel⟩, List.mem_of_getElem? (i := 290) (by decide +kernel), List.mem_of_getElem? (i := 919) (by decide +kernel), List.mem_of_getElem? (i := 920) (by decide +kernel)⟩
theorem lw_p74 : lw_okq (⟨"ArrayHouse$Reader", "slotOf", "(I)I"⟩, 13) := ⟨⟨by decide +kernel, by decide +kernel⟩, List.mem_of_getElem? (i := 290) (by decide +kernel), List.mem_of_getElem? (i := 923) (by decide +kernel), List.mem_of_getElem? (i := 924) (by decide +kernel)⟩
theorem lw_p75 : lw_okq (⟨"ArrayHouse$Places", "lookFor", "(III)I"⟩, 16) := ⟨⟨by decide +kernel, by decide +kernel⟩, List.mem_of_getElem? (i := 151) (by decide +kernel), List.mem_of_getElem? (i := 927) (by decide +kernel), List.mem_of_getElem? (i := 928) (by decide +kernel)⟩
theorem lw_p76 : lw_okq (⟨"ArrayHouse$Places", "slotIn", "(III)I"⟩, 16) := ⟨⟨by decide +kernel, by decide +kernel⟩, List.mem_of_getElem? (i := 151) (by decide +kernel), List.mem_of_getElem? (i := 931) (by decide +kernel), List.mem_of_getElem? (i := 932) (by decide +kernel)⟩
theorem lw_p77 : lw_okq (⟨"ArrayHouse$Places", "placeOf", "(I)I"⟩, 16) := ⟨⟨by decide +kernel, by decide +kernel⟩, List.mem_of_getElem? (i := 151) (by decide +kernel), List.mem_of_getElem? (i := 937) (by decide +kernel), List.mem_of_getElem? (i := 938) (by decide +kernel)⟩
theorem lw_p78 : lw_okq (⟨"ArrayHouse$Reader", "known", "(I)I"⟩, 13) := ⟨⟨by decide +kernel, by decide +kernel⟩, List.mem_of_getElem? (i := 290) (by decide +kernel), List.mem_of_getElem? (i := 941) (by decide +kernel), List.mem_of_getElem? (i := 942) (by decide +kernel)⟩
theorem lw_p79 : lw_okq (⟨"ArrayHouse$Reader", "choose", "(II)I"⟩, 13) := ⟨⟨by decide +kernel, by decide +kernel⟩, List.mem_of_getElem? (i := 290) (by decide +kernel), List.mem_of_getElem? (i := 945) (by decide +kernel), List.mem_of_getElem? (i := 946) (by decide +kernel)⟩
def lw_privs_5 : List (MethodName × Nat) := [(⟨"ArrayHouse$Heap", "putItem", "(IIII)V"⟩, 9), (⟨"ArrayHouse$Reader", "quoted", "(I)I"⟩, 13), (⟨"ArrayHouse$Reader", "signs", "(I)I"⟩, 13), (⟨"ArrayHouse$Heap", "vector", "(I)I"⟩, 9), (⟨"ArrayHouse$Heap", "seal", "(I)I"⟩, 9), (⟨"ArrayHouse$Heap", "den", "(II)I"⟩, 9), (⟨"ArrayHouse$Heap", "num", "(II)I"⟩, 9), (⟨"ArrayHouse$Heap", "depth", "(I)I"⟩, 9), (⟨"ArrayHouse$Text", "made", "(II)V"⟩, 8), (⟨"ArrayHouse$Reader", "named", "(I)I"⟩, 13), (⟨"ArrayHouse$Reader", "slotOf", "(I)I"⟩, 13), (⟨"ArrayHouse$Places", "lookFor", "(III)I"⟩, 16), (⟨"ArrayHouse$Places", "slotIn", "(III)I"⟩, 16), (⟨"ArrayHouse$Places", "placeOf", "(I)I"⟩, 16), (⟨"ArrayHouse$Reader", "known", "(I)I"⟩, 13), (⟨"ArrayHouse$Reader", "choose", "(II)I"⟩, 13)]
theorem lw_r5 : ∀ q ∈ lw_privs_5, lw_okq q := List.forall_mem_cons.mpr ⟨lw_p64, List.forall_mem_cons.mpr ⟨lw_p65, List.forall_mem_cons.mpr ⟨lw_p66, List.forall_mem_cons.mpr ⟨lw_p67, List.forall_mem_cons.mpr ⟨lw_p68, List.forall_mem_cons.mpr ⟨lw_p69, List.forall_mem_cons.mpr ⟨lw_p70, List.forall_mem_cons.mpr ⟨lw_p71, List.forall_mem_cons.mpr ⟨lw_p72, List.forall_mem_cons.mpr ⟨lw_p73, List.forall_mem_cons.mpr ⟨lw_p74, List.forall_mem_cons.mpr ⟨lw_p75, List.forall_mem_cons.mpr ⟨lw_p76, List.forall_mem_cons.mpr ⟨lw_p77, List.forall_mem_cons.mpr ⟨lw_p78, List.forall_mem_cons.mpr ⟨lw_p79, fun _ h => absurd h List.not_mem_nil⟩⟩⟩⟩⟩⟩⟩⟩⟩⟩⟩⟩⟩⟩⟩⟩
theorem lw_p80 : lw_okq (⟨"ArrayHouse$Reader", "locate", "(II)I"⟩, 13) := ⟨⟨by decide +kernel, by decide +kernel⟩, List.mem_of_getElem? (i := 290) (by decide +kernel), List.mem_of_getElem? (i := 949) (by decide +kernel), List.mem_of_getElem? (i := 950) (by decide +kernel)⟩
theorem lw_p81 : lw_okq (⟨"ArrayHouse$State", "refuse", "(I)I"⟩, 5) := ⟨⟨by decide +kernel, by decide +kernel⟩, List.mem_of_getElem? (i := 32) (by decide +kernel), List.mem_of_getElem? (i := 954) (by decide +kernel), List.mem_of_getElem? (i := 955) (by decide +kernel)⟩
theorem lw_p82 : lw_okq (⟨"ArrayHouse$Heap", "wholes", "(III)Z"⟩, 9) := ⟨⟨by decide +kernel, by decide +kernel⟩, List.mem_of_getElem? (i := 69) (by decide +kernel), List.mem_of_getElem? (i := 960) (by decide +kernel), List.mem_of_getElem? (i := 961) (by decide +kernel)⟩
theorem lw_p83 : lw_okq (⟨"ArrayHouse$Heap", "wide", "(II)I"⟩, 9) := ⟨⟨by decide +kernel, by decide +kernel⟩, List.mem_of_getElem? (i := 69) (by decide +kernel), List.mem_of_getElem? (i := 964) (by decide +kernel), List.mem_of_getElem? (i := 965) (by decide +kernel)⟩
theorem lw_p84 : lw_okq (⟨"ArrayHouse$Heap", "room", "(I)I"⟩, 9) := ⟨⟨by decide +kernel, by decide +kernel⟩, List.mem_of_getElem? (i := 69) (by decide +kernel), List.mem_of_getElem? (i := 969) (by decide +kernel), List.mem_of_getElem? (i := 970) (by decide +kernel)⟩
theorem lw_p85 : lw_okq (⟨"ArrayHouse$Reader", "source", "(III)I"⟩, 13) := ⟨⟨by decide +kernel, by decide +kernel⟩, List.mem_of_getElem? (i := 290) (by decide +kernel), List.mem_of_getElem? (i := 975) (by decide +kernel), List.mem_of_getElem? (i := 976) (by decide +kernel)⟩
theorem lw_p86 : lw_okq (⟨"ArrayHouse$Heap", "make", "(I)I"⟩, 9) := ⟨⟨by decide +kernel, by decide +kernel⟩, List.mem_of_getElem? (i := 69) (by decide +kernel), List.mem_of_getElem? (i := 982) (by decide +kernel), List.mem_of_getElem? (i := 983) (by decide +kernel)⟩
theorem lw_p87 : lw_okq (⟨"ArrayHouse$Heap", "copyItem", "(IIII)V"⟩, 9) := ⟨⟨by decide +kernel, by decide +kernel⟩, List.mem_of_getElem? (i := 69) (by decide +kernel), List.mem_of_getElem? (i := 987) (by decide +kernel), List.mem_of_getElem? (i := 988) (by decide +kernel)⟩
theorem lw_p88 : lw_okq (⟨"ArrayHouse$Heap", "sealWith", "(II)I"⟩, 9) := ⟨⟨by decide +kernel, by decide +kernel⟩, List.mem_of_getElem? (i := 69) (by decide +kernel), List.mem_of_getElem? (i := 991) (by decide +kernel), List.mem_of_getElem? (i := 992) (by decide +kernel)⟩
theorem lw_p89 : lw_okq (⟨"ArrayHouse$Heap", "findFill", "(II)V"⟩, 9) := ⟨⟨by decide +kernel, by decide +kernel⟩, List.mem_of_getElem? (i := 69) (by decide +kernel), List.mem_of_getElem? (i := 995) (by decide +kernel), List.mem_of_getElem? (i := 996) (by decide +kernel)⟩
theorem lw_p90 : lw_okq (⟨"ArrayHouse$Heap", "blanked", "(I)I"⟩, 9) := ⟨⟨by decide +kernel, by decide +kernel⟩, List.mem_of_getElem? (i := 69) (by decide +kernel), List.mem_of_getElem? (i := 999) (by decide +kernel), List.mem_of_getElem? (i := 1000) (by decide +kernel)⟩
theorem lw_p91 : lw_okq (⟨"ArrayHouse$Reader", "functionAtEnd", "(III)I"⟩, 13) := ⟨⟨by decide +kernel, by decide +kernel⟩, List.mem_of_getElem? (i := 290) (by decide +kernel), List.mem_of_getElem? (i := 1004) (by decide +kernel), List.mem_of_getElem? (i := 1005) (by decide +kernel)⟩
theorem lw_p92 : lw_okq (⟨"ArrayHouse$Reader", "function", "(II)I"⟩, 13) := ⟨⟨by decide +kernel, by decide +kernel⟩, List.mem_of_getElem? (i := 290) (by decide +kernel), List.mem_of_getElem? (i := 1008) (by decide +kernel), List.mem_of_getElem? (i := 1009) (by decide +kernel)⟩
theorem lw_p93 : lw_okq (⟨"ArrayHouse$Reader", "workedOut", "(I)I"⟩, 13) := ⟨⟨by decide +kernel, by decide +kernel⟩, List.mem_of_getElem? (i := 290) (by decide +kernel), List.mem_of_getElem? (i := 1012) (by decide +kernel), List.mem_of_getElem? (i := 1013) (by decide +kernel)⟩
theorem lw_p94 : lw_okq (⟨"ArrayHouse$Reader", "define", "(III)V"⟩, 13) := ⟨⟨by decide +kernel, by decide +kernel⟩, List.mem_of_getElem? (i := 290) (by decide +kernel), List.mem_of_getElem? (i := 1016) (by decide +kernel), List.mem_of_getElem? (i := 1017) (by decide +kernel)⟩
theorem lw_p95 : lw_okq (⟨"ArrayHouse$Places", "slotFor", "(III)I"⟩, 16) := ⟨⟨by decide +kernel, by decide +kernel⟩, List.mem_of_getElem? (i := 151) (by decide +kernel), List.mem_of_getElem? (i := 1020) (by decide +kernel), List.mem_of_getElem? (i := 1021) (by decide +kernel)⟩
def lw_privs_6 : List (MethodName × Nat) := [(⟨"ArrayHouse$Reader", "locate", "(II)I"⟩, 13), (⟨"ArrayHouse$State", "refuse", "(I)I"⟩, 5), (⟨"ArrayHouse$Heap", "wholes", "(III)Z"⟩, 9), (⟨"ArrayHouse$Heap", "wide", "(II)I"⟩, 9), (⟨"ArrayHouse$Heap", "room", "(I)I"⟩, 9), (⟨"ArrayHouse$Reader", "source", "(III)I"⟩, 13), (⟨"ArrayHouse$Heap", "make", "(I)I"⟩, 9), (⟨"ArrayHouse$Heap", "copyItem", "(IIII)V"⟩, 9), (⟨"ArrayHouse$Heap", "sealWith", "(II)I"⟩, 9), (⟨"ArrayHouse$Heap", "findFill", "(II)V"⟩, 9), (⟨"ArrayHouse$Heap", "blanked", "(I)I"⟩, 9), (⟨"ArrayHouse$Reader", "functionAtEnd", "(III)I"⟩, 13), (⟨"ArrayHouse$Reader", "function", "(II)I"⟩, 13), (⟨"ArrayHouse$Reader", "workedOut", "(I)I"⟩, 13), (⟨"ArrayHouse$Reader", "define", "(III)V"⟩, 13), (⟨"ArrayHouse$Places", "slotFor", "(III)I"⟩, 16)]
theorem lw_r6 : ∀ q ∈ lw_privs_6, lw_okq q := List.forall_mem_cons.mpr ⟨lw_p80, List.forall_mem_cons.mpr ⟨lw_p81, List.forall_mem_cons.mpr ⟨lw_p82, List.forall_mem_cons.mpr ⟨lw_p83, List.forall_mem_cons.mpr ⟨lw_p84, List.forall_mem_cons.mpr ⟨lw_p85, List.forall_mem_cons.mpr ⟨lw_p86, List.forall_mem_cons.mpr ⟨lw_p87, List.forall_mem_cons.mpr ⟨lw_p88, List.forall_mem_cons.mpr ⟨lw_p89, List.forall_mem_cons.mpr ⟨lw_p90, List.forall_mem_cons.mpr ⟨lw_p91, List.forall_mem_cons.mpr ⟨lw_p92, List.forall_mem_cons.mpr ⟨lw_p93, List.forall_mem_cons.mpr ⟨lw_p94, List.forall_mem_cons.mpr ⟨lw_p95, fun _ h => absurd h List.not_mem_nil⟩⟩⟩⟩⟩⟩⟩⟩⟩⟩⟩⟩⟩⟩⟩⟩
theorem lw_p96 : lw_okq (⟨"ArrayHouse$Reader", "houseBytes", "()I"⟩, 13) := ⟨⟨by decide +kernel, by decide +kernel⟩, List.mem_of_getElem? (i := 290) (by decide +kernel), List.mem_of_getElem? (i := 1025) (by decide +kernel), List.mem_of_getElem? (i := 1026) (by decide +kernel)⟩
theorem lw_p97 : lw_okq (⟨"ArrayHouse$Reader", "bytesAt", "(I)I"⟩, 13) := ⟨⟨by decide +kernel, by decide +kernel⟩, List.mem_of_getElem? (i := 290) (by decide +kernel), List.mem_of_getElem? (i := 1029) (by decide +kernel), List.mem_of_getElem? (i := 1030) (by decide +kernel)⟩
theorem lw_p98 : lw_okq (⟨"ArrayHouse$Places", "mean", "(IIII)V"⟩, 16) := ⟨⟨by decide +kernel, by decide +kernel⟩, List.mem_of_getElem? (i := 151) (by decide +kernel), List.mem_of_getElem? (i := 1033) (by decide +kernel), List.mem_of_getElem? (i := 1034) (by decide +kernel)⟩
theorem lw_p99 : lw_okq (⟨"ArrayHouse$Reader", "strand", "(II)I"⟩, 13) := ⟨⟨by decide +kernel, by decide +kernel⟩, List.mem_of_getElem? (i := 290) (by decide +kernel), List.mem_of_getElem? (i := 1037) (by decide +kernel), List.mem_of_getElem? (i := 1038) (by decide +kernel)⟩
theorem lw_p100 : lw_okq (⟨"ArrayHouse$Heap", "putBoxed", "(III)V"⟩, 9) := ⟨⟨by decide +kernel, by decide +kernel⟩, List.mem_of_getElem? (i := 69) (by decide +kernel), List.mem_of_getElem? (i := 1041) (by decide +kernel), List.mem_of_getElem? (i := 1042) (by decide +kernel)⟩
theorem lw_p101 : lw_okq (⟨"ArrayHouse$Reader", "assign", "(II)V"⟩, 13) := ⟨⟨by decide +kernel, by decide +kernel⟩, List.mem_of_getElem? (i := 290) (by decide +kernel), List.mem_of_getElem? (i := 1046) (by decide +kernel), List.mem_of_getElem? (i := 1047) (by decide +kernel)⟩
theorem lw_p102 : lw_okq (⟨"ArrayHouse$Reader", "slotHere", "(I)I"⟩, 13) := ⟨⟨by decide +kernel, by decide +kernel⟩, List.mem_of_getElem? (i := 290) (by decide +kernel), List.mem_of_getElem? (i := 1050) (by decide +kernel), List.mem_of_getElem? (i := 1051) (by decide +kernel)⟩
theorem lw_p103 : lw_okq (⟨"ArrayHouse$Reader", "give", "(II)V"⟩, 13) := ⟨⟨by decide +kernel, by decide +kernel⟩, List.mem_of_getElem? (i := 290) (by decide +kernel), List.mem_of_getElem? (i := 1054) (by decide +kernel), List.mem_of_getElem? (i := 1055) (by decide +kernel)⟩
theorem lw_p104 : lw_okq (⟨"ArrayHouse$Reader", "shareOut", "(II)V"⟩, 13) := ⟨⟨by decide +kernel, by decide +kernel⟩, List.mem_of_getElem? (i := 290) (by decide +kernel), List.mem_of_getElem? (i := 1058) (by decide +kernel), List.mem_of_getElem? (i := 1059) (by decide +kernel)⟩
theorem lw_p105 : lw_okq (⟨"ArrayHouse$Heap", "opened", "(II)I"⟩, 9) := ⟨⟨by decide +kernel, by decide +kernel⟩, List.mem_of_getElem? (i := 69) (by decide +kernel), List.mem_of_getElem? (i := 1062) (by decide +kernel), List.mem_of_getElem? (i := 1063) (by decide +kernel)⟩
theorem lw_p106 : lw_okq (⟨"ArrayHouse$Reader", "combine", "(II)V"⟩, 13) := ⟨⟨by decide +kernel, by decide +kernel⟩, List.mem_of_getElem? (i := 290) (by decide +kernel), List.mem_of_getElem? (i := 1067) (by decide +kernel), List.mem_of_getElem? (i := 1068) (by decide +kernel)⟩
theorem lw_p107 : lw_okq (⟨"ArrayHouse$Reader", "valueSlot", "(I)I"⟩, 13) := ⟨⟨by decide +kernel, by decide +kernel⟩, List.mem_of_getElem? (i := 290) (by decide +kernel), List.mem_of_getElem? (i := 1071) (by decide +kernel), List.mem_of_getElem? (i := 1072) (by decide +kernel)⟩
theorem lw_p108 : lw_okq (⟨"ArrayHouse$Reader", "apply", "(III)I"⟩, 13) := ⟨⟨by decide +kernel, by decide +kernel⟩, List.mem_of_getElem? (i := 290) (by decide +kernel), List.mem_of_getElem? (i := 1075) (by decide +kernel), List.mem_of_getElem? (i := 1076) (by decide +kernel)⟩
theorem lw_p109 : lw_okq (⟨"ArrayHouse$Reader", "fits", "(IZ)Z"⟩, 13) := ⟨⟨by decide +kernel, by decide +kernel⟩, List.mem_of_getElem? (i := 290) (by decide +kernel), List.mem_of_getElem? (i := 1079) (by decide +kernel), List.mem_of_getElem? (i := 1080) (by decide +kernel)⟩
theorem lw_p110 : lw_okq (⟨"ArrayHouse$Reader", "primitive", "(IIII)I"⟩, 13) := ⟨⟨by decide +kernel, by decide +kernel⟩, List.mem_of_getElem? (i := 290) (by decide +kernel), List.mem_of_getElem? (i := 1083) (by decide +kernel), List.mem_of_getElem? (i := 1084) (by decide +kernel)⟩
theorem lw_p111 : lw_okq (⟨"ArrayHouse$Scalars", "alone", "(II)I"⟩, 4) := ⟨⟨by decide +kernel, by decide +kernel⟩, List.mem_of_getElem? (i := 296) (by decide +kernel), List.mem_of_getElem? (i := 1087) (by decide +kernel), List.mem_of_getElem? (i := 1088) (by decide +kernel)⟩
def lw_privs_7 : List (MethodName × Nat) := [(⟨"ArrayHouse$Reader", "houseBytes", "()I"⟩, 13), (⟨"ArrayHouse$Reader", "bytesAt", "(I)I"⟩, 13), (⟨"ArrayHouse$Places", "mean", "(IIII)V"⟩, 16), (⟨"ArrayHouse$Reader", "strand", "(II)I"⟩, 13), (⟨"ArrayHouse$Heap", "putBoxed", "(III)V"⟩, 9), (⟨"ArrayHouse$Reader", "assign", "(II)V"⟩, 13), (⟨"ArrayHouse$Reader", "slotHere", "(I)I"⟩, 13), (⟨"ArrayHouse$Reader", "give", "(II)V"⟩, 13), (⟨"ArrayHouse$Reader", "shareOut", "(II)V"⟩, 13), (⟨"ArrayHouse$Heap", "opened", "(II)I"⟩, 9), (⟨"ArrayHouse$Reader", "combine", "(II)V"⟩, 13), (⟨"ArrayHouse$Reader", "valueSlot", "(I)I"⟩, 13), (⟨"ArrayHouse$Reader", "apply", "(III)I"⟩, 13), (⟨"ArrayHouse$Reader", "fits", "(IZ)Z"⟩, 13), (⟨"ArrayHouse$Reader", "primitive", "(IIII)I"⟩, 13), (⟨"ArrayHouse$Scalars", "alone", "(II)I"⟩, 4)]
theorem lw_r7 : ∀ q ∈ lw_privs_7, lw_okq q := List.forall_mem_cons.mpr ⟨lw_p96, List.forall_mem_cons.mpr ⟨lw_p97, List.forall_mem_cons.mpr ⟨lw_p98, List.forall_mem_cons.mpr ⟨lw_p99, List.forall_mem_cons.mpr ⟨lw_p100, List.forall_mem_cons.mpr ⟨lw_p101, List.forall_mem_cons.mpr ⟨lw_p102, List.forall_mem_cons.mpr ⟨lw_p103, List.forall_mem_cons.mpr ⟨lw_p104, List.forall_mem_cons.mpr ⟨lw_p105, List.forall_mem_cons.mpr ⟨lw_p106, List.forall_mem_cons.mpr ⟨lw_p107, List.forall_mem_cons.mpr ⟨lw_p108, List.forall_mem_cons.mpr ⟨lw_p109, List.forall_mem_cons.mpr ⟨lw_p110, List.forall_mem_cons.mpr ⟨lw_p111, fun _ h => absurd h List.not_mem_nil⟩⟩⟩⟩⟩⟩⟩⟩⟩⟩⟩⟩⟩⟩⟩⟩
theorem lw_p112 : lw_okq (⟨"ArrayHouse$Heap", "like", "(I)I"⟩, 9) := ⟨⟨by decide +kernel, by decide +kernel⟩, List.mem_of_getElem? (i := 69) (by decide +kernel), List.mem_of_getElem? (i := 1091) (by decide +kernel), List.mem_of_getElem? (i := 1092) (by decide +kernel)⟩
theorem lw_p113 : lw_okq (⟨"ArrayHouse$Heap", "copyShape", "(I)V"⟩, 9) := ⟨⟨by decide +kernel, by decide +kernel⟩, List.mem_of_getElem? (i := 69) (by decide +kernel), List.mem_of_getElem? (i := 1095) (by decide +kernel), List.mem_of_getElem? (i := 1096) (by decide +kernel)⟩
theorem lw_p114 : lw_okq (⟨"ArrayHouse$Scalars", "one", "(III)Z"⟩, 4) := ⟨⟨by decide +kernel, by decide +kernel⟩, List.mem_of_getElem? (i := 296) (by decide +kernel), List.mem_of_getElem? (i := 1107) (by decide +kernel), List.mem_of_getElem? (i := 1108) (by decide +kernel)⟩
theorem lw_p115 : lw_okq (⟨"ArrayHouse$Scalars", "settle", "(JJ)Z"⟩, 4) := ⟨⟨by decide +kernel, by decide +kernel⟩, List.mem_of_getElem? (i := 296) (by decide +kernel), List.mem_of_getElem? (i := 1111) (by decide +kernel), List.mem_of_getElem? (i := 1112) (by decide +kernel)⟩
theorem lw_p116 : lw_okq (⟨"ArrayHouse$State", "fail", "(I)Z"⟩, 5) := ⟨⟨by decide +kernel, by decide +kernel⟩, List.mem_of_getElem? (i := 32) (by decide +kernel), List.mem_of_getElem? (i := 1116) (by decide +kernel), List.mem_of_getElem? (i := 1117) (by decide +kernel)⟩
theorem lw_p117 : lw_okq (⟨"ArrayHouse$Scalars", "whole", "(I)Z"⟩, 4) := ⟨⟨by decide +kernel, by decide +kernel⟩, List.mem_of_getElem? (i := 296) (by decide +kernel), List.mem_of_getElem? (i := 1125) (by decide +kernel), List.mem_of_getElem? (i := 1126) (by decide +kernel)⟩
theorem lw_p118 : lw_okq (⟨"ArrayHouse$Scalars", "factorial", "(II)Z"⟩, 4) := ⟨⟨by decide +kernel, by decide +kernel⟩, List.mem_of_getElem? (i := 296) (by decide +kernel), List.mem_of_getElem? (i := 1132) (by decide +kernel), List.mem_of_getElem? (i := 1133) (by decide +kernel)⟩
theorem lw_p119 : lw_okq (⟨"ArrayHouse$Scalars", "below", "(JJ)J"⟩, 4) := ⟨⟨by decide +kernel, by decide +kernel⟩, List.mem_of_getElem? (i := 296) (by decide +kernel), List.mem_of_getElem? (i := 1136) (by decide +kernel), List.mem_of_getElem? (i := 1137) (by decide +kernel)⟩
theorem lw_p120 : lw_okq (⟨"ArrayHouse$Scalars", "isBit", "(JJ)Z"⟩, 4) := ⟨⟨by decide +kernel, by decide +kernel⟩, List.mem_of_getElem? (i := 296) (by decide +kernel), List.mem_of_getElem? (i := 1143) (by decide +kernel), List.mem_of_getElem? (i := 1144) (by decide +kernel)⟩
theorem lw_p121 : lw_okq (⟨"ArrayHouse$Scalars", "roll", "(II)Z"⟩, 4) := ⟨⟨by decide +kernel, by decide +kernel⟩, List.mem_of_getElem? (i := 296) (by decide +kernel), List.mem_of_getElem? (i := 1147) (by decide +kernel), List.mem_of_getElem? (i := 1148) (by decide +kernel)⟩
theorem lw_p122 : lw_okq (⟨"ArrayHouse$State", "roll", "(I)I"⟩, 5) := ⟨⟨by decide +kernel, by decide +kernel⟩, List.mem_of_getElem? (i := 32) (by decide +kernel), List.mem_of_getElem? (i := 1151) (by decide +kernel), List.mem_of_getElem? (i := 1152) (by decide +kernel)⟩
theorem lw_p123 : lw_okq (⟨"ArrayHouse$Scalars", "beside", "(III)I"⟩, 4) := ⟨⟨by decide +kernel, by decide +kernel⟩, List.mem_of_getElem? (i := 296) (by decide +kernel), List.mem_of_getElem? (i := 1158) (by decide +kernel), List.mem_of_getElem? (i := 1159) (by decide +kernel)⟩
theorem lw_p124 : lw_okq (⟨"ArrayHouse$Heap", "beside", "(II)I"⟩, 9) := ⟨⟨by decide +kernel, by decide +kernel⟩, List.mem_of_getElem? (i := 69) (by decide +kernel), List.mem_of_getElem? (i := 1162) (by decide +kernel), List.mem_of_getElem? (i := 1163) (by decide +kernel)⟩
theorem lw_p125 : lw_okq (⟨"ArrayHouse$Heap", "sameExtents", "(II)Z"⟩, 9) := ⟨⟨by decide +kernel, by decide +kernel⟩, List.mem_of_getElem? (i := 69) (by decide +kernel), List.mem_of_getElem? (i := 1166) (by decide +kernel), List.mem_of_getElem? (i := 1167) (by decide +kernel)⟩
theorem lw_p126 : lw_okq (⟨"ArrayHouse$Scalars", "two", "(IJJJJ)Z"⟩, 4) := ⟨⟨by decide +kernel, by decide +kernel⟩, List.mem_of_getElem? (i := 296) (by decide +kernel), List.mem_of_getElem? (i := 1172) (by decide +kernel), List.mem_of_getElem? (i := 1173) (by decide +kernel)⟩
theorem lw_p127 : lw_okq (⟨"ArrayHouse$Scalars", "divide", "(JJJJ)Z"⟩, 4) := ⟨⟨by decide +kernel, by decide +kernel⟩, List.mem_of_getElem? (i := 296) (by decide +kernel), List.mem_of_getElem? (i := 1179) (by decide +kernel), List.mem_of_getElem? (i := 1180) (by decide +kernel)⟩
def lw_privs_8 : List (MethodName × Nat) := [(⟨"ArrayHouse$Heap", "like", "(I)I"⟩, 9), (⟨"ArrayHouse$Heap", "copyShape", "(I)V"⟩, 9), (⟨"ArrayHouse$Scalars", "one", "(III)Z"⟩, 4), (⟨"ArrayHouse$Scalars", "settle", "(JJ)Z"⟩, 4), (⟨"ArrayHouse$State", "fail", "(I)Z"⟩, 5), (⟨"ArrayHouse$Scalars", "whole", "(I)Z"⟩, 4), (⟨"ArrayHouse$Scalars", "factorial", "(II)Z"⟩, 4), (⟨"ArrayHouse$Scalars", "below", "(JJ)J"⟩, 4), (⟨"ArrayHouse$Scalars", "isBit", "(JJ)Z"⟩, 4), (⟨"ArrayHouse$Scalars", "roll", "(II)Z"⟩, 4), (⟨"ArrayHouse$State", "roll", "(I)I"⟩, 5), (⟨"ArrayHouse$Scalars", "beside", "(III)I"⟩, 4), (⟨"ArrayHouse$Heap", "beside", "(II)I"⟩, 9), (⟨"ArrayHouse$Heap", "sameExtents", "(II)Z"⟩, 9), (⟨"ArrayHouse$Scalars", "two", "(IJJJJ)Z"⟩, 4), (⟨"ArrayHouse$Scalars", "divide", "(JJJJ)Z"⟩, 4)]
theorem lw_r8 : ∀ q ∈ lw_privs_8, lw_okq q := List.forall_mem_cons.mpr ⟨lw_p112, List.forall_mem_cons.mpr ⟨lw_p113, List.forall_mem_cons.mpr ⟨lw_p114, List.forall_mem_cons.mpr ⟨lw_p115, List.forall_mem_cons.mpr ⟨lw_p116, List.forall_mem_cons.mpr ⟨lw_p117, List.forall_mem_cons.mpr ⟨lw_p118, List.forall_mem_cons.mpr ⟨lw_p119, List.forall_mem_cons.mpr ⟨lw_p120, List.forall_mem_cons.mpr ⟨lw_p121, List.forall_mem_cons.mpr ⟨lw_p122, List.forall_mem_cons.mpr ⟨lw_p123, List.forall_mem_cons.mpr ⟨lw_p124, List.forall_mem_cons.mpr ⟨lw_p125, List.forall_mem_cons.mpr ⟨lw_p126, List.forall_mem_cons.mpr ⟨lw_p127, fun _ h => absurd h List.not_mem_nil⟩⟩⟩⟩⟩⟩⟩⟩⟩⟩⟩⟩⟩⟩⟩⟩
theorem lw_p128 : lw_okq (⟨"ArrayHouse$Scalars", "power", "(JJJJ)Z"⟩, 4) := ⟨⟨by decide +kernel, by decide +kernel⟩, List.mem_of_getElem? (i := 296) (by decide +kernel), List.mem_of_getElem? (i := 1183) (by decide +kernel), List.mem_of_getElem? (i := 1184) (by decide +kernel)⟩
theorem lw_p129 : lw_okq (⟨"ArrayHouse$Scalars", "residue", "(JJJJ)Z"⟩, 4) := ⟨⟨by decide +kernel, by decide +kernel⟩, List.mem_of_getElem? (i := 296) (by decide +kernel), List.mem_of_getElem? (i := 1188) (by decide +kernel), List.mem_of_getElem? (i := 1189) (by decide +kernel)⟩
theorem lw_p130 : lw_okq (⟨"ArrayHouse$Scalars", "choices", "(JJJJ)Z"⟩, 4) := ⟨⟨by decide +kernel, by decide +kernel⟩, List.mem_of_getElem? (i := 296) (by decide +kernel), List.mem_of_getElem? (i := 1195) (by decide +kernel), List.mem_of_getElem? (i := 1196) (by decide +kernel)⟩
theorem lw_p131 : lw_okq (⟨"ArrayHouse$Shapes", "extents", "(I)I"⟩, 5) := ⟨⟨by decide +kernel, by decide +kernel⟩, List.mem_of_getElem? (i := 245) (by decide +kernel), List.mem_of_getElem? (i := 1202) (by decide +kernel), List.mem_of_getElem? (i := 1203) (by decide +kernel)⟩
theorem lw_p132 : lw_okq (⟨"ArrayHouse$Heap", "slice", "(IIII)I"⟩, 9) := ⟨⟨by decide +kernel, by decide +kernel⟩, List.mem_of_getElem? (i := 69) (by decide +kernel), List.mem_of_getElem? (i := 1211) (by decide +kernel), List.mem_of_getElem? (i := 1212) (by decide +kernel)⟩
theorem lw_p133 : lw_okq (⟨"ArrayHouse$Heap", "enclosed", "(I)I"⟩, 9) := ⟨⟨by decide +kernel, by decide +kernel⟩, List.mem_of_getElem? (i := 69) (by decide +kernel), List.mem_of_getElem? (i := 1218) (by decide +kernel), List.mem_of_getElem? (i := 1219) (by decide +kernel)⟩
theorem lw_p134 : lw_okq (⟨"ArrayHouse$Shapes", "mix", "(I)I"⟩, 5) := ⟨⟨by decide +kernel, by decide +kernel⟩, List.mem_of_getElem? (i := 245) (by decide +kernel), List.mem_of_getElem? (i := 1222) (by decide +kernel), List.mem_of_getElem? (i := 1223) (by decide +kernel)⟩
theorem lw_p135 : lw_okq (⟨"ArrayHouse$Shapes", "greatestRank", "(I)I"⟩, 5) := ⟨⟨by decide +kernel, by decide +kernel⟩, List.mem_of_getElem? (i := 245) (by decide +kernel), List.mem_of_getElem? (i := 1226) (by decide +kernel), List.mem_of_getElem? (i := 1227) (by decide +kernel)⟩
theorem lw_p136 : lw_okq (⟨"ArrayHouse$Shapes", "widen", "(IIII)V"⟩, 5) := ⟨⟨by decide +kernel, by decide +kernel⟩, List.mem_of_getElem? (i := 245) (by decide +kernel), List.mem_of_getElem? (i := 1236) (by decide +kernel), List.mem_of_getElem? (i := 1237) (by decide +kernel)⟩
theorem lw_p137 : lw_okq (⟨"ArrayHouse$Shapes", "findInside", "(II)V"⟩, 5) := ⟨⟨by decide +kernel, by decide +kernel⟩, List.mem_of_getElem? (i := 245) (by decide +kernel), List.mem_of_getElem? (i := 1242) (by decide +kernel), List.mem_of_getElem? (i := 1243) (by decide +kernel)⟩
theorem lw_p138 : lw_okq (⟨"ArrayHouse$Heap", "inner", "(II)I"⟩, 9) := ⟨⟨by decide +kernel, by decide +kernel⟩, List.mem_of_getElem? (i := 69) (by decide +kernel), List.mem_of_getElem? (i := 1247) (by decide +kernel), List.mem_of_getElem? (i := 1248) (by decide +kernel)⟩
theorem lw_p139 : lw_okq (⟨"ArrayHouse$Shapes", "lodge", "(IIIII)V"⟩, 5) := ⟨⟨by decide +kernel, by decide +kernel⟩, List.mem_of_getElem? (i := 245) (by decide +kernel), List.mem_of_getElem? (i := 1252) (by decide +kernel), List.mem_of_getElem? (i := 1253) (by decide +kernel)⟩
theorem lw_p140 : lw_okq (⟨"ArrayHouse$Shapes", "split", "(I)I"⟩, 5) := ⟨⟨by decide +kernel, by decide +kernel⟩, List.mem_of_getElem? (i := 245) (by decide +kernel), List.mem_of_getElem? (i := 1257) (by decide +kernel), List.mem_of_getElem? (i := 1258) (by decide +kernel)⟩
theorem lw_p141 : lw_okq (⟨"ArrayHouse$Shapes", "blanks", "(II)I"⟩, 5) := ⟨⟨by decide +kernel, by decide +kernel⟩, List.mem_of_getElem? (i := 245) (by decide +kernel), List.mem_of_getElem? (i := 1261) (by decide +kernel), List.mem_of_getElem? (i := 1262) (by decide +kernel)⟩
theorem lw_p142 : lw_okq (⟨"ArrayHouse$Shapes", "enlist", "(I)I"⟩, 5) := ⟨⟨by decide +kernel, by decide +kernel⟩, List.mem_of_getElem? (i := 245) (by decide +kernel), List.mem_of_getElem? (i := 1266) (by decide +kernel), List.mem_of_getElem? (i := 1267) (by decide +kernel)⟩
theorem lw_p143 : lw_okq (⟨"ArrayHouse$Shapes", "leaves", "(I)I"⟩, 5) := ⟨⟨by decide +kernel, by decide +kernel⟩, List.mem_of_getElem? (i := 245) (by decide +kernel), List.mem_of_getElem? (i := 1270) (by decide +kernel), List.mem_of_getElem? (i := 1271) (by decide +kernel)⟩
def lw_privs_9 : List (MethodName × Nat) := [(⟨"ArrayHouse$Scalars", "power", "(JJJJ)Z"⟩, 4), (⟨"ArrayHouse$Scalars", "residue", "(JJJJ)Z"⟩, 4), (⟨"ArrayHouse$Scalars", "choices", "(JJJJ)Z"⟩, 4), (⟨"ArrayHouse$Shapes", "extents", "(I)I"⟩, 5), (⟨"ArrayHouse$Heap", "slice", "(IIII)I"⟩, 9), (⟨"ArrayHouse$Heap", "enclosed", "(I)I"⟩, 9), (⟨"ArrayHouse$Shapes", "mix", "(I)I"⟩, 5), (⟨"ArrayHouse$Shapes", "greatestRank", "(I)I"⟩, 5), (⟨"ArrayHouse$Shapes", "widen", "(IIII)V"⟩, 5), (⟨"ArrayHouse$Shapes", "findInside", "(II)V"⟩, 5), (⟨"ArrayHouse$Heap", "inner", "(II)I"⟩, 9), (⟨"ArrayHouse$Shapes", "lodge", "(IIIII)V"⟩, 5), (⟨"ArrayHouse$Shapes", "split", "(I)I"⟩, 5), (⟨"ArrayHouse$Shapes", "blanks", "(II)I"⟩, 5), (⟨"ArrayHouse$Shapes", "enlist", "(I)I"⟩, 5), (⟨"ArrayHouse$Shapes", "leaves", "(I)I"⟩, 5)]
theorem lw_r9 : ∀ q ∈ lw_privs_9, lw_okq q := List.forall_mem_cons.mpr ⟨lw_p128, List.forall_mem_cons.mpr ⟨lw_p129, List.forall_mem_cons.mpr ⟨lw_p130, List.forall_mem_cons.mpr ⟨lw_p131, List.forall_mem_cons.mpr ⟨lw_p132, List.forall_mem_cons.mpr ⟨lw_p133, List.forall_mem_cons.mpr ⟨lw_p134, List.forall_mem_cons.mpr ⟨lw_p135, List.forall_mem_cons.mpr ⟨lw_p136, List.forall_mem_cons.mpr ⟨lw_p137, List.forall_mem_cons.mpr ⟨lw_p138, List.forall_mem_cons.mpr ⟨lw_p139, List.forall_mem_cons.mpr ⟨lw_p140, List.forall_mem_cons.mpr ⟨lw_p141, List.forall_mem_cons.mpr ⟨lw_p142, List.forall_mem_cons.mpr ⟨lw_p143, fun _ h => absurd h List.not_mem_nil⟩⟩⟩⟩⟩⟩⟩⟩⟩⟩⟩⟩⟩⟩⟩⟩
theorem lw_p144 : lw_okq (⟨"ArrayHouse$Shapes", "pour", "(III)I"⟩, 5) := ⟨⟨by decide +kernel, by decide +kernel⟩, List.mem_of_getElem? (i := 245) (by decide +kernel), List.mem_of_getElem? (i := 1274) (by decide +kernel), List.mem_of_getElem? (i := 1275) (by decide +kernel)⟩
theorem lw_p145 : lw_okq (⟨"ArrayHouse$Shapes", "reverse", "(II)I"⟩, 5) := ⟨⟨by decide +kernel, by decide +kernel⟩, List.mem_of_getElem? (i := 245) (by decide +kernel), List.mem_of_getElem? (i := 1278) (by decide +kernel), List.mem_of_getElem? (i := 1279) (by decide +kernel)⟩
theorem lw_p146 : lw_okq (⟨"ArrayHouse$Shapes", "axisOf", "(II)I"⟩, 5) := ⟨⟨by decide +kernel, by decide +kernel⟩, List.mem_of_getElem? (i := 245) (by decide +kernel), List.mem_of_getElem? (i := 1282) (by decide +kernel), List.mem_of_getElem? (i := 1283) (by decide +kernel)⟩
theorem lw_p147 : lw_okq (⟨"ArrayHouse$Shapes", "transpose", "(I)I"⟩, 5) := ⟨⟨by decide +kernel, by decide +kernel⟩, List.mem_of_getElem? (i := 245) (by decide +kernel), List.mem_of_getElem? (i := 1289) (by decide +kernel), List.mem_of_getElem? (i := 1290) (by decide +kernel)⟩
theorem lw_p148 : lw_okq (⟨"ArrayHouse$Shapes", "turned", "(II)I"⟩, 5) := ⟨⟨by decide +kernel, by decide +kernel⟩, List.mem_of_getElem? (i := 245) (by decide +kernel), List.mem_of_getElem? (i := 1293) (by decide +kernel), List.mem_of_getElem? (i := 1294) (by decide +kernel)⟩
theorem lw_p149 : lw_okq (⟨"ArrayHouse$Shapes", "findPlace", "(II)V"⟩, 5) := ⟨⟨by decide +kernel, by decide +kernel⟩, List.mem_of_getElem? (i := 245) (by decide +kernel), List.mem_of_getElem? (i := 1298) (by decide +kernel), List.mem_of_getElem? (i := 1299) (by decide +kernel)⟩
theorem lw_p150 : lw_okq (⟨"ArrayHouse$Finds", "unique", "(I)I"⟩, 6) := ⟨⟨by decide +kernel, by decide +kernel⟩, List.mem_of_getElem? (i := 317) (by decide +kernel), List.mem_of_getElem? (i := 1302) (by decide +kernel), List.mem_of_getElem? (i := 1303) (by decide +kernel)⟩
theorem lw_p151 : lw_okq (⟨"ArrayHouse$Finds", "placeIn", "(III)I"⟩, 6) := ⟨⟨by decide +kernel, by decide +kernel⟩, List.mem_of_getElem? (i := 317) (by decide +kernel), List.mem_of_getElem? (i := 1311) (by decide +kernel), List.mem_of_getElem? (i := 1312) (by decide +kernel)⟩
theorem lw_p152 : lw_okq (⟨"ArrayHouse$Heap", "alike", "(IIII)Z"⟩, 9) := ⟨⟨by decide +kernel, by decide +kernel⟩, List.mem_of_getElem? (i := 69) (by decide +kernel), List.mem_of_getElem? (i := 1315) (by decide +kernel), List.mem_of_getElem? (i := 1316) (by decide +kernel)⟩
theorem lw_p153 : lw_okq (⟨"ArrayHouse$Heap", "matches", "(II)Z"⟩, 9) := ⟨⟨by decide +kernel, by decide +kernel⟩, List.mem_of_getElem? (i := 69) (by decide +kernel), List.mem_of_getElem? (i := 1319) (by decide +kernel), List.mem_of_getElem? (i := 1320) (by decide +kernel)⟩
theorem lw_p154 : lw_okq (⟨"ArrayHouse$Finds", "gathered", "(II)I"⟩, 6) := ⟨⟨by decide +kernel, by decide +kernel⟩, List.mem_of_getElem? (i := 317) (by decide +kernel), List.mem_of_getElem? (i := 1325) (by decide +kernel), List.mem_of_getElem? (i := 1326) (by decide +kernel)⟩
theorem lw_p155 : lw_okq (⟨"ArrayHouse$Finds", "grade", "(II)I"⟩, 6) := ⟨⟨by decide +kernel, by decide +kernel⟩, List.mem_of_getElem? (i := 317) (by decide +kernel), List.mem_of_getElem? (i := 1333) (by decide +kernel), List.mem_of_getElem? (i := 1334) (by decide +kernel)⟩
theorem lw_p156 : lw_okq (⟨"ArrayHouse$Finds", "merge", "(IIIII)V"⟩, 6) := ⟨⟨by decide +kernel, by decide +kernel⟩, List.mem_of_getElem? (i := 317) (by decide +kernel), List.mem_of_getElem? (i := 1338) (by decide +kernel), List.mem_of_getElem? (i := 1339) (by decide +kernel)⟩
theorem lw_p157 : lw_okq (⟨"ArrayHouse$Finds", "compareRows", "(III)I"⟩, 6) := ⟨⟨by decide +kernel, by decide +kernel⟩, List.mem_of_getElem? (i := 317) (by decide +kernel), List.mem_of_getElem? (i := 1343) (by decide +kernel), List.mem_of_getElem? (i := 1344) (by decide +kernel)⟩
theorem lw_p158 : lw_okq (⟨"ArrayHouse$Heap", "order", "(IIII)I"⟩, 9) := ⟨⟨by decide +kernel, by decide +kernel⟩, List.mem_of_getElem? (i := 69) (by decide +kernel), List.mem_of_getElem? (i := 1348) (by decide +kernel), List.mem_of_getElem? (i := 1349) (by decide +kernel)⟩
theorem lw_p159 : lw_okq (⟨"ArrayHouse$Heap", "orderInside", "(II)I"⟩, 9) := ⟨⟨by decide +kernel, by decide +kernel⟩, List.mem_of_getElem? (i := 69) (by decide +kernel), List.mem_of_getElem? (i := 1354) (by decide +kernel), List.mem_of_getElem? (i := 1355) (by decide +kernel)⟩
def lw_privs_10 : List (MethodName × Nat) := [(⟨"ArrayHouse$Shapes", "pour", "(III)I"⟩, 5), (⟨"ArrayHouse$Shapes", "reverse", "(II)I"⟩, 5), (⟨"ArrayHouse$Shapes", "axisOf", "(II)I"⟩, 5), (⟨"ArrayHouse$Shapes", "transpose", "(I)I"⟩, 5), (⟨"ArrayHouse$Shapes", "turned", "(II)I"⟩, 5), (⟨"ArrayHouse$Shapes", "findPlace", "(II)V"⟩, 5), (⟨"ArrayHouse$Finds", "unique", "(I)I"⟩, 6), (⟨"ArrayHouse$Finds", "placeIn", "(III)I"⟩, 6), (⟨"ArrayHouse$Heap", "alike", "(IIII)Z"⟩, 9), (⟨"ArrayHouse$Heap", "matches", "(II)Z"⟩, 9), (⟨"ArrayHouse$Finds", "gathered", "(II)I"⟩, 6), (⟨"ArrayHouse$Finds", "grade", "(II)I"⟩, 6), (⟨"ArrayHouse$Finds", "merge", "(IIIII)V"⟩, 6), (⟨"ArrayHouse$Finds", "compareRows", "(III)I"⟩, 6), (⟨"ArrayHouse$Heap", "order", "(IIII)I"⟩, 9), (⟨"ArrayHouse$Heap", "orderInside", "(II)I"⟩, 9)]
theorem lw_r10 : ∀ q ∈ lw_privs_10, lw_okq q := List.forall_mem_cons.mpr ⟨lw_p144, List.forall_mem_cons.mpr ⟨lw_p145, List.forall_mem_cons.mpr ⟨lw_p146, List.forall_mem_cons.mpr ⟨lw_p147, List.forall_mem_cons.mpr ⟨lw_p148, List.forall_mem_cons.mpr ⟨lw_p149, List.forall_mem_cons.mpr ⟨lw_p150, List.forall_mem_cons.mpr ⟨lw_p151, List.forall_mem_cons.mpr ⟨lw_p152, List.forall_mem_cons.mpr ⟨lw_p153, List.forall_mem_cons.mpr ⟨lw_p154, List.forall_mem_cons.mpr ⟨lw_p155, List.forall_mem_cons.mpr ⟨lw_p156, List.forall_mem_cons.mpr ⟨lw_p157, List.forall_mem_cons.mpr ⟨lw_p158, List.forall_mem_cons.mpr ⟨lw_p159, fun _ h => absurd h List.not_mem_nil⟩⟩⟩⟩⟩⟩⟩⟩⟩⟩⟩⟩⟩⟩⟩⟩
theorem lw_p160 : lw_okq (⟨"ArrayHouse$Finds", "iota", "(I)I"⟩, 6) := ⟨⟨by decide +kernel, by decide +kernel⟩, List.mem_of_getElem? (i := 317) (by decide +kernel), List.mem_of_getElem? (i := 1362) (by decide +kernel), List.mem_of_getElem? (i := 1363) (by decide +kernel)⟩
theorem lw_p161 : lw_okq (⟨"ArrayHouse$Finds", "coordinates", "(II)I"⟩, 6) := ⟨⟨by decide +kernel, by decide +kernel⟩, List.mem_of_getElem? (i := 317) (by decide +kernel), List.mem_of_getElem? (i := 1369) (by decide +kernel), List.mem_of_getElem? (i := 1370) (by decide +kernel)⟩
theorem lw_p162 : lw_okq (⟨"ArrayHouse$Finds", "sealPlaces", "(II)I"⟩, 6) := ⟨⟨by decide +kernel, by decide +kernel⟩, List.mem_of_getElem? (i := 317) (by decide +kernel), List.mem_of_getElem? (i := 1374) (by decide +kernel), List.mem_of_getElem? (i := 1375) (by decide +kernel)⟩
theorem lw_p163 : lw_okq (⟨"ArrayHouse$Finds", "where", "(I)I"⟩, 6) := ⟨⟨by decide +kernel, by decide +kernel⟩, List.mem_of_getElem? (i := 317) (by decide +kernel), List.mem_of_getElem? (i := 1378) (by decide +kernel), List.mem_of_getElem? (i := 1379) (by decide +kernel)⟩
theorem lw_p164 : lw_okq (⟨"ArrayHouse$Finds", "format", "(I)I"⟩, 6) := ⟨⟨by decide +kernel, by decide +kernel⟩, List.mem_of_getElem? (i := 317) (by decide +kernel), List.mem_of_getElem? (i := 1382) (by decide +kernel), List.mem_of_getElem? (i := 1383) (by decide +kernel)⟩
theorem lw_p165 : lw_okq (⟨"ArrayHouse$Writer", "write", "(I)V"⟩, 4) := ⟨⟨by decide +kernel, by decide +kernel⟩, List.mem_of_getElem? (i := 218) (by decide +kernel), List.mem_of_getElem? (i := 1386) (by decide +kernel), List.mem_of_getElem? (i := 1387) (by decide +kernel)⟩
theorem lw_p166 : lw_okq (⟨"ArrayHouse$Writer", "add", "(I)V"⟩, 4) := ⟨⟨by decide +kernel, by decide +kernel⟩, List.mem_of_getElem? (i := 218) (by decide +kernel), List.mem_of_getElem? (i := 1391) (by decide +kernel), List.mem_of_getElem? (i := 1392) (by decide +kernel)⟩
theorem lw_p167 : lw_okq (⟨"ArrayHouse$Writer", "addWhole", "(I)V"⟩, 4) := ⟨⟨by decide +kernel, by decide +kernel⟩, List.mem_of_getElem? (i := 218) (by decide +kernel), List.mem_of_getElem? (i := 1396) (by decide +kernel), List.mem_of_getElem? (i := 1397) (by decide +kernel)⟩
theorem lw_p168 : lw_okq (⟨"ArrayHouse$Writer", "allSigns", "(I)Z"⟩, 4) := ⟨⟨by decide +kernel, by decide +kernel⟩, List.mem_of_getElem? (i := 218) (by decide +kernel), List.mem_of_getElem? (i := 1400) (by decide +kernel), List.mem_of_getElem? (i := 1401) (by decide +kernel)⟩
theorem lw_p169 : lw_okq (⟨"ArrayHouse$Writer", "item", "(II)V"⟩, 4) := ⟨⟨by decide +kernel, by decide +kernel⟩, List.mem_of_getElem? (i := 218) (by decide +kernel), List.mem_of_getElem? (i := 1407) (by decide +kernel), List.mem_of_getElem? (i := 1408) (by decide +kernel)⟩
theorem lw_p170 : lw_okq (⟨"ArrayHouse$Reader", "execute", "(I)I"⟩, 13) := ⟨⟨by decide +kernel, by decide +kernel⟩, List.mem_of_getElem? (i := 290) (by decide +kernel), List.mem_of_getElem? (i := 1413) (by decide +kernel), List.mem_of_getElem? (i := 1414) (by decide +kernel)⟩
theorem lw_p171 : lw_okq (⟨"ArrayHouse$Shapes", "reshape", "(II)I"⟩, 5) := ⟨⟨by decide +kernel, by decide +kernel⟩, List.mem_of_getElem? (i := 245) (by decide +kernel), List.mem_of_getElem? (i := 1421) (by decide +kernel), List.mem_of_getElem? (i := 1422) (by decide +kernel)⟩
theorem lw_p172 : lw_okq (⟨"ArrayHouse$Shapes", "join", "(III)I"⟩, 5) := ⟨⟨by decide +kernel, by decide +kernel⟩, List.mem_of_getElem? (i := 245) (by decide +kernel), List.mem_of_getElem? (i := 1428) (by decide +kernel), List.mem_of_getElem? (i := 1429) (by decide +kernel)⟩
theorem lw_p173 : lw_okq (⟨"ArrayHouse$Shapes", "laminate", "(III)I"⟩, 5) := ⟨⟨by decide +kernel, by decide +kernel⟩, List.mem_of_getElem? (i := 245) (by decide +kernel), List.mem_of_getElem? (i := 1435) (by decide +kernel), List.mem_of_getElem? (i := 1436) (by decide +kernel)⟩
theorem lw_p174 : lw_okq (⟨"ArrayHouse$Shapes", "rotate", "(III)I"⟩, 5) := ⟨⟨by decide +kernel, by decide +kernel⟩, List.mem_of_getElem? (i := 245) (by decide +kernel), List.mem_of_getElem? (i := 1441) (by decide +kernel), List.mem_of_getElem? (i := 1442) (by decide +kernel)⟩
theorem lw_p175 : lw_okq (⟨"ArrayHouse$Heap", "allWholes", "(I)Z"⟩, 9) := ⟨⟨by decide +kernel, by decide +kernel⟩, List.mem_of_getElem? (i := 69) (by decide +kernel), List.mem_of_getElem? (i := 1445) (by decide +kernel), List.mem_of_getElem? (i := 1446) (by decide +kernel)⟩
def lw_privs_11 : List (MethodName × Nat) := [(⟨"ArrayHouse$Finds", "iota", "(I)I"⟩, 6), (⟨"ArrayHouse$Finds", "coordinates", "(II)I"⟩, 6), (⟨"ArrayHouse$Finds", "sealPlaces", "(II)I"⟩, 6), (⟨"ArrayHouse$Finds", "where", "(I)I"⟩, 6), (⟨"ArrayHouse$Finds", "format", "(I)I"⟩, 6), (⟨"ArrayHouse$Writer", "write", "(I)V"⟩, 4), (⟨"ArrayHouse$Writer", "add", "(I)V"⟩, 4), (⟨"ArrayHouse$Writer", "addWhole", "(I)V"⟩, 4), (⟨"ArrayHouse$Writer", "allSigns", "(I)Z"⟩, 4), (⟨"ArrayHouse$Writer", "item", "(II)V"⟩, 4), (⟨"ArrayHouse$Reader", "execute", "(I)I"⟩, 13), (⟨"ArrayHouse$Shapes", "reshape", "(II)I"⟩, 5), (⟨"ArrayHouse$Shapes", "join", "(III)I"⟩, 5), (⟨"ArrayHouse$Shapes", "laminate", "(III)I"⟩, 5), (⟨"ArrayHouse$Shapes", "rotate", "(III)I"⟩, 5), (⟨"ArrayHouse$Heap", "allWholes", "(I)Z"⟩, 9)]
theorem lw_r11 : ∀ q ∈ lw_privs_11, lw_okq q := List.forall_mem_cons.mpr ⟨lw_p160, List.forall_mem_cons.mpr ⟨lw_p161, List.forall_mem_cons.mpr ⟨lw_p162, List.forall_mem_cons.mpr ⟨lw_p163, List.forall_mem_cons.mpr ⟨lw_p164, List.forall_mem_cons.mpr ⟨lw_p165, List.forall_mem_cons.mpr ⟨lw_p166, List.forall_mem_cons.mpr ⟨lw_p167, List.forall_mem_cons.mpr ⟨lw_p168, List.forall_mem_cons.mpr ⟨lw_p169, List.forall_mem_cons.mpr ⟨lw_p170, List.forall_mem_cons.mpr ⟨lw_p171, List.forall_mem_cons.mpr ⟨lw_p172, List.forall_mem_cons.mpr ⟨lw_p173, List.forall_mem_cons.mpr ⟨lw_p174, List.forall_mem_cons.mpr ⟨lw_p175, fun _ h => absurd h List.not_mem_nil⟩⟩⟩⟩⟩⟩⟩⟩⟩⟩⟩⟩⟩⟩⟩⟩
theorem lw_p176 : lw_okq (⟨"ArrayHouse$Shapes", "transposeBy", "(II)I"⟩, 5) := ⟨⟨by decide +kernel, by decide +kernel⟩, List.mem_of_getElem? (i := 245) (by decide +kernel), List.mem_of_getElem? (i := 1453) (by decide +kernel), List.mem_of_getElem? (i := 1454) (by decide +kernel)⟩
theorem lw_p177 : lw_okq (⟨"ArrayHouse$Shapes", "cut", "(IIZ)I"⟩, 5) := ⟨⟨by decide +kernel, by decide +kernel⟩, List.mem_of_getElem? (i := 245) (by decide +kernel), List.mem_of_getElem? (i := 1457) (by decide +kernel), List.mem_of_getElem? (i := 1458) (by decide +kernel)⟩
theorem lw_p178 : lw_okq (⟨"ArrayHouse$Shapes", "replicate", "(III)I"⟩, 5) := ⟨⟨by decide +kernel, by decide +kernel⟩, List.mem_of_getElem? (i := 245) (by decide +kernel), List.mem_of_getElem? (i := 1461) (by decide +kernel), List.mem_of_getElem? (i := 1462) (by decide +kernel)⟩
theorem lw_p179 : lw_okq (⟨"ArrayHouse$Shapes", "spread", "(III)I"⟩, 5) := ⟨⟨by decide +kernel, by decide +kernel⟩, List.mem_of_getElem? (i := 245) (by decide +kernel), List.mem_of_getElem? (i := 1465) (by decide +kernel), List.mem_of_getElem? (i := 1466) (by decide +kernel)⟩
theorem lw_p180 : lw_okq (⟨"ArrayHouse$Shapes", "expand", "(III)I"⟩, 5) := ⟨⟨by decide +kernel, by decide +kernel⟩, List.mem_of_getElem? (i := 245) (by decide +kernel), List.mem_of_getElem? (i := 1469) (by decide +kernel), List.mem_of_getElem? (i := 1470) (by decide +kernel)⟩
theorem lw_p181 : lw_okq (⟨"ArrayHouse$Finds", "indexOf", "(II)I"⟩, 6) := ⟨⟨by decide +kernel, by decide +kernel⟩, List.mem_of_getElem? (i := 317) (by decide +kernel), List.mem_of_getElem? (i := 1473) (by decide +kernel), List.mem_of_getElem? (i := 1474) (by decide +kernel)⟩
theorem lw_p182 : lw_okq (⟨"ArrayHouse$Finds", "member", "(II)I"⟩, 6) := ⟨⟨by decide +kernel, by decide +kernel⟩, List.mem_of_getElem? (i := 317) (by decide +kernel), List.mem_of_getElem? (i := 1478) (by decide +kernel), List.mem_of_getElem? (i := 1479) (by decide +kernel)⟩
theorem lw_p183 : lw_okq (⟨"ArrayHouse$Finds", "find", "(II)I"⟩, 6) := ⟨⟨by decide +kernel, by decide +kernel⟩, List.mem_of_getElem? (i := 317) (by decide +kernel), List.mem_of_getElem? (i := 1482) (by decide +kernel), List.mem_of_getElem? (i := 1483) (by decide +kernel)⟩
theorem lw_p184 : lw_okq (⟨"ArrayHouse$Finds", "standsAt", "(III)Z"⟩, 6) := ⟨⟨by decide +kernel, by decide +kernel⟩, List.mem_of_getElem? (i := 317) (by decide +kernel), List.mem_of_getElem? (i := 1486) (by decide +kernel), List.mem_of_getElem? (i := 1487) (by decide +kernel)⟩
theorem lw_p185 : lw_okq (⟨"ArrayHouse$Finds", "pick", "(II)I"⟩, 6) := ⟨⟨by decide +kernel, by decide +kernel⟩, List.mem_of_getElem? (i := 317) (by decide +kernel), List.mem_of_getElem? (i := 1490) (by decide +kernel), List.mem_of_getElem? (i := 1491) (by decide +kernel)⟩
theorem lw_p186 : lw_okq (⟨"ArrayHouse$Finds", "those", "(IIZ)I"⟩, 6) := ⟨⟨by decide +kernel, by decide +kernel⟩, List.mem_of_getElem? (i := 317) (by decide +kernel), List.mem_of_getElem? (i := 1497) (by decide +kernel), List.mem_of_getElem? (i := 1498) (by decide +kernel)⟩
theorem lw_p187 : lw_okq (⟨"ArrayHouse$Finds", "union", "(II)I"⟩, 6) := ⟨⟨by decide +kernel, by decide +kernel⟩, List.mem_of_getElem? (i := 317) (by decide +kernel), List.mem_of_getElem? (i := 1501) (by decide +kernel), List.mem_of_getElem? (i := 1502) (by decide +kernel)⟩
theorem lw_p188 : lw_okq (⟨"ArrayHouse$Finds", "partition", "(IIZ)I"⟩, 6) := ⟨⟨by decide +kernel, by decide +kernel⟩, List.mem_of_getElem? (i := 317) (by decide +kernel), List.mem_of_getElem? (i := 1505) (by decide +kernel), List.mem_of_getElem? (i := 1506) (by decide +kernel)⟩
theorem lw_p189 : lw_okq (⟨"ArrayHouse$Finds", "encode", "(II)I"⟩, 6) := ⟨⟨by decide +kernel, by decide +kernel⟩, List.mem_of_getElem? (i := 317) (by decide +kernel), List.mem_of_getElem? (i := 1510) (by decide +kernel), List.mem_of_getElem? (i := 1511) (by decide +kernel)⟩
theorem lw_p190 : lw_okq (⟨"ArrayHouse$Heap", "numbers", "(I)Z"⟩, 9) := ⟨⟨by decide +kernel, by decide +kernel⟩, List.mem_of_getElem? (i := 69) (by decide +kernel), List.mem_of_getElem? (i := 1514) (by decide +kernel), List.mem_of_getElem? (i := 1515) (by decide +kernel)⟩
theorem lw_p191 : lw_okq (⟨"ArrayHouse$Finds", "encodeOne", "(IIIIII)Z"⟩, 6) := ⟨⟨by decide +kernel, by decide +kernel⟩, List.mem_of_getElem? (i := 317) (by decide +kernel), List.mem_of_getElem? (i := 1518) (by decide +kernel), List.mem_of_getElem? (i := 1519) (by decide +kernel)⟩
def lw_privs_12 : List (MethodName × Nat) := [(⟨"ArrayHouse$Shapes", "transposeBy", "(II)I"⟩, 5), (⟨"ArrayHouse$Shapes", "cut", "(IIZ)I"⟩, 5), (⟨"ArrayHouse$Shapes", "replicate", "(III)I"⟩, 5), (⟨"ArrayHouse$Shapes", "spread", "(III)I"⟩, 5), (⟨"ArrayHouse$Shapes", "expand", "(III)I"⟩, 5), (⟨"ArrayHouse$Finds", "indexOf", "(II)I"⟩, 6), (⟨"ArrayHouse$Finds", "member", "(II)I"⟩, 6), (⟨"ArrayHouse$Finds", "find", "(II)I"⟩, 6), (⟨"ArrayHouse$Finds", "standsAt", "(III)Z"⟩, 6), (⟨"ArrayHouse$Finds", "pick", "(II)I"⟩, 6), (⟨"ArrayHouse$Finds", "those", "(IIZ)I"⟩, 6), (⟨"ArrayHouse$Finds", "union", "(II)I"⟩, 6), (⟨"ArrayHouse$Finds", "partition", "(IIZ)I"⟩, 6), (⟨"ArrayHouse$Finds", "encode", "(II)I"⟩, 6), (⟨"ArrayHouse$Heap", "numbers", "(I)Z"⟩, 9), (⟨"ArrayHouse$Finds", "encodeOne", "(IIIIII)Z"⟩, 6)]
theorem lw_r12 : ∀ q ∈ lw_privs_12, lw_okq q := List.forall_mem_cons.mpr ⟨lw_p176, List.forall_mem_cons.mpr ⟨lw_p177, List.forall_mem_cons.mpr ⟨lw_p178, List.forall_mem_cons.mpr ⟨lw_p179, List.forall_mem_cons.mpr ⟨lw_p180, List.forall_mem_cons.mpr ⟨lw_p181, List.forall_mem_cons.mpr ⟨lw_p182, List.forall_mem_cons.mpr ⟨lw_p183, List.forall_mem_cons.mpr ⟨lw_p184, List.forall_mem_cons.mpr ⟨lw_p185, List.forall_mem_cons.mpr ⟨lw_p186, List.forall_mem_cons.mpr ⟨lw_p187, List.forall_mem_cons.mpr ⟨lw_p188, List.forall_mem_cons.mpr ⟨lw_p189, List.forall_mem_cons.mpr ⟨lw_p190, List.forall_mem_cons.mpr ⟨lw_p191, fun _ h => absurd h List.not_mem_nil⟩⟩⟩⟩⟩⟩⟩⟩⟩⟩⟩⟩⟩⟩⟩⟩
theorem lw_p192 : lw_okq (⟨"ArrayHouse$Finds", "decode", "(II)I"⟩, 6) := ⟨⟨by decide +kernel, by decide +kernel⟩, List.mem_of_getElem? (i := 317) (by decide +kernel), List.mem_of_getElem? (i := 1527) (by decide +kernel), List.mem_of_getElem? (i := 1528) (by decide +kernel)⟩
theorem lw_p193 : lw_okq (⟨"ArrayHouse$Finds", "deal", "(II)I"⟩, 6) := ⟨⟨by decide +kernel, by decide +kernel⟩, List.mem_of_getElem? (i := 317) (by decide +kernel), List.mem_of_getElem? (i := 1533) (by decide +kernel), List.mem_of_getElem? (i := 1534) (by decide +kernel)⟩
theorem lw_p194 : lw_okq (⟨"ArrayHouse$Reader", "call", "(III)I"⟩, 13) := ⟨⟨by decide +kernel, by decide +kernel⟩, List.mem_of_getElem? (i := 290) (by decide +kernel), List.mem_of_getElem? (i := 1538) (by decide +kernel), List.mem_of_getElem? (i := 1539) (by decide +kernel)⟩
theorem lw_p195 : lw_okq (⟨"ArrayHouse$Places", "begin", "(IIII)I"⟩, 16) := ⟨⟨by decide +kernel, by decide +kernel⟩, List.mem_of_getElem? (i := 151) (by decide +kernel), List.mem_of_getElem? (i := 1542) (by decide +kernel), List.mem_of_getElem? (i := 1543) (by decide +kernel)⟩
theorem lw_p196 : lw_okq (⟨"ArrayHouse$Reader", "body", "(I)I"⟩, 13) := ⟨⟨by decide +kernel, by decide +kernel⟩, List.mem_of_getElem? (i := 290) (by decide +kernel), List.mem_of_getElem? (i := 1546) (by decide +kernel), List.mem_of_getElem? (i := 1547) (by decide +kernel)⟩
theorem lw_p197 : lw_okq (⟨"ArrayHouse$Reader", "clause", "(II)I"⟩, 13) := ⟨⟨by decide +kernel, by decide +kernel⟩, List.mem_of_getElem? (i := 290) (by decide +kernel), List.mem_of_getElem? (i := 1550) (by decide +kernel), List.mem_of_getElem? (i := 1551) (by decide +kernel)⟩
theorem lw_p198 : lw_okq (⟨"ArrayHouse$Text", "colonIn", "(II)I"⟩, 8) := ⟨⟨by decide +kernel, by decide +kernel⟩, List.mem_of_getElem? (i := 114) (by decide +kernel), List.mem_of_getElem? (i := 1554) (by decide +kernel), List.mem_of_getElem? (i := 1555) (by decide +kernel)⟩
theorem lw_p199 : lw_okq (⟨"ArrayHouse$Reader", "guard", "(III)V"⟩, 13) := ⟨⟨by decide +kernel, by decide +kernel⟩, List.mem_of_getElem? (i := 290) (by decide +kernel), List.mem_of_getElem? (i := 1558) (by decide +kernel), List.mem_of_getElem? (i := 1559) (by decide +kernel)⟩
theorem lw_p200 : lw_okq (⟨"ArrayHouse$Places", "addGuard", "(III)V"⟩, 16) := ⟨⟨by decide +kernel, by decide +kernel⟩, List.mem_of_getElem? (i := 151) (by decide +kernel), List.mem_of_getElem? (i := 1562) (by decide +kernel), List.mem_of_getElem? (i := 1563) (by decide +kernel)⟩
theorem lw_p201 : lw_okq (⟨"ArrayHouse$Reader", "takeable", "()Z"⟩, 13) := ⟨⟨by decide +kernel, by decide +kernel⟩, List.mem_of_getElem? (i := 290) (by decide +kernel), List.mem_of_getElem? (i := 1567) (by decide +kernel), List.mem_of_getElem? (i := 1568) (by decide +kernel)⟩
theorem lw_p202 : lw_okq (⟨"ArrayHouse$Places", "guardField", "(II)I"⟩, 16) := ⟨⟨by decide +kernel, by decide +kernel⟩, List.mem_of_getElem? (i := 151) (by decide +kernel), List.mem_of_getElem? (i := 1571) (by decide +kernel), List.mem_of_getElem? (i := 1572) (by decide +kernel)⟩
theorem lw_p203 : lw_okq (⟨"ArrayHouse$Operators", "made", "(III)I"⟩, 5) := ⟨⟨by decide +kernel, by decide +kernel⟩, List.mem_of_getElem? (i := 267) (by decide +kernel), List.mem_of_getElem? (i := 1575) (by decide +kernel), List.mem_of_getElem? (i := 1576) (by decide +kernel)⟩
theorem lw_p204 : lw_okq (⟨"ArrayHouse$Operators", "reduce", "(III)I"⟩, 5) := ⟨⟨by decide +kernel, by decide +kernel⟩, List.mem_of_getElem? (i := 267) (by decide +kernel), List.mem_of_getElem? (i := 1580) (by decide +kernel), List.mem_of_getElem? (i := 1581) (by decide +kernel)⟩
theorem lw_p205 : lw_okq (⟨"ArrayHouse$Operators", "folded", "(IIIIII)I"⟩, 5) := ⟨⟨by decide +kernel, by decide +kernel⟩, List.mem_of_getElem? (i := 267) (by decide +kernel), List.mem_of_getElem? (i := 1589) (by decide +kernel), List.mem_of_getElem? (i := 1590) (by decide +kernel)⟩
theorem lw_p206 : lw_okq (⟨"ArrayHouse$Operators", "ready", "(III)Z"⟩, 5) := ⟨⟨by decide +kernel, by decide +kernel⟩, List.mem_of_getElem? (i := 267) (by decide +kernel), List.mem_of_getElem? (i := 1593) (by decide +kernel), List.mem_of_getElem? (i := 1594) (by decide +kernel)⟩
theorem lw_p207 : lw_okq (⟨"ArrayHouse$Operators", "unit", "(I)I"⟩, 5) := ⟨⟨by decide +kernel, by decide +kernel⟩, List.mem_of_getElem? (i := 267) (by decide +kernel), List.mem_of_getElem? (i := 1598) (by decide +kernel), List.mem_of_getElem? (i := 1599) (by decide +kernel)⟩
def lw_privs_13 : List (MethodName × Nat) := [(⟨"ArrayHouse$Finds", "decode", "(II)I"⟩, 6), (⟨"ArrayHouse$Finds", "deal", "(II)I"⟩, 6), (⟨"ArrayHouse$Reader", "call", "(III)I"⟩, 13), (⟨"ArrayHouse$Places", "begin", "(IIII)I"⟩, 16), (⟨"ArrayHouse$Reader", "body", "(I)I"⟩, 13), (⟨"ArrayHouse$Reader", "clause", "(II)I"⟩, 13), (⟨"ArrayHouse$Text", "colonIn", "(II)I"⟩, 8), (⟨"ArrayHouse$Reader", "guard", "(III)V"⟩, 13), (⟨"ArrayHouse$Places", "addGuard", "(III)V"⟩, 16), (⟨"ArrayHouse$Reader", "takeable", "()Z"⟩, 13), (⟨"ArrayHouse$Places", "guardField", "(II)I"⟩, 16), (⟨"ArrayHouse$Operators", "made", "(III)I"⟩, 5), (⟨"ArrayHouse$Operators", "reduce", "(III)I"⟩, 5), (⟨"ArrayHouse$Operators", "folded", "(IIIIII)I"⟩, 5), (⟨"ArrayHouse$Operators", "ready", "(III)Z"⟩, 5), (⟨"ArrayHouse$Operators", "unit", "(I)I"⟩, 5)]
theorem lw_r13 : ∀ q ∈ lw_privs_13, lw_okq q := List.forall_mem_cons.mpr ⟨lw_p192, List.forall_mem_cons.mpr ⟨lw_p193, List.forall_mem_cons.mpr ⟨lw_p194, List.forall_mem_cons.mpr ⟨lw_p195, List.forall_mem_cons.mpr ⟨lw_p196, List.forall_mem_cons.mpr ⟨lw_p197, List.forall_mem_cons.mpr ⟨lw_p198, List.forall_mem_cons.mpr ⟨lw_p199, List.forall_mem_cons.mpr ⟨lw_p200, List.forall_mem_cons.mpr ⟨lw_p201, List.forall_mem_cons.mpr ⟨lw_p202, List.forall_mem_cons.mpr ⟨lw_p203, List.forall_mem_cons.mpr ⟨lw_p204, List.forall_mem_cons.mpr ⟨lw_p205, List.forall_mem_cons.mpr ⟨lw_p206, List.forall_mem_cons.mpr ⟨lw_p207, fun _ h => absurd h List.not_mem_nil⟩⟩⟩⟩⟩⟩⟩⟩⟩⟩⟩⟩⟩⟩⟩⟩
theorem lw_p208 : lw_okq (⟨"ArrayHouse$Operators", "fold", "(IIIII)I"⟩, 5) := ⟨⟨by decide +kernel, by decide +kernel⟩, List.mem_of_getElem? (i := 267) (by decide +kernel), List.mem_of_getElem? (i := 1609) (by decide +kernel), List.mem_of_getElem? (i := 1610) (by decide +kernel)⟩
theorem lw_p209 : lw_okq (⟨"ArrayHouse$Operators", "apply", "(III)I"⟩, 5) := ⟨⟨by decide +kernel, by decide +kernel⟩, List.mem_of_getElem? (i := 267) (by decide +kernel), List.mem_of_getElem? (i := 1615) (by decide +kernel), List.mem_of_getElem? (i := 1616) (by decide +kernel)⟩
theorem lw_p210 : lw_okq (⟨"ArrayHouse$Operators", "windows", "(IIII)I"⟩, 5) := ⟨⟨by decide +kernel, by decide +kernel⟩, List.mem_of_getElem? (i := 267) (by decide +kernel), List.mem_of_getElem? (i := 1623) (by decide +kernel), List.mem_of_getElem? (i := 1624) (by decide +kernel)⟩
theorem lw_p211 : lw_okq (⟨"ArrayHouse$Operators", "running", "(III)I"⟩, 5) := ⟨⟨by decide +kernel, by decide +kernel⟩, List.mem_of_getElem? (i := 267) (by decide +kernel), List.mem_of_getElem? (i := 1630) (by decide +kernel), List.mem_of_getElem? (i := 1631) (by decide +kernel)⟩
theorem lw_p212 : lw_okq (⟨"ArrayHouse$Operators", "each", "(II)I"⟩, 5) := ⟨⟨by decide +kernel, by decide +kernel⟩, List.mem_of_getElem? (i := 267) (by decide +kernel), List.mem_of_getElem? (i := 1635) (by decide +kernel), List.mem_of_getElem? (i := 1636) (by decide +kernel)⟩
theorem lw_p213 : lw_okq (⟨"ArrayHouse$Operators", "eachPair", "(III)I"⟩, 5) := ⟨⟨by decide +kernel, by decide +kernel⟩, List.mem_of_getElem? (i := 267) (by decide +kernel), List.mem_of_getElem? (i := 1640) (by decide +kernel), List.mem_of_getElem? (i := 1641) (by decide +kernel)⟩
theorem lw_p214 : lw_okq (⟨"ArrayHouse$Operators", "outer", "(III)I"⟩, 5) := ⟨⟨by decide +kernel, by decide +kernel⟩, List.mem_of_getElem? (i := 267) (by decide +kernel), List.mem_of_getElem? (i := 1645) (by decide +kernel), List.mem_of_getElem? (i := 1646) (by decide +kernel)⟩
theorem lw_p215 : lw_okq (⟨"ArrayHouse$Operators", "inner", "(IIII)I"⟩, 5) := ⟨⟨by decide +kernel, by decide +kernel⟩, List.mem_of_getElem? (i := 267) (by decide +kernel), List.mem_of_getElem? (i := 1649) (by decide +kernel), List.mem_of_getElem? (i := 1650) (by decide +kernel)⟩
theorem lw_p216 : lw_okq (⟨"ArrayHouse$Operators", "key", "(III)I"⟩, 5) := ⟨⟨by decide +kernel, by decide +kernel⟩, List.mem_of_getElem? (i := 267) (by decide +kernel), List.mem_of_getElem? (i := 1655) (by decide +kernel), List.mem_of_getElem? (i := 1656) (by decide +kernel)⟩
theorem lw_p217 : lw_okq (⟨"ArrayHouse$Operators", "sameItems", "(III)Z"⟩, 5) := ⟨⟨by decide +kernel, by decide +kernel⟩, List.mem_of_getElem? (i := 267) (by decide +kernel), List.mem_of_getElem? (i := 1659) (by decide +kernel), List.mem_of_getElem? (i := 1660) (by decide +kernel)⟩
theorem lw_p218 : lw_okq (⟨"ArrayHouse$Operators", "members", "(IIII)I"⟩, 5) := ⟨⟨by decide +kernel, by decide +kernel⟩, List.mem_of_getElem? (i := 267) (by decide +kernel), List.mem_of_getElem? (i := 1665) (by decide +kernel), List.mem_of_getElem? (i := 1666) (by decide +kernel)⟩
theorem lw_p219 : lw_okq (⟨"ArrayHouse$Operators", "byRank", "(IIII)I"⟩, 5) := ⟨⟨by decide +kernel, by decide +kernel⟩, List.mem_of_getElem? (i := 267) (by decide +kernel), List.mem_of_getElem? (i := 1672) (by decide +kernel), List.mem_of_getElem? (i := 1673) (by decide +kernel)⟩
theorem lw_p220 : lw_okq (⟨"ArrayHouse$Operators", "frame", "(II)I"⟩, 5) := ⟨⟨by decide +kernel, by decide +kernel⟩, List.mem_of_getElem? (i := 267) (by decide +kernel), List.mem_of_getElem? (i := 1677) (by decide +kernel), List.mem_of_getElem? (i := 1678) (by decide +kernel)⟩
theorem lw_p221 : lw_okq (⟨"ArrayHouse$Operators", "cell", "(III)I"⟩, 5) := ⟨⟨by decide +kernel, by decide +kernel⟩, List.mem_of_getElem? (i := 267) (by decide +kernel), List.mem_of_getElem? (i := 1682) (by decide +kernel), List.mem_of_getElem? (i := 1683) (by decide +kernel)⟩
theorem lw_p222 : lw_okq (⟨"ArrayHouse$Operators", "repeat", "(IIII)I"⟩, 5) := ⟨⟨by decide +kernel, by decide +kernel⟩, List.mem_of_getElem? (i := 267) (by decide +kernel), List.mem_of_getElem? (i := 1686) (by decide +kernel), List.mem_of_getElem? (i := 1687) (by decide +kernel)⟩
theorem lw_p223 : lw_okq (⟨"ArrayHouse$Reader", "change", "(II)V"⟩, 13) := ⟨⟨by decide +kernel, by decide +kernel⟩, List.mem_of_getElem? (i := 290) (by decide +kernel), List.mem_of_getElem? (i := 1692) (by decide +kernel), List.mem_of_getElem? (i := 1693) (by decide +kernel)⟩
def lw_privs_14 : List (MethodName × Nat) := [(⟨"ArrayHouse$Operators", "fold", "(IIIII)I"⟩, 5), (⟨"ArrayHouse$Operators", "apply", "(III)I"⟩, 5), (⟨"ArrayHouse$Operators", "windows", "(IIII)I"⟩, 5), (⟨"ArrayHouse$Operators", "running", "(III)I"⟩, 5), (⟨"ArrayHouse$Operators", "each", "(II)I"⟩, 5), (⟨"ArrayHouse$Operators", "eachPair", "(III)I"⟩, 5), (⟨"ArrayHouse$Operators", "outer", "(III)I"⟩, 5), (⟨"ArrayHouse$Operators", "inner", "(IIII)I"⟩, 5), (⟨"ArrayHouse$Operators", "key", "(III)I"⟩, 5), (⟨"ArrayHouse$Operators", "sameItems", "(III)Z"⟩, 5), (⟨"ArrayHouse$Operators", "members", "(IIII)I"⟩, 5), (⟨"ArrayHouse$Operators", "byRank", "(IIII)I"⟩, 5), (⟨"ArrayHouse$Operators", "frame", "(II)I"⟩, 5), (⟨"ArrayHouse$Operators", "cell", "(III)I"⟩, 5), (⟨"ArrayHouse$Operators", "repeat", "(IIII)I"⟩, 5), (⟨"ArrayHouse$Reader", "change", "(II)V"⟩, 13)]
theorem lw_r14 : ∀ q ∈ lw_privs_14, lw_okq q := List.forall_mem_cons.mpr ⟨lw_p208, List.forall_mem_cons.mpr ⟨lw_p209, List.forall_mem_cons.mpr ⟨lw_p210, List.forall_mem_cons.mpr ⟨lw_p211, List.forall_mem_cons.mpr ⟨lw_p212, List.forall_mem_cons.mpr ⟨lw_p213, List.forall_mem_cons.mpr ⟨lw_p214, List.forall_mem_cons.mpr ⟨lw_p215, List.forall_mem_cons.mpr ⟨lw_p216, List.forall_mem_cons.mpr ⟨lw_p217, List.forall_mem_cons.mpr ⟨lw_p218, List.forall_mem_cons.mpr ⟨lw_p219, List.forall_mem_cons.mpr ⟨lw_p220, List.forall_mem_cons.mpr ⟨lw_p221, List.forall_mem_cons.mpr ⟨lw_p222, List.forall_mem_cons.mpr ⟨lw_p223, fun _ h => absurd h List.not_mem_nil⟩⟩⟩⟩⟩⟩⟩⟩⟩⟩⟩⟩⟩⟩⟩⟩
theorem lw_p224 : lw_okq (⟨"ArrayHouse$Reader", "suits", "(II)Z"⟩, 13) := ⟨⟨by decide +kernel, by decide +kernel⟩, List.mem_of_getElem? (i := 290) (by decide +kernel), List.mem_of_getElem? (i := 1696) (by decide +kernel), List.mem_of_getElem? (i := 1697) (by decide +kernel)⟩
theorem lw_p225 : lw_okq (⟨"ArrayHouse$Reader", "replaced", "(III)I"⟩, 13) := ⟨⟨by decide +kernel, by decide +kernel⟩, List.mem_of_getElem? (i := 290) (by decide +kernel), List.mem_of_getElem? (i := 1701) (by decide +kernel), List.mem_of_getElem? (i := 1702) (by decide +kernel)⟩
theorem lw_p226 : lw_okq (⟨"ArrayHouse$Reader", "changeChosen", "(II)V"⟩, 13) := ⟨⟨by decide +kernel, by decide +kernel⟩, List.mem_of_getElem? (i := 290) (by decide +kernel), List.mem_of_getElem? (i := 1706) (by decide +kernel), List.mem_of_getElem? (i := 1707) (by decide +kernel)⟩
theorem lw_p227 : lw_okq (⟨"ArrayHouse$Reader", "numbered", "(I)I"⟩, 13) := ⟨⟨by decide +kernel, by decide +kernel⟩, List.mem_of_getElem? (i := 290) (by decide +kernel), List.mem_of_getElem? (i := 1710) (by decide +kernel), List.mem_of_getElem? (i := 1711) (by decide +kernel)⟩
theorem lw_p228 : lw_okq (⟨"ArrayHouse$Reader", "behindAssignment", "(I)I"⟩, 13) := ⟨⟨by decide +kernel, by decide +kernel⟩, List.mem_of_getElem? (i := 290) (by decide +kernel), List.mem_of_getElem? (i := 1715) (by decide +kernel), List.mem_of_getElem? (i := 1716) (by decide +kernel)⟩
theorem lw_p229 : lw_okq (⟨"ArrayHouse", "nameOnTape", "()I"⟩, 11) := ⟨⟨by decide +kernel, by decide +kernel⟩, List.mem_of_getElem? (i := 24) (by decide +kernel), List.mem_of_getElem? (i := 1744) (by decide +kernel), List.mem_of_getElem? (i := 1745) (by decide +kernel)⟩
theorem lw_p230 : lw_okq (⟨"ArrayHouse", "viewed", "()I"⟩, 11) := ⟨⟨by decide +kernel, by decide +kernel⟩, List.mem_of_getElem? (i := 24) (by decide +kernel), List.mem_of_getElem? (i := 1757) (by decide +kernel), List.mem_of_getElem? (i := 1758) (by decide +kernel)⟩
theorem lw_p231 : lw_okq (⟨"ArrayHouse$Heap", "lane", "(I)I"⟩, 9) := ⟨⟨by decide +kernel, by decide +kernel⟩, List.mem_of_getElem? (i := 69) (by decide +kernel), List.mem_of_getElem? (i := 1774) (by decide +kernel), List.mem_of_getElem? (i := 1775) (by decide +kernel)⟩
theorem lw_p232 : lw_okq (⟨"ArrayHouse$Heap", "laneOf", "(II)I"⟩, 9) := ⟨⟨by decide +kernel, by decide +kernel⟩, List.mem_of_getElem? (i := 69) (by decide +kernel), List.mem_of_getElem? (i := 1778) (by decide +kernel), List.mem_of_getElem? (i := 1779) (by decide +kernel)⟩
theorem lw_p233 : lw_okq (⟨"ArrayHouse", "meaning", "(I)I"⟩, 11) := ⟨⟨by decide +kernel, by decide +kernel⟩, List.mem_of_getElem? (i := 24) (by decide +kernel), List.mem_of_getElem? (i := 1800) (by decide +kernel), List.mem_of_getElem? (i := 1801) (by decide +kernel)⟩
theorem lw_p234 : lw_okq (⟨"ArrayHouse", "sizes", "()I"⟩, 11) := ⟨⟨by decide +kernel, by decide +kernel⟩, List.mem_of_getElem? (i := 24) (by decide +kernel), List.mem_of_getElem? (i := 1805) (by decide +kernel), List.mem_of_getElem? (i := 1806) (by decide +kernel)⟩
theorem lw_p235 : lw_okq (⟨"ArrayHouseModel", "scan", "(II)I"⟩, 76) := ⟨⟨by decide +kernel, by decide +kernel⟩, List.mem_of_getElem? (i := 1818) (by decide +kernel), List.mem_of_getElem? (i := 2069) (by decide +kernel), List.mem_of_getElem? (i := 2070) (by decide +kernel)⟩
theorem lw_p236 : lw_okq (⟨"ArrayHouseModel", "byteOf", "(I)I"⟩, 76) := ⟨⟨by decide +kernel, by decide +kernel⟩, List.mem_of_getElem? (i := 1818) (by decide +kernel), List.mem_of_getElem? (i := 2073) (by decide +kernel), List.mem_of_getElem? (i := 2074) (by decide +kernel)⟩
theorem lw_p237 : lw_okq (⟨"ArrayHouseModel", "lex", "()Z"⟩, 76) := ⟨⟨by decide +kernel, by decide +kernel⟩, List.mem_of_getElem? (i := 1818) (by decide +kernel), List.mem_of_getElem? (i := 2077) (by decide +kernel), List.mem_of_getElem? (i := 2078) (by decide +kernel)⟩
theorem lw_p238 : lw_okq (⟨"ArrayHouseModel", "lexNumber", "(I)Z"⟩, 76) := ⟨⟨by decide +kernel, by decide +kernel⟩, List.mem_of_getElem? (i := 1818) (by decide +kernel), List.mem_of_getElem? (i := 2084) (by decide +kernel), List.mem_of_getElem? (i := 2085) (by decide +kernel)⟩
theorem lw_p239 : lw_okq (⟨"ArrayHouseModel", "digits", "()J"⟩, 76) := ⟨⟨by decide +kernel, by decide +kernel⟩, List.mem_of_getElem? (i := 1818) (by decide +kernel), List.mem_of_getElem? (i := 2088) (by decide +kernel), List.mem_of_getElem? (i := 2089) (by decide +kernel)⟩
def lw_privs_15 : List (MethodName × Nat) := [(⟨"ArrayHouse$Reader", "suits", "(II)Z"⟩, 13), (⟨"ArrayHouse$Reader", "replaced", "(III)I"⟩, 13), (⟨"ArrayHouse$Reader", "changeChosen", "(II)V"⟩, 13), (⟨"ArrayHouse$Reader", "numbered", "(I)I"⟩, 13), (⟨"ArrayHouse$Reader", "behindAssignment", "(I)I"⟩, 13), (⟨"ArrayHouse", "nameOnTape", "()I"⟩, 11), (⟨"ArrayHouse", "viewed", "()I"⟩, 11), (⟨"ArrayHouse$Heap", "lane", "(I)I"⟩, 9), (⟨"ArrayHouse$Heap", "laneOf", "(II)I"⟩, 9), (⟨"ArrayHouse", "meaning", "(I)I"⟩, 11), (⟨"ArrayHouse", "sizes", "()I"⟩, 11), (⟨"ArrayHouseModel", "scan", "(II)I"⟩, 76), (⟨"ArrayHouseModel", "byteOf", "(I)I"⟩, 76), (⟨"ArrayHouseModel", "lex", "()Z"⟩, 76), (⟨"ArrayHouseModel", "lexNumber", "(I)Z"⟩, 76), (⟨"ArrayHouseModel", "digits", "()J"⟩, 76)]
theorem lw_r15 : ∀ q ∈ lw_privs_15, lw_okq q := List.forall_mem_cons.mpr ⟨lw_p224, List.forall_mem_cons.mpr ⟨lw_p225, List.forall_mem_cons.mpr ⟨lw_p226, List.forall_mem_cons.mpr ⟨lw_p227, List.forall_mem_cons.mpr ⟨lw_p228, List.forall_mem_cons.mpr ⟨lw_p229, List.forall_mem_cons.mpr ⟨lw_p230, List.forall_mem_cons.mpr ⟨lw_p231, List.forall_mem_cons.mpr ⟨lw_p232, List.forall_mem_cons.mpr ⟨lw_p233, List.forall_mem_cons.mpr ⟨lw_p234, List.forall_mem_cons.mpr ⟨lw_p235, List.forall_mem_cons.mpr ⟨lw_p236, List.forall_mem_cons.mpr ⟨lw_p237, List.forall_mem_cons.mpr ⟨lw_p238, List.forall_mem_cons.mpr ⟨lw_p239, fun _ h => absurd h List.not_mem_nil⟩⟩⟩⟩⟩⟩⟩⟩⟩⟩⟩⟩⟩⟩⟩⟩
theorem lw_p240 : lw_okq (⟨"ArrayHouseModel", "token", "(IIII)V"⟩, 76) := ⟨⟨by decide +kernel, by decide +kernel⟩, List.mem_of_getElem? (i := 1818) (by decide +kernel), List.mem_of_getElem? (i := 2100) (by decide +kernel), List.mem_of_getElem? (i := 2101) (by decide +kernel)⟩
theorem lw_p241 : lw_okq (⟨"ArrayHouseModel", "lexQuoted", "(I)Z"⟩, 76) := ⟨⟨by decide +kernel, by decide +kernel⟩, List.mem_of_getElem? (i := 1818) (by decide +kernel), List.mem_of_getElem? (i := 2104) (by decide +kernel), List.mem_of_getElem? (i := 2105) (by decide +kernel)⟩
theorem lw_p242 : lw_okq (⟨"ArrayHouseModel", "lexWord", "(I)Z"⟩, 76) := ⟨⟨by decide +kernel, by decide +kernel⟩, List.mem_of_getElem? (i := 1818) (by decide +kernel), List.mem_of_getElem? (i := 2111) (by decide +kernel), List.mem_of_getElem? (i := 2112) (by decide +kernel)⟩
theorem lw_p243 : lw_okq (⟨"ArrayHouseModel", "wordOf", "(Ljava/lang/String;II)I"⟩, 76) := ⟨⟨by decide +kernel, by decide +kernel⟩, List.mem_of_getElem? (i := 1818) (by decide +kernel), List.mem_of_getElem? (i := 2116) (by decide +kernel), List.mem_of_getElem? (i := 2117) (by decide +kernel)⟩
theorem lw_p244 : lw_okq (⟨"ArrayHouseModel", "lettersOf", "(II)I"⟩, 76) := ⟨⟨by decide +kernel, by decide +kernel⟩, List.mem_of_getElem? (i := 1818) (by decide +kernel), List.mem_of_getElem? (i := 2123) (by decide +kernel), List.mem_of_getElem? (i := 2124) (by decide +kernel)⟩
theorem lw_p245 : lw_okq (⟨"ArrayHouseModel", "nested", "(II)I"⟩, 76) := ⟨⟨by decide +kernel, by decide +kernel⟩, List.mem_of_getElem? (i := 1818) (by decide +kernel), List.mem_of_getElem? (i := 2131) (by decide +kernel), List.mem_of_getElem? (i := 2132) (by decide +kernel)⟩
theorem lw_p246 : lw_okq (⟨"ArrayHouseModel", "statementEnd", "(II)I"⟩, 76) := ⟨⟨by decide +kernel, by decide +kernel⟩, List.mem_of_getElem? (i := 1818) (by decide +kernel), List.mem_of_getElem? (i := 2135) (by decide +kernel), List.mem_of_getElem? (i := 2136) (by decide +kernel)⟩
theorem lw_p247 : lw_okq (⟨"ArrayHouseModel", "shownStatement", "(II)V"⟩, 76) := ⟨⟨by decide +kernel, by decide +kernel⟩, List.mem_of_getElem? (i := 1818) (by decide +kernel), List.mem_of_getElem? (i := 2139) (by decide +kernel), List.mem_of_getElem? (i := 2140) (by decide +kernel)⟩
theorem lw_p248 : lw_okq (⟨"ArrayHouseModel", "spend", "(I)Z"⟩, 76) := ⟨⟨by decide +kernel, by decide +kernel⟩, List.mem_of_getElem? (i := 1818) (by decide +kernel), List.mem_of_getElem? (i := 2143) (by decide +kernel), List.mem_of_getElem? (i := 2144) (by decide +kernel)⟩
theorem lw_p249 : lw_okq (⟨"ArrayHouseModel", "evaluate", "(III)I"⟩, 76) := ⟨⟨by decide +kernel, by decide +kernel⟩, List.mem_of_getElem? (i := 1818) (by decide +kernel), List.mem_of_getElem? (i := 2148) (by decide +kernel), List.mem_of_getElem? (i := 2149) (by decide +kernel)⟩
theorem lw_p250 : lw_okq (⟨"ArrayHouseModel", "strand", "(III)I"⟩, 76) := ⟨⟨by decide +kernel, by decide +kernel⟩, List.mem_of_getElem? (i := 1818) (by decide +kernel), List.mem_of_getElem? (i := 2152) (by decide +kernel), List.mem_of_getElem? (i := 2153) (by decide +kernel)⟩
theorem lw_p251 : lw_okq (⟨"ArrayHouseModel", "isTheirs", "(II)Z"⟩, 76) := ⟨⟨by decide +kernel, by decide +kernel⟩, List.mem_of_getElem? (i := 1818) (by decide +kernel), List.mem_of_getElem? (i := 2159) (by decide +kernel), List.mem_of_getElem? (i := 2160) (by decide +kernel)⟩
theorem lw_p252 : lw_okq (⟨"ArrayHouseModel", "meet", "(III)I"⟩, 76) := ⟨⟨by decide +kernel, by decide +kernel⟩, List.mem_of_getElem? (i := 1818) (by decide +kernel), List.mem_of_getElem? (i := 2163) (by decide +kernel), List.mem_of_getElem? (i := 2164) (by decide +kernel)⟩
theorem lw_p253 : lw_okq (⟨"ArrayHouseModel", "meetBracket", "(III)I"⟩, 76) := ⟨⟨by decide +kernel, by decide +kernel⟩, List.mem_of_getElem? (i := 1818) (by decide +kernel), List.mem_of_getElem? (i := 2167) (by decide +kernel), List.mem_of_getElem? (i := 2168) (by decide +kernel)⟩
theorem lw_p254 : lw_okq (⟨"ArrayHouseModel", "opens", "()Z"⟩, 76) := ⟨⟨by decide +kernel, by decide +kernel⟩, List.mem_of_getElem? (i := 1818) (by decide +kernel), List.mem_of_getElem? (i := 2171) (by decide +kernel), List.mem_of_getElem? (i := 2172) (by decide +kernel)⟩
theorem lw_p255 : lw_okq (⟨"ArrayHouseModel", "workIndices", "(III)V"⟩, 76) := ⟨⟨by decide +kernel, by decide +kernel⟩, List.mem_of_getElem? (i := 1818) (by decide +kernel), List.mem_of_getElem? (i := 2175) (by decide +kernel), List.mem_of_getElem? (i := 2176) (by decide +kernel)⟩
def lw_privs_16 : List (MethodName × Nat) := [(⟨"ArrayHouseModel", "token", "(IIII)V"⟩, 76), (⟨"ArrayHouseModel", "lexQuoted", "(I)Z"⟩, 76), (⟨"ArrayHouseModel", "lexWord", "(I)Z"⟩, 76), (⟨"ArrayHouseModel", "wordOf", "(Ljava/lang/String;II)I"⟩, 76), (⟨"ArrayHouseModel", "lettersOf", "(II)I"⟩, 76), (⟨"ArrayHouseModel", "nested", "(II)I"⟩, 76), (⟨"ArrayHouseModel", "statementEnd", "(II)I"⟩, 76), (⟨"ArrayHouseModel", "shownStatement", "(II)V"⟩, 76), (⟨"ArrayHouseModel", "spend", "(I)Z"⟩, 76), (⟨"ArrayHouseModel", "evaluate", "(III)I"⟩, 76), (⟨"ArrayHouseModel", "strand", "(III)I"⟩, 76), (⟨"ArrayHouseModel", "isTheirs", "(II)Z"⟩, 76), (⟨"ArrayHouseModel", "meet", "(III)I"⟩, 76), (⟨"ArrayHouseModel", "meetBracket", "(III)I"⟩, 76), (⟨"ArrayHouseModel", "opens", "()Z"⟩, 76), (⟨"ArrayHouseModel", "workIndices", "(III)V"⟩, 76)]
theorem lw_r16 : ∀ q ∈ lw_privs_16, lw_okq q := List.forall_mem_cons.mpr ⟨lw_p240, List.forall_mem_cons.mpr ⟨lw_p241, List.forall_mem_cons.mpr ⟨lw_p242, List.forall_mem_cons.mpr ⟨lw_p243, List.forall_mem_cons.mpr ⟨lw_p244, List.forall_mem_cons.mpr ⟨lw_p245, List.forall_mem_cons.mpr ⟨lw_p246, List.forall_mem_cons.mpr ⟨lw_p247, List.forall_mem_cons.mpr ⟨lw_p248, List.forall_mem_cons.mpr ⟨lw_p249, List.forall_mem_cons.mpr ⟨lw_p250, List.forall_mem_cons.mpr ⟨lw_p251, List.forall_mem_cons.mpr ⟨lw_p252, List.forall_mem_cons.mpr ⟨lw_p253, List.forall_mem_cons.mpr ⟨lw_p254, List.forall_mem_cons.mpr ⟨lw_p255, fun _ h => absurd h List.not_mem_nil⟩⟩⟩⟩⟩⟩⟩⟩⟩⟩⟩⟩⟩⟩⟩⟩
theorem lw_p256 : lw_okq (⟨"ArrayHouseModel", "valueOf", "(III)I"⟩, 76) := ⟨⟨by decide +kernel, by decide +kernel⟩, List.mem_of_getElem? (i := 1818) (by decide +kernel), List.mem_of_getElem? (i := 2179) (by decide +kernel), List.mem_of_getElem? (i := 2180) (by decide +kernel)⟩
theorem lw_p257 : lw_okq (⟨"ArrayHouseModel", "fail", "(I)I"⟩, 76) := ⟨⟨by decide +kernel, by decide +kernel⟩, List.mem_of_getElem? (i := 1818) (by decide +kernel), List.mem_of_getElem? (i := 2183) (by decide +kernel), List.mem_of_getElem? (i := 2184) (by decide +kernel)⟩
theorem lw_p258 : lw_okq (⟨"ArrayHouseModel", "indexed", "(III)I"⟩, 76) := ⟨⟨by decide +kernel, by decide +kernel⟩, List.mem_of_getElem? (i := 1818) (by decide +kernel), List.mem_of_getElem? (i := 2187) (by decide +kernel), List.mem_of_getElem? (i := 2188) (by decide +kernel)⟩
theorem lw_p259 : lw_okq (⟨"ArrayHouseModel", "size", "(I)I"⟩, 76) := ⟨⟨by decide +kernel, by decide +kernel⟩, List.mem_of_getElem? (i := 1818) (by decide +kernel), List.mem_of_getElem? (i := 2191) (by decide +kernel), List.mem_of_getElem? (i := 2192) (by decide +kernel)⟩
theorem lw_p260 : lw_okq (⟨"ArrayHouseModel", "lookAtIndices", "(III)V"⟩, 76) := ⟨⟨by decide +kernel, by decide +kernel⟩, List.mem_of_getElem? (i := 1818) (by decide +kernel), List.mem_of_getElem? (i := 2195) (by decide +kernel), List.mem_of_getElem? (i := 2196) (by decide +kernel)⟩
theorem lw_p261 : lw_okq (⟨"ArrayHouseModel", "rank", "(I)I"⟩, 76) := ⟨⟨by decide +kernel, by decide +kernel⟩, List.mem_of_getElem? (i := 1818) (by decide +kernel), List.mem_of_getElem? (i := 2199) (by decide +kernel), List.mem_of_getElem? (i := 2200) (by decide +kernel)⟩
theorem lw_p262 : lw_okq (⟨"ArrayHouseModel", "areWhole", "(III)Z"⟩, 76) := ⟨⟨by decide +kernel, by decide +kernel⟩, List.mem_of_getElem? (i := 1818) (by decide +kernel), List.mem_of_getElem? (i := 2205) (by decide +kernel), List.mem_of_getElem? (i := 2206) (by decide +kernel)⟩
theorem lw_p263 : lw_okq (⟨"ArrayHouseModel", "count", "(I)I"⟩, 76) := ⟨⟨by decide +kernel, by decide +kernel⟩, List.mem_of_getElem? (i := 1818) (by decide +kernel), List.mem_of_getElem? (i := 2209) (by decide +kernel), List.mem_of_getElem? (i := 2210) (by decide +kernel)⟩
theorem lw_p264 : lw_okq (⟨"ArrayHouseModel", "isWhole", "(II)Z"⟩, 76) := ⟨⟨by decide +kernel, by decide +kernel⟩, List.mem_of_getElem? (i := 1818) (by decide +kernel), List.mem_of_getElem? (i := 2213) (by decide +kernel), List.mem_of_getElem? (i := 2214) (by decide +kernel)⟩
theorem lw_p265 : lw_okq (⟨"ArrayHouseModel", "d", "(II)I"⟩, 76) := ⟨⟨by decide +kernel, by decide +kernel⟩, List.mem_of_getElem? (i := 1818) (by decide +kernel), List.mem_of_getElem? (i := 2217) (by decide +kernel), List.mem_of_getElem? (i := 2218) (by decide +kernel)⟩
theorem lw_p266 : lw_okq (⟨"ArrayHouseModel", "place", "(II)I"⟩, 76) := ⟨⟨by decide +kernel, by decide +kernel⟩, List.mem_of_getElem? (i := 1818) (by decide +kernel), List.mem_of_getElem? (i := 2221) (by decide +kernel), List.mem_of_getElem? (i := 2222) (by decide +kernel)⟩
theorem lw_p267 : lw_okq (⟨"ArrayHouseModel", "n", "(II)I"⟩, 76) := ⟨⟨by decide +kernel, by decide +kernel⟩, List.mem_of_getElem? (i := 1818) (by decide +kernel), List.mem_of_getElem? (i := 2225) (by decide +kernel), List.mem_of_getElem? (i := 2226) (by decide +kernel)⟩
theorem lw_p268 : lw_okq (⟨"ArrayHouseModel", "extent", "(II)I"⟩, 76) := ⟨⟨by decide +kernel, by decide +kernel⟩, List.mem_of_getElem? (i := 1818) (by decide +kernel), List.mem_of_getElem? (i := 2229) (by decide +kernel), List.mem_of_getElem? (i := 2230) (by decide +kernel)⟩
theorem lw_p269 : lw_okq (⟨"ArrayHouseModel", "make", "()I"⟩, 76) := ⟨⟨by decide +kernel, by decide +kernel⟩, List.mem_of_getElem? (i := 1818) (by decide +kernel), List.mem_of_getElem? (i := 2234) (by decide +kernel), List.mem_of_getElem? (i := 2235) (by decide +kernel)⟩
theorem lw_p270 : lw_okq (⟨"ArrayHouseModel", "raw", "(I)I"⟩, 76) := ⟨⟨by decide +kernel, by decide +kernel⟩, List.mem_of_getElem? (i := 1818) (by decide +kernel), List.mem_of_getElem? (i := 2238) (by decide +kernel), List.mem_of_getElem? (i := 2239) (by decide +kernel)⟩
theorem lw_p271 : lw_okq (⟨"ArrayHouseModel", "set", "(IIII)V"⟩, 76) := ⟨⟨by decide +kernel, by decide +kernel⟩, List.mem_of_getElem? (i := 1818) (by decide +kernel), List.mem_of_getElem? (i := 2244) (by decide +kernel), List.mem_of_getElem? (i := 2245) (by decide +kernel)⟩
def lw_privs_17 : List (MethodName × Nat) := [(⟨"ArrayHouseModel", "valueOf", "(III)I"⟩, 76), (⟨"ArrayHouseModel", "fail", "(I)I"⟩, 76), (⟨"ArrayHouseModel", "indexed", "(III)I"⟩, 76), (⟨"ArrayHouseModel", "size", "(I)I"⟩, 76), (⟨"ArrayHouseModel", "lookAtIndices", "(III)V"⟩, 76), (⟨"ArrayHouseModel", "rank", "(I)I"⟩, 76), (⟨"ArrayHouseModel", "areWhole", "(III)Z"⟩, 76), (⟨"ArrayHouseModel", "count", "(I)I"⟩, 76), (⟨"ArrayHouseModel", "isWhole", "(II)Z"⟩, 76), (⟨"ArrayHouseModel", "d", "(II)I"⟩, 76), (⟨"ArrayHouseModel", "place", "(II)I"⟩, 76), (⟨"ArrayHouseModel", "n", "(II)I"⟩, 76), (⟨"ArrayHouseModel", "extent", "(II)I"⟩, 76), (⟨"ArrayHouseModel", "make", "()I"⟩, 76), (⟨"ArrayHouseModel", "raw", "(I)I"⟩, 76), (⟨"ArrayHouseModel", "set", "(IIII)V"⟩, 76)]
theorem lw_r17 : ∀ q ∈ lw_privs_17, lw_okq q := List.forall_mem_cons.mpr ⟨lw_p256, List.forall_mem_cons.mpr ⟨lw_p257, List.forall_mem_cons.mpr ⟨lw_p258, List.forall_mem_cons.mpr ⟨lw_p259, List.forall_mem_cons.mpr ⟨lw_p260, List.forall_mem_cons.mpr ⟨lw_p261, List.forall_mem_cons.mpr ⟨lw_p262, List.forall_mem_cons.mpr ⟨lw_p263, List.forall_mem_cons.mpr ⟨lw_p264, List.forall_mem_cons.mpr ⟨lw_p265, List.forall_mem_cons.mpr ⟨lw_p266, List.forall_mem_cons.mpr ⟨lw_p267, List.forall_mem_cons.mpr ⟨lw_p268, List.forall_mem_cons.mpr ⟨lw_p269, List.forall_mem_cons.mpr ⟨lw_p270, List.forall_mem_cons.mpr ⟨lw_p271, fun _ h => absurd h List.not_mem_nil⟩⟩⟩⟩⟩⟩⟩⟩⟩⟩⟩⟩⟩⟩⟩⟩
theorem lw_p272 : lw_okq (⟨"ArrayHouseModel", "indexedAt", "(IIII)I"⟩, 76) := ⟨⟨by decide +kernel, by decide +kernel⟩, List.mem_of_getElem? (i := 1818) (by decide +kernel), List.mem_of_getElem? (i := 2248) (by decide +kernel), List.mem_of_getElem? (i := 2249) (by decide +kernel)⟩
theorem lw_p273 : lw_okq (⟨"ArrayHouseModel", "takeItem", "(II)V"⟩, 76) := ⟨⟨by decide +kernel, by decide +kernel⟩, List.mem_of_getElem? (i := 1818) (by decide +kernel), List.mem_of_getElem? (i := 2252) (by decide +kernel), List.mem_of_getElem? (i := 2253) (by decide +kernel)⟩
theorem lw_p274 : lw_okq (⟨"ArrayHouseModel", "setItem", "(II)V"⟩, 76) := ⟨⟨by decide +kernel, by decide +kernel⟩, List.mem_of_getElem? (i := 1818) (by decide +kernel), List.mem_of_getElem? (i := 2256) (by decide +kernel), List.mem_of_getElem? (i := 2257) (by decide +kernel)⟩
theorem lw_p275 : lw_okq (⟨"ArrayHouseModel", "fillLike", "(II)V"⟩, 76) := ⟨⟨by decide +kernel, by decide +kernel⟩, List.mem_of_getElem? (i := 1818) (by decide +kernel), List.mem_of_getElem? (i := 2260) (by decide +kernel), List.mem_of_getElem? (i := 2261) (by decide +kernel)⟩
theorem lw_p276 : lw_okq (⟨"ArrayHouseModel", "fill", "(I)V"⟩, 76) := ⟨⟨by decide +kernel, by decide +kernel⟩, List.mem_of_getElem? (i := 1818) (by decide +kernel), List.mem_of_getElem? (i := 2264) (by decide +kernel), List.mem_of_getElem? (i := 2265) (by decide +kernel)⟩
theorem lw_p277 : lw_okq (⟨"ArrayHouseModel", "fillOf", "(II)V"⟩, 76) := ⟨⟨by decide +kernel, by decide +kernel⟩, List.mem_of_getElem? (i := 1818) (by decide +kernel), List.mem_of_getElem? (i := 2268) (by decide +kernel), List.mem_of_getElem? (i := 2269) (by decide +kernel)⟩
theorem lw_p278 : lw_okq (⟨"ArrayHouseModel", "fillValue", "(I)I"⟩, 76) := ⟨⟨by decide +kernel, by decide +kernel⟩, List.mem_of_getElem? (i := 1818) (by decide +kernel), List.mem_of_getElem? (i := 2272) (by decide +kernel), List.mem_of_getElem? (i := 2273) (by decide +kernel)⟩
theorem lw_p279 : lw_okq (⟨"ArrayHouseModel", "shapeOf", "(I)V"⟩, 76) := ⟨⟨by decide +kernel, by decide +kernel⟩, List.mem_of_getElem? (i := 1818) (by decide +kernel), List.mem_of_getElem? (i := 2276) (by decide +kernel), List.mem_of_getElem? (i := 2277) (by decide +kernel)⟩
theorem lw_p280 : lw_okq (⟨"ArrayHouseModel", "done", "(I)I"⟩, 76) := ⟨⟨by decide +kernel, by decide +kernel⟩, List.mem_of_getElem? (i := 1818) (by decide +kernel), List.mem_of_getElem? (i := 2280) (by decide +kernel), List.mem_of_getElem? (i := 2281) (by decide +kernel)⟩
theorem lw_p281 : lw_okq (⟨"ArrayHouseModel", "forgetFrom", "(I)V"⟩, 76) := ⟨⟨by decide +kernel, by decide +kernel⟩, List.mem_of_getElem? (i := 1818) (by decide +kernel), List.mem_of_getElem? (i := 2284) (by decide +kernel), List.mem_of_getElem? (i := 2285) (by decide +kernel)⟩
theorem lw_p282 : lw_okq (⟨"ArrayHouseModel", "literalAt", "(I)I"⟩, 76) := ⟨⟨by decide +kernel, by decide +kernel⟩, List.mem_of_getElem? (i := 1818) (by decide +kernel), List.mem_of_getElem? (i := 2291) (by decide +kernel), List.mem_of_getElem? (i := 2292) (by decide +kernel)⟩
theorem lw_p283 : lw_okq (⟨"ArrayHouseModel", "scalar", "(II)I"⟩, 76) := ⟨⟨by decide +kernel, by decide +kernel⟩, List.mem_of_getElem? (i := 1818) (by decide +kernel), List.mem_of_getElem? (i := 2295) (by decide +kernel), List.mem_of_getElem? (i := 2296) (by decide +kernel)⟩
theorem lw_p284 : lw_okq (⟨"ArrayHouseModel", "quoted", "(I)I"⟩, 76) := ⟨⟨by decide +kernel, by decide +kernel⟩, List.mem_of_getElem? (i := 1818) (by decide +kernel), List.mem_of_getElem? (i := 2299) (by decide +kernel), List.mem_of_getElem? (i := 2300) (by decide +kernel)⟩
theorem lw_p285 : lw_okq (⟨"ArrayHouseModel", "shapeVector", "(I)V"⟩, 76) := ⟨⟨by decide +kernel, by decide +kernel⟩, List.mem_of_getElem? (i := 1818) (by decide +kernel), List.mem_of_getElem? (i := 2303) (by decide +kernel), List.mem_of_getElem? (i := 2304) (by decide +kernel)⟩
theorem lw_p286 : lw_okq (⟨"ArrayHouseModel", "meetName", "(II)I"⟩, 76) := ⟨⟨by decide +kernel, by decide +kernel⟩, List.mem_of_getElem? (i := 1818) (by decide +kernel), List.mem_of_getElem? (i := 2307) (by decide +kernel), List.mem_of_getElem? (i := 2308) (by decide +kernel)⟩
theorem lw_p287 : lw_okq (⟨"ArrayHouseModel", "look", "(III)I"⟩, 76) := ⟨⟨by decide +kernel, by decide +kernel⟩, List.mem_of_getElem? (i := 1818) (by decide +kernel), List.mem_of_getElem? (i := 2311) (by decide +kernel), List.mem_of_getElem? (i := 2312) (by decide +kernel)⟩
def lw_privs_18 : List (MethodName × Nat) := [(⟨"ArrayHouseModel", "indexedAt", "(IIII)I"⟩, 76), (⟨"ArrayHouseModel", "takeItem", "(II)V"⟩, 76), (⟨"ArrayHouseModel", "setItem", "(II)V"⟩, 76), (⟨"ArrayHouseModel", "fillLike", "(II)V"⟩, 76), (⟨"ArrayHouseModel", "fill", "(I)V"⟩, 76), (⟨"ArrayHouseModel", "fillOf", "(II)V"⟩, 76), (⟨"ArrayHouseModel", "fillValue", "(I)I"⟩, 76), (⟨"ArrayHouseModel", "shapeOf", "(I)V"⟩, 76), (⟨"ArrayHouseModel", "done", "(I)I"⟩, 76), (⟨"ArrayHouseModel", "forgetFrom", "(I)V"⟩, 76), (⟨"ArrayHouseModel", "literalAt", "(I)I"⟩, 76), (⟨"ArrayHouseModel", "scalar", "(II)I"⟩, 76), (⟨"ArrayHouseModel", "quoted", "(I)I"⟩, 76), (⟨"ArrayHouseModel", "shapeVector", "(I)V"⟩, 76), (⟨"ArrayHouseModel", "meetName", "(II)I"⟩, 76), (⟨"ArrayHouseModel", "look", "(III)I"⟩, 76)]
theorem lw_r18 : ∀ q ∈ lw_privs_18, lw_okq q := List.forall_mem_cons.mpr ⟨lw_p272, List.forall_mem_cons.mpr ⟨lw_p273, List.forall_mem_cons.mpr ⟨lw_p274, List.forall_mem_cons.mpr ⟨lw_p275, List.forall_mem_cons.mpr ⟨lw_p276, List.forall_mem_cons.mpr ⟨lw_p277, List.forall_mem_cons.mpr ⟨lw_p278, List.forall_mem_cons.mpr ⟨lw_p279, List.forall_mem_cons.mpr ⟨lw_p280, List.forall_mem_cons.mpr ⟨lw_p281, List.forall_mem_cons.mpr ⟨lw_p282, List.forall_mem_cons.mpr ⟨lw_p283, List.forall_mem_cons.mpr ⟨lw_p284, List.forall_mem_cons.mpr ⟨lw_p285, List.forall_mem_cons.mpr ⟨lw_p286, List.forall_mem_cons.mpr ⟨lw_p287, fun _ h => absurd h List.not_mem_nil⟩⟩⟩⟩⟩⟩⟩⟩⟩⟩⟩⟩⟩⟩⟩⟩
theorem lw_p288 : lw_okq (⟨"ArrayHouseModel", "nameIn", "(III)I"⟩, 76) := ⟨⟨by decide +kernel, by decide +kernel⟩, List.mem_of_getElem? (i := 1818) (by decide +kernel), List.mem_of_getElem? (i := 2315) (by decide +kernel), List.mem_of_getElem? (i := 2316) (by decide +kernel)⟩
theorem lw_p289 : lw_okq (⟨"ArrayHouseModel", "textOf", "(I)I"⟩, 76) := ⟨⟨by decide +kernel, by decide +kernel⟩, List.mem_of_getElem? (i := 1818) (by decide +kernel), List.mem_of_getElem? (i := 2325) (by decide +kernel), List.mem_of_getElem? (i := 2326) (by decide +kernel)⟩
theorem lw_p290 : lw_okq (⟨"ArrayHouseModel", "function", "(IIII)I"⟩, 76) := ⟨⟨by decide +kernel, by decide +kernel⟩, List.mem_of_getElem? (i := 1818) (by decide +kernel), List.mem_of_getElem? (i := 2332) (by decide +kernel), List.mem_of_getElem? (i := 2333) (by decide +kernel)⟩
theorem lw_p291 : lw_okq (⟨"ArrayHouseModel", "meetParen", "(II)I"⟩, 76) := ⟨⟨by decide +kernel, by decide +kernel⟩, List.mem_of_getElem? (i := 1818) (by decide +kernel), List.mem_of_getElem? (i := 2336) (by decide +kernel), List.mem_of_getElem? (i := 2337) (by decide +kernel)⟩
theorem lw_p292 : lw_okq (⟨"ArrayHouseModel", "vectorOf", "(II)I"⟩, 76) := ⟨⟨by decide +kernel, by decide +kernel⟩, List.mem_of_getElem? (i := 1818) (by decide +kernel), List.mem_of_getElem? (i := 2340) (by decide +kernel), List.mem_of_getElem? (i := 2341) (by decide +kernel)⟩
theorem lw_p293 : lw_okq (⟨"ArrayHouseModel", "box", "(I)V"⟩, 76) := ⟨⟨by decide +kernel, by decide +kernel⟩, List.mem_of_getElem? (i := 1818) (by decide +kernel), List.mem_of_getElem? (i := 2344) (by decide +kernel), List.mem_of_getElem? (i := 2345) (by decide +kernel)⟩
theorem lw_p294 : lw_okq (⟨"ArrayHouseModel", "functionPhrase", "(IIIIII)I"⟩, 76) := ⟨⟨by decide +kernel, by decide +kernel⟩, List.mem_of_getElem? (i := 1818) (by decide +kernel), List.mem_of_getElem? (i := 2348) (by decide +kernel), List.mem_of_getElem? (i := 2349) (by decide +kernel)⟩
theorem lw_p295 : lw_okq (⟨"ArrayHouseModel", "functionAt", "(IIIII)I"⟩, 76) := ⟨⟨by decide +kernel, by decide +kernel⟩, List.mem_of_getElem? (i := 1818) (by decide +kernel), List.mem_of_getElem? (i := 2352) (by decide +kernel), List.mem_of_getElem? (i := 2353) (by decide +kernel)⟩
theorem lw_p296 : lw_okq (⟨"ArrayHouseModel", "later", "(II)V"⟩, 76) := ⟨⟨by decide +kernel, by decide +kernel⟩, List.mem_of_getElem? (i := 1818) (by decide +kernel), List.mem_of_getElem? (i := 2356) (by decide +kernel), List.mem_of_getElem? (i := 2357) (by decide +kernel)⟩
theorem lw_p297 : lw_okq (⟨"ArrayHouseModel", "named", "(I)I"⟩, 76) := ⟨⟨by decide +kernel, by decide +kernel⟩, List.mem_of_getElem? (i := 1818) (by decide +kernel), List.mem_of_getElem? (i := 2360) (by decide +kernel), List.mem_of_getElem? (i := 2361) (by decide +kernel)⟩
theorem lw_p298 : lw_okq (⟨"ArrayHouseModel", "sign", "(III)I"⟩, 76) := ⟨⟨by decide +kernel, by decide +kernel⟩, List.mem_of_getElem? (i := 1818) (by decide +kernel), List.mem_of_getElem? (i := 2364) (by decide +kernel), List.mem_of_getElem? (i := 2365) (by decide +kernel)⟩
theorem lw_p299 : lw_okq (⟨"ArrayHouseModel", "meansFunction", "(IIIII)V"⟩, 76) := ⟨⟨by decide +kernel, by decide +kernel⟩, List.mem_of_getElem? (i := 1818) (by decide +kernel), List.mem_of_getElem? (i := 2368) (by decide +kernel), List.mem_of_getElem? (i := 2369) (by decide +kernel)⟩
theorem lw_p300 : lw_okq (⟨"ArrayHouseModel", "slot", "(III)I"⟩, 76) := ⟨⟨by decide +kernel, by decide +kernel⟩, List.mem_of_getElem? (i := 1818) (by decide +kernel), List.mem_of_getElem? (i := 2372) (by decide +kernel), List.mem_of_getElem? (i := 2373) (by decide +kernel)⟩
theorem lw_p301 : lw_okq (⟨"ArrayHouseModel", "unText", "(I)V"⟩, 76) := ⟨⟨by decide +kernel, by decide +kernel⟩, List.mem_of_getElem? (i := 1818) (by decide +kernel), List.mem_of_getElem? (i := 2376) (by decide +kernel), List.mem_of_getElem? (i := 2377) (by decide +kernel)⟩
theorem lw_p302 : lw_okq (⟨"ArrayHouseModel", "gets", "(IIII)I"⟩, 76) := ⟨⟨by decide +kernel, by decide +kernel⟩, List.mem_of_getElem? (i := 1818) (by decide +kernel), List.mem_of_getElem? (i := 2380) (by decide +kernel), List.mem_of_getElem? (i := 2381) (by decide +kernel)⟩
theorem lw_p303 : lw_okq (⟨"ArrayHouseModel", "give", "(III)V"⟩, 76) := ⟨⟨by decide +kernel, by decide +kernel⟩, List.mem_of_getElem? (i := 1818) (by decide +kernel), List.mem_of_getElem? (i := 2384) (by decide +kernel), List.mem_of_getElem? (i := 2385) (by decide +kernel)⟩
def lw_privs_19 : List (MethodName × Nat) := [(⟨"ArrayHouseModel", "nameIn", "(III)I"⟩, 76), (⟨"ArrayHouseModel", "textOf", "(I)I"⟩, 76), (⟨"ArrayHouseModel", "function", "(IIII)I"⟩, 76), (⟨"ArrayHouseModel", "meetParen", "(II)I"⟩, 76), (⟨"ArrayHouseModel", "vectorOf", "(II)I"⟩, 76), (⟨"ArrayHouseModel", "box", "(I)V"⟩, 76), (⟨"ArrayHouseModel", "functionPhrase", "(IIIIII)I"⟩, 76), (⟨"ArrayHouseModel", "functionAt", "(IIIII)I"⟩, 76), (⟨"ArrayHouseModel", "later", "(II)V"⟩, 76), (⟨"ArrayHouseModel", "named", "(I)I"⟩, 76), (⟨"ArrayHouseModel", "sign", "(III)I"⟩, 76), (⟨"ArrayHouseModel", "meansFunction", "(IIIII)V"⟩, 76), (⟨"ArrayHouseModel", "slot", "(III)I"⟩, 76), (⟨"ArrayHouseModel", "unText", "(I)V"⟩, 76), (⟨"ArrayHouseModel", "gets", "(IIII)I"⟩, 76), (⟨"ArrayHouseModel", "give", "(III)V"⟩, 76)]
theorem lw_r19 : ∀ q ∈ lw_privs_19, lw_okq q := List.forall_mem_cons.mpr ⟨lw_p288, List.forall_mem_cons.mpr ⟨lw_p289, List.forall_mem_cons.mpr ⟨lw_p290, List.forall_mem_cons.mpr ⟨lw_p291, List.forall_mem_cons.mpr ⟨lw_p292, List.forall_mem_cons.mpr ⟨lw_p293, List.forall_mem_cons.mpr ⟨lw_p294, List.forall_mem_cons.mpr ⟨lw_p295, List.forall_mem_cons.mpr ⟨lw_p296, List.forall_mem_cons.mpr ⟨lw_p297, List.forall_mem_cons.mpr ⟨lw_p298, List.forall_mem_cons.mpr ⟨lw_p299, List.forall_mem_cons.mpr ⟨lw_p300, List.forall_mem_cons.mpr ⟨lw_p301, List.forall_mem_cons.mpr ⟨lw_p302, List.forall_mem_cons.mpr ⟨lw_p303, fun _ h => absurd h List.not_mem_nil⟩⟩⟩⟩⟩⟩⟩⟩⟩⟩⟩⟩⟩⟩⟩⟩
theorem lw_p304 : lw_okq (⟨"ArrayHouseModel", "meansValue", "(IIII)V"⟩, 76) := ⟨⟨by decide +kernel, by decide +kernel⟩, List.mem_of_getElem? (i := 1818) (by decide +kernel), List.mem_of_getElem? (i := 2388) (by decide +kernel), List.mem_of_getElem? (i := 2389) (by decide +kernel)⟩
theorem lw_p305 : lw_okq (⟨"ArrayHouseModel", "areNames", "(II)Z"⟩, 76) := ⟨⟨by decide +kernel, by decide +kernel⟩, List.mem_of_getElem? (i := 1818) (by decide +kernel), List.mem_of_getElem? (i := 2392) (by decide +kernel), List.mem_of_getElem? (i := 2393) (by decide +kernel)⟩
theorem lw_p306 : lw_okq (⟨"ArrayHouseModel", "getsNames", "(III)V"⟩, 76) := ⟨⟨by decide +kernel, by decide +kernel⟩, List.mem_of_getElem? (i := 1818) (by decide +kernel), List.mem_of_getElem? (i := 2396) (by decide +kernel), List.mem_of_getElem? (i := 2397) (by decide +kernel)⟩
theorem lw_p307 : lw_okq (⟨"ArrayHouseModel", "openedAt", "(II)I"⟩, 76) := ⟨⟨by decide +kernel, by decide +kernel⟩, List.mem_of_getElem? (i := 1818) (by decide +kernel), List.mem_of_getElem? (i := 2400) (by decide +kernel), List.mem_of_getElem? (i := 2401) (by decide +kernel)⟩
theorem lw_p308 : lw_okq (⟨"ArrayHouseModel", "opened", "(II)I"⟩, 76) := ⟨⟨by decide +kernel, by decide +kernel⟩, List.mem_of_getElem? (i := 1818) (by decide +kernel), List.mem_of_getElem? (i := 2404) (by decide +kernel), List.mem_of_getElem? (i := 2405) (by decide +kernel)⟩
theorem lw_p309 : lw_okq (⟨"ArrayHouseModel", "getsChosen", "(III)V"⟩, 76) := ⟨⟨by decide +kernel, by decide +kernel⟩, List.mem_of_getElem? (i := 1818) (by decide +kernel), List.mem_of_getElem? (i := 2408) (by decide +kernel), List.mem_of_getElem? (i := 2409) (by decide +kernel)⟩
theorem lw_p310 : lw_okq (⟨"ArrayHouseModel", "sameExtents", "(II)Z"⟩, 76) := ⟨⟨by decide +kernel, by decide +kernel⟩, List.mem_of_getElem? (i := 1818) (by decide +kernel), List.mem_of_getElem? (i := 2412) (by decide +kernel), List.mem_of_getElem? (i := 2413) (by decide +kernel)⟩
theorem lw_p311 : lw_okq (⟨"ArrayHouseModel", "copy", "(I)I"⟩, 76) := ⟨⟨by decide +kernel, by decide +kernel⟩, List.mem_of_getElem? (i := 1818) (by decide +kernel), List.mem_of_getElem? (i := 2416) (by decide +kernel), List.mem_of_getElem? (i := 2417) (by decide +kernel)⟩
theorem lw_p312 : lw_okq (⟨"ArrayHouseModel", "settled", "(II)V"⟩, 76) := ⟨⟨by decide +kernel, by decide +kernel⟩, List.mem_of_getElem? (i := 1818) (by decide +kernel), List.mem_of_getElem? (i := 2420) (by decide +kernel), List.mem_of_getElem? (i := 2421) (by decide +kernel)⟩
theorem lw_p313 : lw_okq (⟨"ArrayHouseModel", "becomes", "(II)V"⟩, 76) := ⟨⟨by decide +kernel, by decide +kernel⟩, List.mem_of_getElem? (i := 1818) (by decide +kernel), List.mem_of_getElem? (i := 2424) (by decide +kernel), List.mem_of_getElem? (i := 2425) (by decide +kernel)⟩
theorem lw_p314 : lw_okq (⟨"ArrayHouseModel", "getsBy", "(III)V"⟩, 76) := ⟨⟨by decide +kernel, by decide +kernel⟩, List.mem_of_getElem? (i := 1818) (by decide +kernel), List.mem_of_getElem? (i := 2428) (by decide +kernel), List.mem_of_getElem? (i := 2429) (by decide +kernel)⟩
theorem lw_p315 : lw_okq (⟨"ArrayHouseModel", "ownOf", "(II)I"⟩, 76) := ⟨⟨by decide +kernel, by decide +kernel⟩, List.mem_of_getElem? (i := 1818) (by decide +kernel), List.mem_of_getElem? (i := 2432) (by decide +kernel), List.mem_of_getElem? (i := 2433) (by decide +kernel)⟩
theorem lw_p316 : lw_okq (⟨"ArrayHouseModel", "apply", "(III)I"⟩, 76) := ⟨⟨by decide +kernel, by decide +kernel⟩, List.mem_of_getElem? (i := 1818) (by decide +kernel), List.mem_of_getElem? (i := 2436) (by decide +kernel), List.mem_of_getElem? (i := 2437) (by decide +kernel)⟩
theorem lw_p317 : lw_okq (⟨"ArrayHouseModel", "takes", "(IZ)Z"⟩, 76) := ⟨⟨by decide +kernel, by decide +kernel⟩, List.mem_of_getElem? (i := 1818) (by decide +kernel), List.mem_of_getElem? (i := 2440) (by decide +kernel), List.mem_of_getElem? (i := 2441) (by decide +kernel)⟩
theorem lw_p318 : lw_okq (⟨"ArrayHouseModel", "primitive", "(IIII)I"⟩, 76) := ⟨⟨by decide +kernel, by decide +kernel⟩, List.mem_of_getElem? (i := 1818) (by decide +kernel), List.mem_of_getElem? (i := 2446) (by decide +kernel), List.mem_of_getElem? (i := 2447) (by decide +kernel)⟩
theorem lw_p319 : lw_okq (⟨"ArrayHouseModel", "eachOne", "(II)I"⟩, 76) := ⟨⟨by decide +kernel, by decide +kernel⟩, List.mem_of_getElem? (i := 1818) (by decide +kernel), List.mem_of_getElem? (i := 2450) (by decide +kernel), List.mem_of_getElem? (i := 2451) (by decide +kernel)⟩
def lw_privs_20 : List (MethodName × Nat) := [(⟨"ArrayHouseModel", "meansValue", "(IIII)V"⟩, 76), (⟨"ArrayHouseModel", "areNames", "(II)Z"⟩, 76), (⟨"ArrayHouseModel", "getsNames", "(III)V"⟩, 76), (⟨"ArrayHouseModel", "openedAt", "(II)I"⟩, 76), (⟨"ArrayHouseModel", "opened", "(II)I"⟩, 76), (⟨"ArrayHouseModel", "getsChosen", "(III)V"⟩, 76), (⟨"ArrayHouseModel", "sameExtents", "(II)Z"⟩, 76), (⟨"ArrayHouseModel", "copy", "(I)I"⟩, 76), (⟨"ArrayHouseModel", "settled", "(II)V"⟩, 76), (⟨"ArrayHouseModel", "becomes", "(II)V"⟩, 76), (⟨"ArrayHouseModel", "getsBy", "(III)V"⟩, 76), (⟨"ArrayHouseModel", "ownOf", "(II)I"⟩, 76), (⟨"ArrayHouseModel", "apply", "(III)I"⟩, 76), (⟨"ArrayHouseModel", "takes", "(IZ)Z"⟩, 76), (⟨"ArrayHouseModel", "primitive", "(IIII)I"⟩, 76), (⟨"ArrayHouseModel", "eachOne", "(II)I"⟩, 76)]
theorem lw_r20 : ∀ q ∈ lw_privs_20, lw_okq q := List.forall_mem_cons.mpr ⟨lw_p304, List.forall_mem_cons.mpr ⟨lw_p305, List.forall_mem_cons.mpr ⟨lw_p306, List.forall_mem_cons.mpr ⟨lw_p307, List.forall_mem_cons.mpr ⟨lw_p308, List.forall_mem_cons.mpr ⟨lw_p309, List.forall_mem_cons.mpr ⟨lw_p310, List.forall_mem_cons.mpr ⟨lw_p311, List.forall_mem_cons.mpr ⟨lw_p312, List.forall_mem_cons.mpr ⟨lw_p313, List.forall_mem_cons.mpr ⟨lw_p314, List.forall_mem_cons.mpr ⟨lw_p315, List.forall_mem_cons.mpr ⟨lw_p316, List.forall_mem_cons.mpr ⟨lw_p317, List.forall_mem_cons.mpr ⟨lw_p318, List.forall_mem_cons.mpr ⟨lw_p319, fun _ h => absurd h List.not_mem_nil⟩⟩⟩⟩⟩⟩⟩⟩⟩⟩⟩⟩⟩⟩⟩⟩
theorem lw_p320 : lw_okq (⟨"ArrayHouseModel", "one", "(III)V"⟩, 76) := ⟨⟨by decide +kernel, by decide +kernel⟩, List.mem_of_getElem? (i := 1818) (by decide +kernel), List.mem_of_getElem? (i := 2454) (by decide +kernel), List.mem_of_getElem? (i := 2455) (by decide +kernel)⟩
theorem lw_p321 : lw_okq (⟨"ArrayHouseModel", "number", "(JJ)V"⟩, 76) := ⟨⟨by decide +kernel, by decide +kernel⟩, List.mem_of_getElem? (i := 1818) (by decide +kernel), List.mem_of_getElem? (i := 2461) (by decide +kernel), List.mem_of_getElem? (i := 2462) (by decide +kernel)⟩
theorem lw_p322 : lw_okq (⟨"ArrayHouseModel", "factorial", "(II)V"⟩, 76) := ⟨⟨by decide +kernel, by decide +kernel⟩, List.mem_of_getElem? (i := 1818) (by decide +kernel), List.mem_of_getElem? (i := 2466) (by decide +kernel), List.mem_of_getElem? (i := 2467) (by decide +kernel)⟩
theorem lw_p323 : lw_okq (⟨"ArrayHouseModel", "rolled", "(I)I"⟩, 76) := ⟨⟨by decide +kernel, by decide +kernel⟩, List.mem_of_getElem? (i := 1818) (by decide +kernel), List.mem_of_getElem? (i := 2474) (by decide +kernel), List.mem_of_getElem? (i := 2475) (by decide +kernel)⟩
theorem lw_p324 : lw_okq (⟨"ArrayHouseModel", "eachTwo", "(III)I"⟩, 76) := ⟨⟨by decide +kernel, by decide +kernel⟩, List.mem_of_getElem? (i := 1818) (by decide +kernel), List.mem_of_getElem? (i := 2480) (by decide +kernel), List.mem_of_getElem? (i := 2481) (by decide +kernel)⟩
theorem lw_p325 : lw_okq (⟨"ArrayHouseModel", "paired", "(II)I"⟩, 76) := ⟨⟨by decide +kernel, by decide +kernel⟩, List.mem_of_getElem? (i := 1818) (by decide +kernel), List.mem_of_getElem? (i := 2484) (by decide +kernel), List.mem_of_getElem? (i := 2485) (by decide +kernel)⟩
theorem lw_p326 : lw_okq (⟨"ArrayHouseModel", "two", "(IIIII)V"⟩, 76) := ⟨⟨by decide +kernel, by decide +kernel⟩, List.mem_of_getElem? (i := 1818) (by decide +kernel), List.mem_of_getElem? (i := 2488) (by decide +kernel), List.mem_of_getElem? (i := 2489) (by decide +kernel)⟩
theorem lw_p327 : lw_okq (⟨"ArrayHouseModel", "truth", "(Z)V"⟩, 76) := ⟨⟨by decide +kernel, by decide +kernel⟩, List.mem_of_getElem? (i := 1818) (by decide +kernel), List.mem_of_getElem? (i := 2492) (by decide +kernel), List.mem_of_getElem? (i := 2493) (by decide +kernel)⟩
theorem lw_p328 : lw_okq (⟨"ArrayHouseModel", "raise", "(III)V"⟩, 76) := ⟨⟨by decide +kernel, by decide +kernel⟩, List.mem_of_getElem? (i := 1818) (by decide +kernel), List.mem_of_getElem? (i := 2497) (by decide +kernel), List.mem_of_getElem? (i := 2498) (by decide +kernel)⟩
theorem lw_p329 : lw_okq (⟨"ArrayHouseModel", "choose", "(IIII)V"⟩, 76) := ⟨⟨by decide +kernel, by decide +kernel⟩, List.mem_of_getElem? (i := 1818) (by decide +kernel), List.mem_of_getElem? (i := 2502) (by decide +kernel), List.mem_of_getElem? (i := 2503) (by decide +kernel)⟩
theorem lw_p330 : lw_okq (⟨"ArrayHouseModel", "twoWholes", "(IIIII)V"⟩, 76) := ⟨⟨by decide +kernel, by decide +kernel⟩, List.mem_of_getElem? (i := 1818) (by decide +kernel), List.mem_of_getElem? (i := 2507) (by decide +kernel), List.mem_of_getElem? (i := 2508) (by decide +kernel)⟩
theorem lw_p331 : lw_okq (⟨"ArrayHouseModel", "dealt", "(II)I"⟩, 76) := ⟨⟨by decide +kernel, by decide +kernel⟩, List.mem_of_getElem? (i := 1818) (by decide +kernel), List.mem_of_getElem? (i := 2511) (by decide +kernel), List.mem_of_getElem? (i := 2512) (by decide +kernel)⟩
theorem lw_p332 : lw_okq (⟨"ArrayHouseModel", "ravel", "(I)I"⟩, 76) := ⟨⟨by decide +kernel, by decide +kernel⟩, List.mem_of_getElem? (i := 1818) (by decide +kernel), List.mem_of_getElem? (i := 2515) (by decide +kernel), List.mem_of_getElem? (i := 2516) (by decide +kernel)⟩
theorem lw_p333 : lw_okq (⟨"ArrayHouseModel", "catenate", "(III)I"⟩, 76) := ⟨⟨by decide +kernel, by decide +kernel⟩, List.mem_of_getElem? (i := 1818) (by decide +kernel), List.mem_of_getElem? (i := 2519) (by decide +kernel), List.mem_of_getElem? (i := 2520) (by decide +kernel)⟩
theorem lw_p334 : lw_okq (⟨"ArrayHouseModel", "laminate", "(III)I"⟩, 76) := ⟨⟨by decide +kernel, by decide +kernel⟩, List.mem_of_getElem? (i := 1818) (by decide +kernel), List.mem_of_getElem? (i := 2523) (by decide +kernel), List.mem_of_getElem? (i := 2524) (by decide +kernel)⟩
theorem lw_p335 : lw_okq (⟨"ArrayHouseModel", "product", "(III)I"⟩, 76) := ⟨⟨by decide +kernel, by decide +kernel⟩, List.mem_of_getElem? (i := 1818) (by decide +kernel), List.mem_of_getElem? (i := 2527) (by decide +kernel), List.mem_of_getElem? (i := 2528) (by decide +kernel)⟩
def lw_privs_21 : List (MethodName × Nat) := [(⟨"ArrayHouseModel", "one", "(III)V"⟩, 76), (⟨"ArrayHouseModel", "number", "(JJ)V"⟩, 76), (⟨"ArrayHouseModel", "factorial", "(II)V"⟩, 76), (⟨"ArrayHouseModel", "rolled", "(I)I"⟩, 76), (⟨"ArrayHouseModel", "eachTwo", "(III)I"⟩, 76), (⟨"ArrayHouseModel", "paired", "(II)I"⟩, 76), (⟨"ArrayHouseModel", "two", "(IIIII)V"⟩, 76), (⟨"ArrayHouseModel", "truth", "(Z)V"⟩, 76), (⟨"ArrayHouseModel", "raise", "(III)V"⟩, 76), (⟨"ArrayHouseModel", "choose", "(IIII)V"⟩, 76), (⟨"ArrayHouseModel", "twoWholes", "(IIIII)V"⟩, 76), (⟨"ArrayHouseModel", "dealt", "(II)I"⟩, 76), (⟨"ArrayHouseModel", "ravel", "(I)I"⟩, 76), (⟨"ArrayHouseModel", "catenate", "(III)I"⟩, 76), (⟨"ArrayHouseModel", "laminate", "(III)I"⟩, 76), (⟨"ArrayHouseModel", "product", "(III)I"⟩, 76)]
theorem lw_r21 : ∀ q ∈ lw_privs_21, lw_okq q := List.forall_mem_cons.mpr ⟨lw_p320, List.forall_mem_cons.mpr ⟨lw_p321, List.forall_mem_cons.mpr ⟨lw_p322, List.forall_mem_cons.mpr ⟨lw_p323, List.forall_mem_cons.mpr ⟨lw_p324, List.forall_mem_cons.mpr ⟨lw_p325, List.forall_mem_cons.mpr ⟨lw_p326, List.forall_mem_cons.mpr ⟨lw_p327, List.forall_mem_cons.mpr ⟨lw_p328, List.forall_mem_cons.mpr ⟨lw_p329, List.forall_mem_cons.mpr ⟨lw_p330, List.forall_mem_cons.mpr ⟨lw_p331, List.forall_mem_cons.mpr ⟨lw_p332, List.forall_mem_cons.mpr ⟨lw_p333, List.forall_mem_cons.mpr ⟨lw_p334, List.forall_mem_cons.mpr ⟨lw_p335, fun _ h => absurd h List.not_mem_nil⟩⟩⟩⟩⟩⟩⟩⟩⟩⟩⟩⟩⟩⟩⟩⟩
theorem lw_p336 : lw_okq (⟨"ArrayHouseModel", "joined", "(IIII)I"⟩, 76) := ⟨⟨by decide +kernel, by decide +kernel⟩, List.mem_of_getElem? (i := 1818) (by decide +kernel), List.mem_of_getElem? (i := 2531) (by decide +kernel), List.mem_of_getElem? (i := 2532) (by decide +kernel)⟩
theorem lw_p337 : lw_okq (⟨"ArrayHouseModel", "otherExtent", "(IIII)I"⟩, 76) := ⟨⟨by decide +kernel, by decide +kernel⟩, List.mem_of_getElem? (i := 1818) (by decide +kernel), List.mem_of_getElem? (i := 2535) (by decide +kernel), List.mem_of_getElem? (i := 2536) (by decide +kernel)⟩
theorem lw_p338 : lw_okq (⟨"ArrayHouseModel", "extentsOf", "(I)I"⟩, 76) := ⟨⟨by decide +kernel, by decide +kernel⟩, List.mem_of_getElem? (i := 1818) (by decide +kernel), List.mem_of_getElem? (i := 2539) (by decide +kernel), List.mem_of_getElem? (i := 2540) (by decide +kernel)⟩
theorem lw_p339 : lw_okq (⟨"ArrayHouseModel", "reshaped", "(II)I"⟩, 76) := ⟨⟨by decide +kernel, by decide +kernel⟩, List.mem_of_getElem? (i := 1818) (by decide +kernel), List.mem_of_getElem? (i := 2543) (by decide +kernel), List.mem_of_getElem? (i := 2544) (by decide +kernel)⟩
theorem lw_p340 : lw_okq (⟨"ArrayHouseModel", "isVector", "(I)Z"⟩, 76) := ⟨⟨by decide +kernel, by decide +kernel⟩, List.mem_of_getElem? (i := 1818) (by decide +kernel), List.mem_of_getElem? (i := 2547) (by decide +kernel), List.mem_of_getElem? (i := 2548) (by decide +kernel)⟩
theorem lw_p341 : lw_okq (⟨"ArrayHouseModel", "whole", "(I)I"⟩, 76) := ⟨⟨by decide +kernel, by decide +kernel⟩, List.mem_of_getElem? (i := 1818) (by decide +kernel), List.mem_of_getElem? (i := 2551) (by decide +kernel), List.mem_of_getElem? (i := 2552) (by decide +kernel)⟩
theorem lw_p342 : lw_okq (⟨"ArrayHouseModel", "first", "(I)I"⟩, 76) := ⟨⟨by decide +kernel, by decide +kernel⟩, List.mem_of_getElem? (i := 1818) (by decide +kernel), List.mem_of_getElem? (i := 2555) (by decide +kernel), List.mem_of_getElem? (i := 2556) (by decide +kernel)⟩
theorem lw_p343 : lw_okq (⟨"ArrayHouseModel", "enclosed", "(I)I"⟩, 76) := ⟨⟨by decide +kernel, by decide +kernel⟩, List.mem_of_getElem? (i := 1818) (by decide +kernel), List.mem_of_getElem? (i := 2559) (by decide +kernel), List.mem_of_getElem? (i := 2560) (by decide +kernel)⟩
theorem lw_p344 : lw_okq (⟨"ArrayHouseModel", "mixed", "(I)I"⟩, 76) := ⟨⟨by decide +kernel, by decide +kernel⟩, List.mem_of_getElem? (i := 1818) (by decide +kernel), List.mem_of_getElem? (i := 2563) (by decide +kernel), List.mem_of_getElem? (i := 2564) (by decide +kernel)⟩
theorem lw_p345 : lw_okq (⟨"ArrayHouseModel", "mixedEmpty", "(I)I"⟩, 76) := ⟨⟨by decide +kernel, by decide +kernel⟩, List.mem_of_getElem? (i := 1818) (by decide +kernel), List.mem_of_getElem? (i := 2567) (by decide +kernel), List.mem_of_getElem? (i := 2568) (by decide +kernel)⟩
theorem lw_p346 : lw_okq (⟨"ArrayHouseModel", "rankAt", "(II)I"⟩, 76) := ⟨⟨by decide +kernel, by decide +kernel⟩, List.mem_of_getElem? (i := 1818) (by decide +kernel), List.mem_of_getElem? (i := 2571) (by decide +kernel), List.mem_of_getElem? (i := 2572) (by decide +kernel)⟩
theorem lw_p347 : lw_okq (⟨"ArrayHouseModel", "extentAt", "(IIII)I"⟩, 76) := ⟨⟨by decide +kernel, by decide +kernel⟩, List.mem_of_getElem? (i := 1818) (by decide +kernel), List.mem_of_getElem? (i := 2575) (by decide +kernel), List.mem_of_getElem? (i := 2576) (by decide +kernel)⟩
theorem lw_p348 : lw_okq (⟨"ArrayHouseModel", "laid", "(IIIIII)V"⟩, 76) := ⟨⟨by decide +kernel, by decide +kernel⟩, List.mem_of_getElem? (i := 1818) (by decide +kernel), List.mem_of_getElem? (i := 2580) (by decide +kernel), List.mem_of_getElem? (i := 2581) (by decide +kernel)⟩
theorem lw_p349 : lw_okq (⟨"ArrayHouseModel", "fillFirst", "(I)V"⟩, 76) := ⟨⟨by decide +kernel, by decide +kernel⟩, List.mem_of_getElem? (i := 1818) (by decide +kernel), List.mem_of_getElem? (i := 2584) (by decide +kernel), List.mem_of_getElem? (i := 2585) (by decide +kernel)⟩
theorem lw_p350 : lw_okq (⟨"ArrayHouseModel", "split", "(I)I"⟩, 76) := ⟨⟨by decide +kernel, by decide +kernel⟩, List.mem_of_getElem? (i := 1818) (by decide +kernel), List.mem_of_getElem? (i := 2588) (by decide +kernel), List.mem_of_getElem? (i := 2589) (by decide +kernel)⟩
theorem lw_p351 : lw_okq (⟨"ArrayHouseModel", "enlisted", "(I)I"⟩, 76) := ⟨⟨by decide +kernel, by decide +kernel⟩, List.mem_of_getElem? (i := 1818) (by decide +kernel), List.mem_of_getElem? (i := 2592) (by decide +kernel), List.mem_of_getElem? (i := 2593) (by decide +kernel)⟩
def lw_privs_22 : List (MethodName × Nat) := [(⟨"ArrayHouseModel", "joined", "(IIII)I"⟩, 76), (⟨"ArrayHouseModel", "otherExtent", "(IIII)I"⟩, 76), (⟨"ArrayHouseModel", "extentsOf", "(I)I"⟩, 76), (⟨"ArrayHouseModel", "reshaped", "(II)I"⟩, 76), (⟨"ArrayHouseModel", "isVector", "(I)Z"⟩, 76), (⟨"ArrayHouseModel", "whole", "(I)I"⟩, 76), (⟨"ArrayHouseModel", "first", "(I)I"⟩, 76), (⟨"ArrayHouseModel", "enclosed", "(I)I"⟩, 76), (⟨"ArrayHouseModel", "mixed", "(I)I"⟩, 76), (⟨"ArrayHouseModel", "mixedEmpty", "(I)I"⟩, 76), (⟨"ArrayHouseModel", "rankAt", "(II)I"⟩, 76), (⟨"ArrayHouseModel", "extentAt", "(IIII)I"⟩, 76), (⟨"ArrayHouseModel", "laid", "(IIIIII)V"⟩, 76), (⟨"ArrayHouseModel", "fillFirst", "(I)V"⟩, 76), (⟨"ArrayHouseModel", "split", "(I)I"⟩, 76), (⟨"ArrayHouseModel", "enlisted", "(I)I"⟩, 76)]
theorem lw_r22 : ∀ q ∈ lw_privs_22, lw_okq q := List.forall_mem_cons.mpr ⟨lw_p336, List.forall_mem_cons.mpr ⟨lw_p337, List.forall_mem_cons.mpr ⟨lw_p338, List.forall_mem_cons.mpr ⟨lw_p339, List.forall_mem_cons.mpr ⟨lw_p340, List.forall_mem_cons.mpr ⟨lw_p341, List.forall_mem_cons.mpr ⟨lw_p342, List.forall_mem_cons.mpr ⟨lw_p343, List.forall_mem_cons.mpr ⟨lw_p344, List.forall_mem_cons.mpr ⟨lw_p345, List.forall_mem_cons.mpr ⟨lw_p346, List.forall_mem_cons.mpr ⟨lw_p347, List.forall_mem_cons.mpr ⟨lw_p348, List.forall_mem_cons.mpr ⟨lw_p349, List.forall_mem_cons.mpr ⟨lw_p350, List.forall_mem_cons.mpr ⟨lw_p351, fun _ h => absurd h List.not_mem_nil⟩⟩⟩⟩⟩⟩⟩⟩⟩⟩⟩⟩⟩⟩⟩⟩
theorem lw_p352 : lw_okq (⟨"ArrayHouseModel", "leaves", "(I)I"⟩, 76) := ⟨⟨by decide +kernel, by decide +kernel⟩, List.mem_of_getElem? (i := 1818) (by decide +kernel), List.mem_of_getElem? (i := 2596) (by decide +kernel), List.mem_of_getElem? (i := 2597) (by decide +kernel)⟩
theorem lw_p353 : lw_okq (⟨"ArrayHouseModel", "layLeaves", "(III)I"⟩, 76) := ⟨⟨by decide +kernel, by decide +kernel⟩, List.mem_of_getElem? (i := 1818) (by decide +kernel), List.mem_of_getElem? (i := 2600) (by decide +kernel), List.mem_of_getElem? (i := 2601) (by decide +kernel)⟩
theorem lw_p354 : lw_okq (⟨"ArrayHouseModel", "rotated", "(IIII)I"⟩, 76) := ⟨⟨by decide +kernel, by decide +kernel⟩, List.mem_of_getElem? (i := 1818) (by decide +kernel), List.mem_of_getElem? (i := 2604) (by decide +kernel), List.mem_of_getElem? (i := 2605) (by decide +kernel)⟩
theorem lw_p355 : lw_okq (⟨"ArrayHouseModel", "axisOf", "(II)I"⟩, 76) := ⟨⟨by decide +kernel, by decide +kernel⟩, List.mem_of_getElem? (i := 1818) (by decide +kernel), List.mem_of_getElem? (i := 2608) (by decide +kernel), List.mem_of_getElem? (i := 2609) (by decide +kernel)⟩
theorem lw_p356 : lw_okq (⟨"ArrayHouseModel", "transposed", "(II)I"⟩, 76) := ⟨⟨by decide +kernel, by decide +kernel⟩, List.mem_of_getElem? (i := 1818) (by decide +kernel), List.mem_of_getElem? (i := 2612) (by decide +kernel), List.mem_of_getElem? (i := 2613) (by decide +kernel)⟩
theorem lw_p357 : lw_okq (⟨"ArrayHouseModel", "taken", "(III)I"⟩, 76) := ⟨⟨by decide +kernel, by decide +kernel⟩, List.mem_of_getElem? (i := 1818) (by decide +kernel), List.mem_of_getElem? (i := 2617) (by decide +kernel), List.mem_of_getElem? (i := 2618) (by decide +kernel)⟩
theorem lw_p358 : lw_okq (⟨"ArrayHouseModel", "replicated", "(IIII)I"⟩, 76) := ⟨⟨by decide +kernel, by decide +kernel⟩, List.mem_of_getElem? (i := 1818) (by decide +kernel), List.mem_of_getElem? (i := 2621) (by decide +kernel), List.mem_of_getElem? (i := 2622) (by decide +kernel)⟩
theorem lw_p359 : lw_okq (⟨"ArrayHouseModel", "chosen", "(IIIII)I"⟩, 76) := ⟨⟨by decide +kernel, by decide +kernel⟩, List.mem_of_getElem? (i := 1818) (by decide +kernel), List.mem_of_getElem? (i := 2625) (by decide +kernel), List.mem_of_getElem? (i := 2626) (by decide +kernel)⟩
theorem lw_p360 : lw_okq (⟨"ArrayHouseModel", "unique", "(I)I"⟩, 76) := ⟨⟨by decide +kernel, by decide +kernel⟩, List.mem_of_getElem? (i := 1818) (by decide +kernel), List.mem_of_getElem? (i := 2629) (by decide +kernel), List.mem_of_getElem? (i := 2630) (by decide +kernel)⟩
theorem lw_p361 : lw_okq (⟨"ArrayHouseModel", "isIn", "(IIII)Z"⟩, 76) := ⟨⟨by decide +kernel, by decide +kernel⟩, List.mem_of_getElem? (i := 1818) (by decide +kernel), List.mem_of_getElem? (i := 2633) (by decide +kernel), List.mem_of_getElem? (i := 2634) (by decide +kernel)⟩
theorem lw_p362 : lw_okq (⟨"ArrayHouseModel", "alikeAt", "(IIII)Z"⟩, 76) := ⟨⟨by decide +kernel, by decide +kernel⟩, List.mem_of_getElem? (i := 1818) (by decide +kernel), List.mem_of_getElem? (i := 2637) (by decide +kernel), List.mem_of_getElem? (i := 2638) (by decide +kernel)⟩
theorem lw_p363 : lw_okq (⟨"ArrayHouseModel", "alike", "(IIII)Z"⟩, 76) := ⟨⟨by decide +kernel, by decide +kernel⟩, List.mem_of_getElem? (i := 1818) (by decide +kernel), List.mem_of_getElem? (i := 2641) (by decide +kernel), List.mem_of_getElem? (i := 2642) (by decide +kernel)⟩
theorem lw_p364 : lw_okq (⟨"ArrayHouseModel", "matches", "(II)Z"⟩, 76) := ⟨⟨by decide +kernel, by decide +kernel⟩, List.mem_of_getElem? (i := 1818) (by decide +kernel), List.mem_of_getElem? (i := 2645) (by decide +kernel), List.mem_of_getElem? (i := 2646) (by decide +kernel)⟩
theorem lw_p365 : lw_okq (⟨"ArrayHouseModel", "picked", "(IIIII)I"⟩, 76) := ⟨⟨by decide +kernel, by decide +kernel⟩, List.mem_of_getElem? (i := 1818) (by decide +kernel), List.mem_of_getElem? (i := 2649) (by decide +kernel), List.mem_of_getElem? (i := 2650) (by decide +kernel)⟩
theorem lw_p366 : lw_okq (⟨"ArrayHouseModel", "graded", "(II)I"⟩, 76) := ⟨⟨by decide +kernel, by decide +kernel⟩, List.mem_of_getElem? (i := 1818) (by decide +kernel), List.mem_of_getElem? (i := 2653) (by decide +kernel), List.mem_of_getElem? (i := 2654) (by decide +kernel)⟩
theorem lw_p367 : lw_okq (⟨"ArrayHouseModel", "orderRows", "(IIII)I"⟩, 76) := ⟨⟨by decide +kernel, by decide +kernel⟩, List.mem_of_getElem? (i := 1818) (by decide +kernel), List.mem_of_getElem? (i := 2657) (by decide +kernel), List.mem_of_getElem? (i := 2658) (by decide +kernel)⟩
def lw_privs_23 : List (MethodName × Nat) := [(⟨"ArrayHouseModel", "leaves", "(I)I"⟩, 76), (⟨"ArrayHouseModel", "layLeaves", "(III)I"⟩, 76), (⟨"ArrayHouseModel", "rotated", "(IIII)I"⟩, 76), (⟨"ArrayHouseModel", "axisOf", "(II)I"⟩, 76), (⟨"ArrayHouseModel", "transposed", "(II)I"⟩, 76), (⟨"ArrayHouseModel", "taken", "(III)I"⟩, 76), (⟨"ArrayHouseModel", "replicated", "(IIII)I"⟩, 76), (⟨"ArrayHouseModel", "chosen", "(IIIII)I"⟩, 76), (⟨"ArrayHouseModel", "unique", "(I)I"⟩, 76), (⟨"ArrayHouseModel", "isIn", "(IIII)Z"⟩, 76), (⟨"ArrayHouseModel", "alikeAt", "(IIII)Z"⟩, 76), (⟨"ArrayHouseModel", "alike", "(IIII)Z"⟩, 76), (⟨"ArrayHouseModel", "matches", "(II)Z"⟩, 76), (⟨"ArrayHouseModel", "picked", "(IIIII)I"⟩, 76), (⟨"ArrayHouseModel", "graded", "(II)I"⟩, 76), (⟨"ArrayHouseModel", "orderRows", "(IIII)I"⟩, 76)]
theorem lw_r23 : ∀ q ∈ lw_privs_23, lw_okq q := List.forall_mem_cons.mpr ⟨lw_p352, List.forall_mem_cons.mpr ⟨lw_p353, List.forall_mem_cons.mpr ⟨lw_p354, List.forall_mem_cons.mpr ⟨lw_p355, List.forall_mem_cons.mpr ⟨lw_p356, List.forall_mem_cons.mpr ⟨lw_p357, List.forall_mem_cons.mpr ⟨lw_p358, List.forall_mem_cons.mpr ⟨lw_p359, List.forall_mem_cons.mpr ⟨lw_p360, List.forall_mem_cons.mpr ⟨lw_p361, List.forall_mem_cons.mpr ⟨lw_p362, List.forall_mem_cons.mpr ⟨lw_p363, List.forall_mem_cons.mpr ⟨lw_p364, List.forall_mem_cons.mpr ⟨lw_p365, List.forall_mem_cons.mpr ⟨lw_p366, List.forall_mem_cons.mpr ⟨lw_p367, fun _ h => absurd h List.not_mem_nil⟩⟩⟩⟩⟩⟩⟩⟩⟩⟩⟩⟩⟩⟩⟩⟩
theorem lw_p368 : lw_okq (⟨"ArrayHouseModel", "order", "(IIII)I"⟩, 76) := ⟨⟨by decide +kernel, by decide +kernel⟩, List.mem_of_getElem? (i := 1818) (by decide +kernel), List.mem_of_getElem? (i := 2661) (by decide +kernel), List.mem_of_getElem? (i := 2662) (by decide +kernel)⟩
theorem lw_p369 : lw_okq (⟨"ArrayHouseModel", "places", "(I)I"⟩, 76) := ⟨⟨by decide +kernel, by decide +kernel⟩, List.mem_of_getElem? (i := 1818) (by decide +kernel), List.mem_of_getElem? (i := 2665) (by decide +kernel), List.mem_of_getElem? (i := 2666) (by decide +kernel)⟩
theorem lw_p370 : lw_okq (⟨"ArrayHouseModel", "placeOf", "(II)I"⟩, 76) := ⟨⟨by decide +kernel, by decide +kernel⟩, List.mem_of_getElem? (i := 1818) (by decide +kernel), List.mem_of_getElem? (i := 2669) (by decide +kernel), List.mem_of_getElem? (i := 2670) (by decide +kernel)⟩
theorem lw_p371 : lw_okq (⟨"ArrayHouseModel", "zeros", "(I)I"⟩, 76) := ⟨⟨by decide +kernel, by decide +kernel⟩, List.mem_of_getElem? (i := 1818) (by decide +kernel), List.mem_of_getElem? (i := 2673) (by decide +kernel), List.mem_of_getElem? (i := 2674) (by decide +kernel)⟩
theorem lw_p372 : lw_okq (⟨"ArrayHouseModel", "placesIn", "(II)I"⟩, 76) := ⟨⟨by decide +kernel, by decide +kernel⟩, List.mem_of_getElem? (i := 1818) (by decide +kernel), List.mem_of_getElem? (i := 2677) (by decide +kernel), List.mem_of_getElem? (i := 2678) (by decide +kernel)⟩
theorem lw_p373 : lw_okq (⟨"ArrayHouseModel", "where", "(I)I"⟩, 76) := ⟨⟨by decide +kernel, by decide +kernel⟩, List.mem_of_getElem? (i := 1818) (by decide +kernel), List.mem_of_getElem? (i := 2681) (by decide +kernel), List.mem_of_getElem? (i := 2682) (by decide +kernel)⟩
theorem lw_p374 : lw_okq (⟨"ArrayHouseModel", "members", "(II)I"⟩, 76) := ⟨⟨by decide +kernel, by decide +kernel⟩, List.mem_of_getElem? (i := 1818) (by decide +kernel), List.mem_of_getElem? (i := 2685) (by decide +kernel), List.mem_of_getElem? (i := 2686) (by decide +kernel)⟩
theorem lw_p375 : lw_okq (⟨"ArrayHouseModel", "found", "(II)I"⟩, 76) := ⟨⟨by decide +kernel, by decide +kernel⟩, List.mem_of_getElem? (i := 1818) (by decide +kernel), List.mem_of_getElem? (i := 2689) (by decide +kernel), List.mem_of_getElem? (i := 2690) (by decide +kernel)⟩
theorem lw_p376 : lw_okq (⟨"ArrayHouseModel", "stands", "(III)Z"⟩, 76) := ⟨⟨by decide +kernel, by decide +kernel⟩, List.mem_of_getElem? (i := 1818) (by decide +kernel), List.mem_of_getElem? (i := 2693) (by decide +kernel), List.mem_of_getElem? (i := 2694) (by decide +kernel)⟩
theorem lw_p377 : lw_okq (⟨"ArrayHouseModel", "pickedBy", "(II)I"⟩, 76) := ⟨⟨by decide +kernel, by decide +kernel⟩, List.mem_of_getElem? (i := 1818) (by decide +kernel), List.mem_of_getElem? (i := 2697) (by decide +kernel), List.mem_of_getElem? (i := 2698) (by decide +kernel)⟩
theorem lw_p378 : lw_okq (⟨"ArrayHouseModel", "sets", "(III)I"⟩, 76) := ⟨⟨by decide +kernel, by decide +kernel⟩, List.mem_of_getElem? (i := 1818) (by decide +kernel), List.mem_of_getElem? (i := 2701) (by decide +kernel), List.mem_of_getElem? (i := 2702) (by decide +kernel)⟩
theorem lw_p379 : lw_okq (⟨"ArrayHouseModel", "parted", "(III)I"⟩, 76) := ⟨⟨by decide +kernel, by decide +kernel⟩, List.mem_of_getElem? (i := 1818) (by decide +kernel), List.mem_of_getElem? (i := 2705) (by decide +kernel), List.mem_of_getElem? (i := 2706) (by decide +kernel)⟩
theorem lw_p380 : lw_okq (⟨"ArrayHouseModel", "encoded", "(II)I"⟩, 76) := ⟨⟨by decide +kernel, by decide +kernel⟩, List.mem_of_getElem? (i := 1818) (by decide +kernel), List.mem_of_getElem? (i := 2709) (by decide +kernel), List.mem_of_getElem? (i := 2710) (by decide +kernel)⟩
theorem lw_p381 : lw_okq (⟨"ArrayHouseModel", "areNumbers", "(I)Z"⟩, 76) := ⟨⟨by decide +kernel, by decide +kernel⟩, List.mem_of_getElem? (i := 1818) (by decide +kernel), List.mem_of_getElem? (i := 2713) (by decide +kernel), List.mem_of_getElem? (i := 2714) (by decide +kernel)⟩
theorem lw_p382 : lw_okq (⟨"ArrayHouseModel", "decoded", "(II)I"⟩, 76) := ⟨⟨by decide +kernel, by decide +kernel⟩, List.mem_of_getElem? (i := 1818) (by decide +kernel), List.mem_of_getElem? (i := 2720) (by decide +kernel), List.mem_of_getElem? (i := 2721) (by decide +kernel)⟩
theorem lw_p383 : lw_okq (⟨"ArrayHouseModel", "formatted", "(I)I"⟩, 76) := ⟨⟨by decide +kernel, by decide +kernel⟩, List.mem_of_getElem? (i := 1818) (by decide +kernel), List.mem_of_getElem? (i := 2724) (by decide +kernel), List.mem_of_getElem? (i := 2725) (by decide +kernel)⟩
def lw_privs_24 : List (MethodName × Nat) := [(⟨"ArrayHouseModel", "order", "(IIII)I"⟩, 76), (⟨"ArrayHouseModel", "places", "(I)I"⟩, 76), (⟨"ArrayHouseModel", "placeOf", "(II)I"⟩, 76), (⟨"ArrayHouseModel", "zeros", "(I)I"⟩, 76), (⟨"ArrayHouseModel", "placesIn", "(II)I"⟩, 76), (⟨"ArrayHouseModel", "where", "(I)I"⟩, 76), (⟨"ArrayHouseModel", "members", "(II)I"⟩, 76), (⟨"ArrayHouseModel", "found", "(II)I"⟩, 76), (⟨"ArrayHouseModel", "stands", "(III)Z"⟩, 76), (⟨"ArrayHouseModel", "pickedBy", "(II)I"⟩, 76), (⟨"ArrayHouseModel", "sets", "(III)I"⟩, 76), (⟨"ArrayHouseModel", "parted", "(III)I"⟩, 76), (⟨"ArrayHouseModel", "encoded", "(II)I"⟩, 76), (⟨"ArrayHouseModel", "areNumbers", "(I)Z"⟩, 76), (⟨"ArrayHouseModel", "decoded", "(II)I"⟩, 76), (⟨"ArrayHouseModel", "formatted", "(I)I"⟩, 76)]
theorem lw_r24 : ∀ q ∈ lw_privs_24, lw_okq q := List.forall_mem_cons.mpr ⟨lw_p368, List.forall_mem_cons.mpr ⟨lw_p369, List.forall_mem_cons.mpr ⟨lw_p370, List.forall_mem_cons.mpr ⟨lw_p371, List.forall_mem_cons.mpr ⟨lw_p372, List.forall_mem_cons.mpr ⟨lw_p373, List.forall_mem_cons.mpr ⟨lw_p374, List.forall_mem_cons.mpr ⟨lw_p375, List.forall_mem_cons.mpr ⟨lw_p376, List.forall_mem_cons.mpr ⟨lw_p377, List.forall_mem_cons.mpr ⟨lw_p378, List.forall_mem_cons.mpr ⟨lw_p379, List.forall_mem_cons.mpr ⟨lw_p380, List.forall_mem_cons.mpr ⟨lw_p381, List.forall_mem_cons.mpr ⟨lw_p382, List.forall_mem_cons.mpr ⟨lw_p383, fun _ h => absurd h List.not_mem_nil⟩⟩⟩⟩⟩⟩⟩⟩⟩⟩⟩⟩⟩⟩⟩⟩
theorem lw_p384 : lw_okq (⟨"ArrayHouseModel", "tell", "(I)V"⟩, 76) := ⟨⟨by decide +kernel, by decide +kernel⟩, List.mem_of_getElem? (i := 1818) (by decide +kernel), List.mem_of_getElem? (i := 2728) (by decide +kernel), List.mem_of_getElem? (i := 2729) (by decide +kernel)⟩
theorem lw_p385 : lw_okq (⟨"ArrayHouseModel", "putItem", "(II)V"⟩, 76) := ⟨⟨by decide +kernel, by decide +kernel⟩, List.mem_of_getElem? (i := 1818) (by decide +kernel), List.mem_of_getElem? (i := 2732) (by decide +kernel), List.mem_of_getElem? (i := 2733) (by decide +kernel)⟩
theorem lw_p386 : lw_okq (⟨"ArrayHouseModel", "put", "(I)V"⟩, 76) := ⟨⟨by decide +kernel, by decide +kernel⟩, List.mem_of_getElem? (i := 1818) (by decide +kernel), List.mem_of_getElem? (i := 2736) (by decide +kernel), List.mem_of_getElem? (i := 2737) (by decide +kernel)⟩
theorem lw_p387 : lw_okq (⟨"ArrayHouseModel", "putWhole", "(I)V"⟩, 76) := ⟨⟨by decide +kernel, by decide +kernel⟩, List.mem_of_getElem? (i := 1818) (by decide +kernel), List.mem_of_getElem? (i := 2740) (by decide +kernel), List.mem_of_getElem? (i := 2741) (by decide +kernel)⟩
theorem lw_p388 : lw_okq (⟨"ArrayHouseModel", "execute", "(I)I"⟩, 76) := ⟨⟨by decide +kernel, by decide +kernel⟩, List.mem_of_getElem? (i := 1818) (by decide +kernel), List.mem_of_getElem? (i := 2744) (by decide +kernel), List.mem_of_getElem? (i := 2745) (by decide +kernel)⟩
theorem lw_p389 : lw_okq (⟨"ArrayHouseModel", "call", "(III)I"⟩, 76) := ⟨⟨by decide +kernel, by decide +kernel⟩, List.mem_of_getElem? (i := 1818) (by decide +kernel), List.mem_of_getElem? (i := 2748) (by decide +kernel), List.mem_of_getElem? (i := 2749) (by decide +kernel)⟩
theorem lw_p390 : lw_okq (⟨"ArrayHouseModel", "body", "(II)I"⟩, 76) := ⟨⟨by decide +kernel, by decide +kernel⟩, List.mem_of_getElem? (i := 1818) (by decide +kernel), List.mem_of_getElem? (i := 2752) (by decide +kernel), List.mem_of_getElem? (i := 2753) (by decide +kernel)⟩
theorem lw_p391 : lw_okq (⟨"ArrayHouseModel", "statement", "(IIII)I"⟩, 76) := ⟨⟨by decide +kernel, by decide +kernel⟩, List.mem_of_getElem? (i := 1818) (by decide +kernel), List.mem_of_getElem? (i := 2756) (by decide +kernel), List.mem_of_getElem? (i := 2757) (by decide +kernel)⟩
theorem lw_p392 : lw_okq (⟨"ArrayHouseModel", "guardOf", "(I)I"⟩, 76) := ⟨⟨by decide +kernel, by decide +kernel⟩, List.mem_of_getElem? (i := 1818) (by decide +kernel), List.mem_of_getElem? (i := 2760) (by decide +kernel), List.mem_of_getElem? (i := 2761) (by decide +kernel)⟩
theorem lw_p393 : lw_okq (⟨"ArrayHouseModel", "unframe", "(I)V"⟩, 76) := ⟨⟨by decide +kernel, by decide +kernel⟩, List.mem_of_getElem? (i := 1818) (by decide +kernel), List.mem_of_getElem? (i := 2764) (by decide +kernel), List.mem_of_getElem? (i := 2765) (by decide +kernel)⟩
theorem lw_p394 : lw_okq (⟨"ArrayHouseModel", "derived", "(III)I"⟩, 76) := ⟨⟨by decide +kernel, by decide +kernel⟩, List.mem_of_getElem? (i := 1818) (by decide +kernel), List.mem_of_getElem? (i := 2768) (by decide +kernel), List.mem_of_getElem? (i := 2769) (by decide +kernel)⟩
theorem lw_p395 : lw_okq (⟨"ArrayHouseModel", "reduced", "(III)I"⟩, 76) := ⟨⟨by decide +kernel, by decide +kernel⟩, List.mem_of_getElem? (i := 1818) (by decide +kernel), List.mem_of_getElem? (i := 2772) (by decide +kernel), List.mem_of_getElem? (i := 2773) (by decide +kernel)⟩
theorem lw_p396 : lw_okq (⟨"ArrayHouseModel", "begins", "(III)Z"⟩, 76) := ⟨⟨by decide +kernel, by decide +kernel⟩, List.mem_of_getElem? (i := 1818) (by decide +kernel), List.mem_of_getElem? (i := 2776) (by decide +kernel), List.mem_of_getElem? (i := 2777) (by decide +kernel)⟩
theorem lw_p397 : lw_okq (⟨"ArrayHouseModel", "neutral", "(I)V"⟩, 76) := ⟨⟨by decide +kernel, by decide +kernel⟩, List.mem_of_getElem? (i := 1818) (by decide +kernel), List.mem_of_getElem? (i := 2780) (by decide +kernel), List.mem_of_getElem? (i := 2781) (by decide +kernel)⟩
theorem lw_p398 : lw_okq (⟨"ArrayHouseModel", "folded", "(IIIII)V"⟩, 76) := ⟨⟨by decide +kernel, by decide +kernel⟩, List.mem_of_getElem? (i := 1818) (by decide +kernel), List.mem_of_getElem? (i := 2784) (by decide +kernel), List.mem_of_getElem? (i := 2785) (by decide +kernel)⟩
theorem lw_p399 : lw_okq (⟨"ArrayHouseModel", "windows", "(IIII)I"⟩, 76) := ⟨⟨by decide +kernel, by decide +kernel⟩, List.mem_of_getElem? (i := 1818) (by decide +kernel), List.mem_of_getElem? (i := 2788) (by decide +kernel), List.mem_of_getElem? (i := 2789) (by decide +kernel)⟩
def lw_privs_25 : List (MethodName × Nat) := [(⟨"ArrayHouseModel", "tell", "(I)V"⟩, 76), (⟨"ArrayHouseModel", "putItem", "(II)V"⟩, 76), (⟨"ArrayHouseModel", "put", "(I)V"⟩, 76), (⟨"ArrayHouseModel", "putWhole", "(I)V"⟩, 76), (⟨"ArrayHouseModel", "execute", "(I)I"⟩, 76), (⟨"ArrayHouseModel", "call", "(III)I"⟩, 76), (⟨"ArrayHouseModel", "body", "(II)I"⟩, 76), (⟨"ArrayHouseModel", "statement", "(IIII)I"⟩, 76), (⟨"ArrayHouseModel", "guardOf", "(I)I"⟩, 76), (⟨"ArrayHouseModel", "unframe", "(I)V"⟩, 76), (⟨"ArrayHouseModel", "derived", "(III)I"⟩, 76), (⟨"ArrayHouseModel", "reduced", "(III)I"⟩, 76), (⟨"ArrayHouseModel", "begins", "(III)Z"⟩, 76), (⟨"ArrayHouseModel", "neutral", "(I)V"⟩, 76), (⟨"ArrayHouseModel", "folded", "(IIIII)V"⟩, 76), (⟨"ArrayHouseModel", "windows", "(IIII)I"⟩, 76)]
theorem lw_r25 : ∀ q ∈ lw_privs_25, lw_okq q := List.forall_mem_cons.mpr ⟨lw_p384, List.forall_mem_cons.mpr ⟨lw_p385, List.forall_mem_cons.mpr ⟨lw_p386, List.forall_mem_cons.mpr ⟨lw_p387, List.forall_mem_cons.mpr ⟨lw_p388, List.forall_mem_cons.mpr ⟨lw_p389, List.forall_mem_cons.mpr ⟨lw_p390, List.forall_mem_cons.mpr ⟨lw_p391, List.forall_mem_cons.mpr ⟨lw_p392, List.forall_mem_cons.mpr ⟨lw_p393, List.forall_mem_cons.mpr ⟨lw_p394, List.forall_mem_cons.mpr ⟨lw_p395, List.forall_mem_cons.mpr ⟨lw_p396, List.forall_mem_cons.mpr ⟨lw_p397, List.forall_mem_cons.mpr ⟨lw_p398, List.forall_mem_cons.mpr ⟨lw_p399, fun _ h => absurd h List.not_mem_nil⟩⟩⟩⟩⟩⟩⟩⟩⟩⟩⟩⟩⟩⟩⟩⟩
theorem lw_p400 : lw_okq (⟨"ArrayHouseModel", "scanned", "(III)I"⟩, 76) := ⟨⟨by decide +kernel, by decide +kernel⟩, List.mem_of_getElem? (i := 1818) (by decide +kernel), List.mem_of_getElem? (i := 2792) (by decide +kernel), List.mem_of_getElem? (i := 2793) (by decide +kernel)⟩
theorem lw_p401 : lw_okq (⟨"ArrayHouseModel", "eachOf", "(II)I"⟩, 76) := ⟨⟨by decide +kernel, by decide +kernel⟩, List.mem_of_getElem? (i := 1818) (by decide +kernel), List.mem_of_getElem? (i := 2796) (by decide +kernel), List.mem_of_getElem? (i := 2797) (by decide +kernel)⟩
theorem lw_p402 : lw_okq (⟨"ArrayHouseModel", "eachOfTwo", "(III)I"⟩, 76) := ⟨⟨by decide +kernel, by decide +kernel⟩, List.mem_of_getElem? (i := 1818) (by decide +kernel), List.mem_of_getElem? (i := 2800) (by decide +kernel), List.mem_of_getElem? (i := 2801) (by decide +kernel)⟩
theorem lw_p403 : lw_okq (⟨"ArrayHouseModel", "pairedItem", "(IIIIIII)V"⟩, 76) := ⟨⟨by decide +kernel, by decide +kernel⟩, List.mem_of_getElem? (i := 1818) (by decide +kernel), List.mem_of_getElem? (i := 2804) (by decide +kernel), List.mem_of_getElem? (i := 2805) (by decide +kernel)⟩
theorem lw_p404 : lw_okq (⟨"ArrayHouseModel", "outer", "(III)I"⟩, 76) := ⟨⟨by decide +kernel, by decide +kernel⟩, List.mem_of_getElem? (i := 1818) (by decide +kernel), List.mem_of_getElem? (i := 2808) (by decide +kernel), List.mem_of_getElem? (i := 2809) (by decide +kernel)⟩
theorem lw_p405 : lw_okq (⟨"ArrayHouseModel", "keyed", "(III)I"⟩, 76) := ⟨⟨by decide +kernel, by decide +kernel⟩, List.mem_of_getElem? (i := 1818) (by decide +kernel), List.mem_of_getElem? (i := 2812) (by decide +kernel), List.mem_of_getElem? (i := 2813) (by decide +kernel)⟩
theorem lw_p406 : lw_okq (⟨"ArrayHouseModel", "alikeTo", "(III)I"⟩, 76) := ⟨⟨by decide +kernel, by decide +kernel⟩, List.mem_of_getElem? (i := 1818) (by decide +kernel), List.mem_of_getElem? (i := 2816) (by decide +kernel), List.mem_of_getElem? (i := 2817) (by decide +kernel)⟩
theorem lw_p407 : lw_okq (⟨"ArrayHouseModel", "inner", "(IIII)I"⟩, 76) := ⟨⟨by decide +kernel, by decide +kernel⟩, List.mem_of_getElem? (i := 1818) (by decide +kernel), List.mem_of_getElem? (i := 2820) (by decide +kernel), List.mem_of_getElem? (i := 2821) (by decide +kernel)⟩
theorem lw_p408 : lw_okq (⟨"ArrayHouseModel", "together", "(III)V"⟩, 76) := ⟨⟨by decide +kernel, by decide +kernel⟩, List.mem_of_getElem? (i := 1818) (by decide +kernel), List.mem_of_getElem? (i := 2824) (by decide +kernel), List.mem_of_getElem? (i := 2825) (by decide +kernel)⟩
theorem lw_p409 : lw_okq (⟨"ArrayHouseModel", "rankedOne", "(III)I"⟩, 76) := ⟨⟨by decide +kernel, by decide +kernel⟩, List.mem_of_getElem? (i := 1818) (by decide +kernel), List.mem_of_getElem? (i := 2828) (by decide +kernel), List.mem_of_getElem? (i := 2829) (by decide +kernel)⟩
theorem lw_p410 : lw_okq (⟨"ArrayHouseModel", "isRanks", "(II)Z"⟩, 76) := ⟨⟨by decide +kernel, by decide +kernel⟩, List.mem_of_getElem? (i := 1818) (by decide +kernel), List.mem_of_getElem? (i := 2832) (by decide +kernel), List.mem_of_getElem? (i := 2833) (by decide +kernel)⟩
theorem lw_p411 : lw_okq (⟨"ArrayHouseModel", "frameOf", "(II)V"⟩, 76) := ⟨⟨by decide +kernel, by decide +kernel⟩, List.mem_of_getElem? (i := 1818) (by decide +kernel), List.mem_of_getElem? (i := 2840) (by decide +kernel), List.mem_of_getElem? (i := 2841) (by decide +kernel)⟩
theorem lw_p412 : lw_okq (⟨"ArrayHouseModel", "cell", "(III)I"⟩, 76) := ⟨⟨by decide +kernel, by decide +kernel⟩, List.mem_of_getElem? (i := 1818) (by decide +kernel), List.mem_of_getElem? (i := 2844) (by decide +kernel), List.mem_of_getElem? (i := 2845) (by decide +kernel)⟩
theorem lw_p413 : lw_okq (⟨"ArrayHouseModel", "rankedTwo", "(IIII)I"⟩, 76) := ⟨⟨by decide +kernel, by decide +kernel⟩, List.mem_of_getElem? (i := 1818) (by decide +kernel), List.mem_of_getElem? (i := 2848) (by decide +kernel), List.mem_of_getElem? (i := 2849) (by decide +kernel)⟩
theorem lw_p414 : lw_okq (⟨"ArrayHouseModel", "again", "(IIII)I"⟩, 76) := ⟨⟨by decide +kernel, by decide +kernel⟩, List.mem_of_getElem? (i := 1818) (by decide +kernel), List.mem_of_getElem? (i := 2852) (by decide +kernel), List.mem_of_getElem? (i := 2853) (by decide +kernel)⟩
theorem lw_p415 : lw_okq (⟨"ArrayHouseModel", "getsAt", "(III)V"⟩, 76) := ⟨⟨by decide +kernel, by decide +kernel⟩, List.mem_of_getElem? (i := 1818) (by decide +kernel), List.mem_of_getElem? (i := 2856) (by decide +kernel), List.mem_of_getElem? (i := 2857) (by decide +kernel)⟩
def lw_privs_26 : List (MethodName × Nat) := [(⟨"ArrayHouseModel", "scanned", "(III)I"⟩, 76), (⟨"ArrayHouseModel", "eachOf", "(II)I"⟩, 76), (⟨"ArrayHouseModel", "eachOfTwo", "(III)I"⟩, 76), (⟨"ArrayHouseModel", "pairedItem", "(IIIIIII)V"⟩, 76), (⟨"ArrayHouseModel", "outer", "(III)I"⟩, 76), (⟨"ArrayHouseModel", "keyed", "(III)I"⟩, 76), (⟨"ArrayHouseModel", "alikeTo", "(III)I"⟩, 76), (⟨"ArrayHouseModel", "inner", "(IIII)I"⟩, 76), (⟨"ArrayHouseModel", "together", "(III)V"⟩, 76), (⟨"ArrayHouseModel", "rankedOne", "(III)I"⟩, 76), (⟨"ArrayHouseModel", "isRanks", "(II)Z"⟩, 76), (⟨"ArrayHouseModel", "frameOf", "(II)V"⟩, 76), (⟨"ArrayHouseModel", "cell", "(III)I"⟩, 76), (⟨"ArrayHouseModel", "rankedTwo", "(IIII)I"⟩, 76), (⟨"ArrayHouseModel", "again", "(IIII)I"⟩, 76), (⟨"ArrayHouseModel", "getsAt", "(III)V"⟩, 76)]
theorem lw_r26 : ∀ q ∈ lw_privs_26, lw_okq q := List.forall_mem_cons.mpr ⟨lw_p400, List.forall_mem_cons.mpr ⟨lw_p401, List.forall_mem_cons.mpr ⟨lw_p402, List.forall_mem_cons.mpr ⟨lw_p403, List.forall_mem_cons.mpr ⟨lw_p404, List.forall_mem_cons.mpr ⟨lw_p405, List.forall_mem_cons.mpr ⟨lw_p406, List.forall_mem_cons.mpr ⟨lw_p407, List.forall_mem_cons.mpr ⟨lw_p408, List.forall_mem_cons.mpr ⟨lw_p409, List.forall_mem_cons.mpr ⟨lw_p410, List.forall_mem_cons.mpr ⟨lw_p411, List.forall_mem_cons.mpr ⟨lw_p412, List.forall_mem_cons.mpr ⟨lw_p413, List.forall_mem_cons.mpr ⟨lw_p414, List.forall_mem_cons.mpr ⟨lw_p415, fun _ h => absurd h List.not_mem_nil⟩⟩⟩⟩⟩⟩⟩⟩⟩⟩⟩⟩⟩⟩⟩⟩
theorem lw_p416 : lw_okq (⟨"ArrayHouseModel", "settle", "()V"⟩, 76) := ⟨⟨by decide +kernel, by decide +kernel⟩, List.mem_of_getElem? (i := 1818) (by decide +kernel), List.mem_of_getElem? (i := 2860) (by decide +kernel), List.mem_of_getElem? (i := 2861) (by decide +kernel)⟩
theorem lw_p417 : lw_okq (⟨"ArrayHouseModel", "keep", "(I)I"⟩, 76) := ⟨⟨by decide +kernel, by decide +kernel⟩, List.mem_of_getElem? (i := 1818) (by decide +kernel), List.mem_of_getElem? (i := 2864) (by decide +kernel), List.mem_of_getElem? (i := 2865) (by decide +kernel)⟩
theorem lw_p418 : lw_okq (⟨"ArrayHouseModel", "taken", "()I"⟩, 76) := ⟨⟨by decide +kernel, by decide +kernel⟩, List.mem_of_getElem? (i := 1818) (by decide +kernel), List.mem_of_getElem? (i := 2888) (by decide +kernel), List.mem_of_getElem? (i := 2889) (by decide +kernel)⟩
theorem lw_p419 : lw_okq (⟨"ArrayHouseModel", "seen", "()I"⟩, 76) := ⟨⟨by decide +kernel, by decide +kernel⟩, List.mem_of_getElem? (i := 1818) (by decide +kernel), List.mem_of_getElem? (i := 2896) (by decide +kernel), List.mem_of_getElem? (i := 2897) (by decide +kernel)⟩
theorem lw_p420 : lw_okq (⟨"ArrayHouseModel", "lane", "(I)I"⟩, 76) := ⟨⟨by decide +kernel, by decide +kernel⟩, List.mem_of_getElem? (i := 1818) (by decide +kernel), List.mem_of_getElem? (i := 2908) (by decide +kernel), List.mem_of_getElem? (i := 2909) (by decide +kernel)⟩
theorem lw_p421 : lw_okq (⟨"ArrayHouseModel", "viewed", "(I)Z"⟩, 76) := ⟨⟨by decide +kernel, by decide +kernel⟩, List.mem_of_getElem? (i := 1818) (by decide +kernel), List.mem_of_getElem? (i := 2921) (by decide +kernel), List.mem_of_getElem? (i := 2922) (by decide +kernel)⟩
def lw_privs_27 : List (MethodName × Nat) := [(⟨"ArrayHouseModel", "settle", "()V"⟩, 76), (⟨"ArrayHouseModel", "keep", "(I)I"⟩, 76), (⟨"ArrayHouseModel", "taken", "()I"⟩, 76), (⟨"ArrayHouseModel", "seen", "()I"⟩, 76), (⟨"ArrayHouseModel", "lane", "(I)I"⟩, 76), (⟨"ArrayHouseModel", "viewed", "(I)Z"⟩, 76)]
theorem lw_r27 : ∀ q ∈ lw_privs_27, lw_okq q := List.forall_mem_cons.mpr ⟨lw_p416, List.forall_mem_cons.mpr ⟨lw_p417, List.forall_mem_cons.mpr ⟨lw_p418, List.forall_mem_cons.mpr ⟨lw_p419, List.forall_mem_cons.mpr ⟨lw_p420, List.forall_mem_cons.mpr ⟨lw_p421, fun _ h => absurd h List.not_mem_nil⟩⟩⟩⟩⟩⟩
def lw_privs : List (MethodName × Nat) := lw_privs_1 ++ (lw_privs_2 ++ (lw_privs_3 ++ (lw_privs_4 ++ (lw_privs_5 ++ (lw_privs_6 ++ (lw_privs_7 ++ (lw_privs_8 ++ (lw_privs_9 ++ (lw_privs_10 ++ (lw_privs_11 ++ (lw_privs_12 ++ (lw_privs_13 ++ (lw_privs_14 ++ (lw_privs_15 ++ (lw_privs_16 ++ (lw_privs_17 ++ (lw_privs_18 ++ (lw_privs_19 ++ (lw_privs_20 ++ (lw_privs_21 ++ (lw_privs_22 ++ (lw_privs_23 ++ (lw_privs_24 ++ (lw_privs_25 ++ (lw_privs_26 ++ (lw_privs_27))))))))))))))))))))))))))
def lw_tbl : List Cond := k2_sels lw_privs ++ tables_1
theorem lw_privs_ok : ∀ q ∈ lw_privs, lw_okq q := by
  show ∀ q ∈ lw_privs_1 ++ (lw_privs_2 ++ (lw_privs_3 ++ (lw_privs_4 ++ (lw_privs_5 ++ (lw_privs_6 ++ (lw_privs_7 ++ (lw_privs_8 ++ (lw_privs_9 ++ (lw_privs_10 ++ (lw_privs_11 ++ (lw_privs_12 ++ (lw_privs_13 ++ (lw_privs_14 ++ (lw_privs_15 ++ (lw_privs_16 ++ (lw_privs_17 ++ (lw_privs_18 ++ (lw_privs_19 ++ (lw_privs_20 ++ (lw_privs_21 ++ (lw_privs_22 ++ (lw_privs_23 ++ (lw_privs_24 ++ (lw_privs_25 ++ (lw_privs_26 ++ (lw_privs_27)))))))))))))))))))))))))), lw_okq q
  exact List.forall_mem_append.mpr ⟨lw_r1, List.forall_mem_append.mpr ⟨lw_r2, List.forall_mem_append.mpr ⟨lw_r3, List.forall_mem_append.mpr ⟨lw_r4, List.forall_mem_append.mpr ⟨lw_r5, List.forall_mem_append.mpr ⟨lw_r6, List.forall_mem_append.mpr ⟨lw_r7, List.forall_mem_append.mpr ⟨lw_r8, List.forall_mem_append.mpr ⟨lw_r9, List.forall_mem_append.mpr ⟨lw_r10, List.forall_mem_append.mpr ⟨lw_r11, List.forall_mem_append.mpr ⟨lw_r12, List.forall_mem_append.mpr ⟨lw_r13, List.forall_mem_append.mpr ⟨lw_r14, List.forall_mem_append.mpr ⟨lw_r15, List.forall_mem_append.mpr ⟨lw_r16, List.forall_mem_append.mpr ⟨lw_r17, List.forall_mem_append.mpr ⟨lw_r18, List.forall_mem_append.mpr ⟨lw_r19, List.forall_mem_append.mpr ⟨lw_r20, List.forall_mem_append.mpr ⟨lw_r21, List.forall_mem_append.mpr ⟨lw_r22, List.forall_mem_append.mpr ⟨lw_r23, List.forall_mem_append.mpr ⟨lw_r24, List.forall_mem_append.mpr ⟨lw_r25, List.forall_mem_append.mpr ⟨lw_r26, lw_r27⟩⟩⟩⟩⟩⟩⟩⟩⟩⟩⟩⟩⟩⟩⟩⟩⟩⟩⟩⟩⟩⟩⟩⟩⟩⟩
end
section
def RX0 : String := "ArrayHouse$Finds"
def TX0 : u_T := fun k => match k with
  | 0 => ("ArrayHouse$Finds", "state", "LArrayHouse$State;", true)
  | 1 => ("ArrayHouse$Finds", "heap", "LArrayHouse$Heap;", true)
  | 2 => ("ArrayHouse$Finds", "scalars", "LArrayHouse$Scalars;", true)
  | 3 => ("ArrayHouse$Finds", "writer", "LArrayHouse$Writer;", true)
  | 4 => ("ArrayHouse$Finds", "rows", "[I", true)
  | _ => ("ArrayHouse$Finds", "other", "[I", true)
def tyX0 : Nat → FieldType := fun k => match k with
  | 0 => .object "ArrayHouse$State"
  | 1 => .object "ArrayHouse$Heap"
  | 2 => .object "ArrayHouse$Scalars"
  | 3 => .object "ArrayHouse$Writer"
  | 4 => .array .int
  | _ => .array .int
abbrev wsX00 : List Cond := u_ws RX0 TX0 6
theorem nmX0 : ∀ a, a < 6 → ∀ b, b < 6 → a ≠ b → (TX0 a).2.1 ≠ (TX0 b).2.1 := by decide +kernel
theorem tyX0_ok : ∀ k, k < 6 → parseFieldDescriptor (TX0 k).2.2.1 = some (tyX0 k) := by decide +kernel
abbrev cX0_init : ByteArray := prog_2_method_1_code
def yX0_init : MethodName := ⟨RX0, "<init>", "(LArrayHouse$State;LArrayHouse$Heap;LArrayHouse$Scalars;)V"⟩
def RX1 : String := "ArrayHouse$Heap"
def TX1 : u_T := fun k => match k with
  | 0 => ("ArrayHouse$Heap", "state", "LArrayHouse$State;", true)
  | 1 => ("ArrayHouse$Heap", "shape", "[I", true)
  | 2 => ("ArrayHouse$Heap", "words", "[I", false)
  | 3 => ("ArrayHouse$Heap", "spare", "[I", false)
  | 4 => ("ArrayHouse$Heap", "top", "I", false)
  | 5 => ("ArrayHouse$Heap", "spareTop", "I", false)
  | 6 => ("ArrayHouse$Heap", "base", "I", false)
  | 7 => ("ArrayHouse$Heap", "fillN", "I", false)
  | _ => ("ArrayHouse$Heap", "fillD", "I", false)
def tyX1 : Nat → FieldType := fun k => match k with
  | 0 => .object "ArrayHouse$State"
  | 1 => .array .int
  | 2 => .array .int
  | 3 => .array .int
  | 4 => .int
  | 5 => .int
  | 6 => .int
  | 7 => .int
  | _ => .int
abbrev wsX10 : List Cond := u_ws RX1 TX1 9
theorem nmX1 : ∀ a, a < 9 → ∀ b, b < 9 → a ≠ b → (TX1 a).2.1 ≠ (TX1 b).2.1 := by decide +kernel
theorem tyX1_ok : ∀ k, k < 9 → parseFieldDescriptor (TX1 k).2.2.1 = some (tyX1 k) := by decide +kernel
abbrev cX1_init : ByteArray := prog_3_method_1_code
def yX1_init : MethodName := ⟨RX1, "<init>", "(LArrayHouse$State;)V"⟩
abbrev cX1_size : ByteArray := prog_3_method_7_code
def yX1_size : MethodName := ⟨RX1, "size", "(I)I"⟩
abbrev cX1_unsettle : ByteArray := prog_3_method_43_code
def yX1_unsettle : MethodName := ⟨RX1, "unsettle", "(I)V"⟩
abbrev cX1_moved : ByteArray := prog_3_method_44_code
def yX1_moved : MethodName := ⟨RX1, "moved", "(I)I"⟩
abbrev cX1_settle : ByteArray := prog_3_method_45_code
def yX1_settle : MethodName := ⟨RX1, "settle", "()V"⟩
def RX2 : String := "ArrayHouse$Operators"
def TX2 : u_T := fun k => match k with
  | 0 => ("ArrayHouse$Operators", "state", "LArrayHouse$State;", true)
  | 1 => ("ArrayHouse$Operators", "heap", "LArrayHouse$Heap;", true)
  | 2 => ("ArrayHouse$Operators", "places", "LArrayHouse$Places;", true)
  | 3 => ("ArrayHouse$Operators", "shapes", "LArrayHouse$Shapes;", true)
  | _ => ("ArrayHouse$Operators", "reader", "LArrayHouse$Reader;", false)
def tyX2 : Nat → FieldType := fun k => match k with
  | 0 => .object "ArrayHouse$State"
  | 1 => .object "ArrayHouse$Heap"
  | 2 => .object "ArrayHouse$Places"
  | 3 => .object "ArrayHouse$Shapes"
  | _ => .object "ArrayHouse$Reader"
abbrev wsX20 : List Cond := u_ws RX2 TX2 5
theorem nmX2 : ∀ a, a < 5 → ∀ b, b < 5 → a ≠ b → (TX2 a).2.1 ≠ (TX2 b).2.1 := by decide +kernel
theorem tyX2_ok : ∀ k, k < 5 → parseFieldDescriptor (TX2 k).2.2.1 = some (tyX2 k) := by decide +kernel
abbrev cX2_init : ByteArray := prog_4_method_1_code
def yX2_init : MethodName := ⟨RX2, "<init>", "(LArrayHouse$State;LArrayHouse$Heap;LArrayHouse$Places;LArrayHouse$Shapes;)V"⟩
def RX3 : String := "ArrayHouse$Places"
def TX3 : u_T := fun k => match k with
  | 0 => ("ArrayHouse$Places", "state", "LArrayHouse$State;", true)
  | 1 => ("ArrayHouse$Places", "heap", "LArrayHouse$Heap;", true)
  | 2 => ("ArrayHouse$Places", "text", "LArrayHouse$Text;", true)
  | 3 => ("ArrayHouse$Places", "nameA", "[I", true)
  | 4 => ("ArrayHouse$Places", "nameB", "[I", true)
  | 5 => ("ArrayHouse$Places", "means", "[I", true)
  | 6 => ("ArrayHouse$Places", "from", "[I", true)
  | 7 => ("ArrayHouse$Places", "to", "[I", true)
  | 8 => ("ArrayHouse$Places", "used", "[I", true)
  | 9 => ("ArrayHouse$Places", "around", "[I", true)
  | 10 => ("ArrayHouse$Places", "left", "[I", true)
  | 11 => ("ArrayHouse$Places", "right", "[I", true)
  | 12 => ("ArrayHouse$Places", "self", "[I", true)
  | 13 => ("ArrayHouse$Places", "guards", "[I", false)
  | 14 => ("ArrayHouse$Places", "guardCount", "I", false)
  | _ => ("ArrayHouse$Places", "deepest", "I", false)
def tyX3 : Nat → FieldType := fun k => match k with
  | 0 => .object "ArrayHouse$State"
  | 1 => .object "ArrayHouse$Heap"
  | 2 => .object "ArrayHouse$Text"
  | 3 => .array .int
  | 4 => .array .int
  | 5 => .array .int
  | 6 => .array .int
  | 7 => .array .int
  | 8 => .array .int
  | 9 => .array .int
  | 10 => .array .int
  | 11 => .array .int
  | 12 => .array .int
  | 13 => .array .int
  | 14 => .int
  | _ => .int
abbrev wsX30 : List Cond := u_ws RX3 TX3 16
theorem nmX3 : ∀ a, a < 16 → ∀ b, b < 16 → a ≠ b → (TX3 a).2.1 ≠ (TX3 b).2.1 := by decide +kernel
theorem tyX3_ok : ∀ k, k < 16 → parseFieldDescriptor (TX3 k).2.2.1 = some (tyX3 k) := by decide +kernel
abbrev cX3_init : ByteArray := prog_5_method_1_code
def yX3_init : MethodName := ⟨RX3, "<init>", "(LArrayHouse$State;LArrayHouse$Heap;LArrayHouse$Text;)V"⟩
abbrev cX3_meansAt : ByteArray := prog_5_method_2_code
def yX3_meansAt : MethodName := ⟨RX3, "meansAt", "(I)I"⟩
abbrev cX3_firstSlot : ByteArray := prog_5_method_3_code
def yX3_firstSlot : MethodName := ⟨RX3, "firstSlot", "(I)I"⟩
abbrev cX3_keep : ByteArray := prog_5_method_12_code
def yX3_keep : MethodName := ⟨RX3, "keep", "(II)I"⟩
abbrev cX3_pack : ByteArray := prog_5_method_13_code
def yX3_pack : MethodName := ⟨RX3, "pack", "(II)I"⟩
def RX4 : String := "ArrayHouse$Reader"
def TX4 : u_T := fun k => match k with
  | 0 => ("ArrayHouse$Reader", "state", "LArrayHouse$State;", true)
  | 1 => ("ArrayHouse$Reader", "heap", "LArrayHouse$Heap;", true)
  | 2 => ("ArrayHouse$Reader", "text", "LArrayHouse$Text;", true)
  | 3 => ("ArrayHouse$Reader", "places", "LArrayHouse$Places;", true)
  | 4 => ("ArrayHouse$Reader", "scalars", "LArrayHouse$Scalars;", true)
  | 5 => ("ArrayHouse$Reader", "shapes", "LArrayHouse$Shapes;", true)
  | 6 => ("ArrayHouse$Reader", "finds", "LArrayHouse$Finds;", true)
  | 7 => ("ArrayHouse$Reader", "operators", "LArrayHouse$Operators;", true)
  | 8 => ("ArrayHouse$Reader", "rows", "[I", true)
  | 9 => ("ArrayHouse$Reader", "place", "I", false)
  | 10 => ("ArrayHouse$Reader", "mark", "I", false)
  | 11 => ("ArrayHouse$Reader", "ahead", "I", false)
  | _ => ("ArrayHouse$Reader", "ended", "Z", false)
def tyX4 : Nat → FieldType := fun k => match k with
  | 0 => .object "ArrayHouse$State"
  | 1 => .object "ArrayHouse$Heap"
  | 2 => .object "ArrayHouse$Text"
  | 3 => .object "ArrayHouse$Places"
  | 4 => .object "ArrayHouse$Scalars"
  | 5 => .object "ArrayHouse$Shapes"
  | 6 => .object "ArrayHouse$Finds"
  | 7 => .object "ArrayHouse$Operators"
  | 8 => .array .int
  | 9 => .int
  | 10 => .int
  | 11 => .int
  | _ => .boolean
abbrev wsX40 : List Cond := u_ws RX4 TX4 13
theorem nmX4 : ∀ a, a < 13 → ∀ b, b < 13 → a ≠ b → (TX4 a).2.1 ≠ (TX4 b).2.1 := by decide +kernel
theorem tyX4_ok : ∀ k, k < 13 → parseFieldDescriptor (TX4 k).2.2.1 = some (tyX4 k) := by decide +kernel
abbrev cX4_init : ByteArray := prog_6_method_1_code
def yX4_init : MethodName := ⟨RX4, "<init>", "(LArrayHouse$State;LArrayHouse$Heap;LArrayHouse$Text;LArrayHouse$Places;LArrayHouse$Shapes;LArrayHouse$Operators;)V"⟩
abbrev cX4_houseBytes : ByteArray := prog_6_method_27_code
def yX4_houseBytes : MethodName := ⟨RX4, "houseBytes", "()I"⟩
def RX5 : String := "ArrayHouse$Scalars"
def TX5 : u_T := fun k => match k with
  | 0 => ("ArrayHouse$Scalars", "state", "LArrayHouse$State;", true)
  | 1 => ("ArrayHouse$Scalars", "heap", "LArrayHouse$Heap;", true)
  | 2 => ("ArrayHouse$Scalars", "n", "I", false)
  | _ => ("ArrayHouse$Scalars", "d", "I", false)
def tyX5 : Nat → FieldType := fun k => match k with
  | 0 => .object "ArrayHouse$State"
  | 1 => .object "ArrayHouse$Heap"
  | 2 => .int
  | _ => .int
abbrev wsX50 : List Cond := u_ws RX5 TX5 4
theorem nmX5 : ∀ a, a < 4 → ∀ b, b < 4 → a ≠ b → (TX5 a).2.1 ≠ (TX5 b).2.1 := by decide +kernel
theorem tyX5_ok : ∀ k, k < 4 → parseFieldDescriptor (TX5 k).2.2.1 = some (tyX5 k) := by decide +kernel
abbrev cX5_init : ByteArray := prog_7_method_1_code
def yX5_init : MethodName := ⟨RX5, "<init>", "(LArrayHouse$State;LArrayHouse$Heap;)V"⟩
def RX6 : String := "ArrayHouse$Shapes"
def TX6 : u_T := fun k => match k with
  | 0 => ("ArrayHouse$Shapes", "state", "LArrayHouse$State;", true)
  | 1 => ("ArrayHouse$Shapes", "heap", "LArrayHouse$Heap;", true)
  | 2 => ("ArrayHouse$Shapes", "rows", "[I", true)
  | 3 => ("ArrayHouse$Shapes", "turn", "[I", true)
  | _ => ("ArrayHouse$Shapes", "place", "[I", true)
def tyX6 : Nat → FieldType := fun k => match k with
  | 0 => .object "ArrayHouse$State"
  | 1 => .object "ArrayHouse$Heap"
  | 2 => .array .int
  | 3 => .array .int
  | _ => .array .int
abbrev wsX60 : List Cond := u_ws RX6 TX6 5
theorem nmX6 : ∀ a, a < 5 → ∀ b, b < 5 → a ≠ b → (TX6 a).2.1 ≠ (TX6 b).2.1 := by decide +kernel
theorem tyX6_ok : ∀ k, k < 5 → parseFieldDescriptor (TX6 k).2.2.1 = some (tyX6 k) := by decide +kernel
abbrev cX6_init : ByteArray := prog_8_method_1_code
def yX6_init : MethodName := ⟨RX6, "<init>", "(LArrayHouse$State;LArrayHouse$Heap;)V"⟩
def RX7 : String := "ArrayHouse$State"
def TX7 : u_T := fun k => match k with
  | 0 => ("ArrayHouse$State", "event", "I", false)
  | 1 => ("ArrayHouse$State", "spent", "I", false)
  | 2 => ("ArrayHouse$State", "open", "I", false)
  | 3 => ("ArrayHouse$State", "origin", "I", false)
  | _ => ("ArrayHouse$State", "link", "I", false)
def tyX7 : Nat → FieldType := fun k => match k with
  | 0 => .int
  | 1 => .int
  | 2 => .int
  | 3 => .int
  | _ => .int
abbrev wsX70 : List Cond := u_ws RX7 TX7 5
theorem nmX7 : ∀ a, a < 5 → ∀ b, b < 5 → a ≠ b → (TX7 a).2.1 ≠ (TX7 b).2.1 := by decide +kernel
theorem tyX7_ok : ∀ k, k < 5 → parseFieldDescriptor (TX7 k).2.2.1 = some (tyX7 k) := by decide +kernel
abbrev cX7_init : ByteArray := prog_9_method_1_code
def yX7_init : MethodName := ⟨RX7, "<init>", "()V"⟩
abbrev cX7_begin : ByteArray := prog_9_method_2_code
def yX7_begin : MethodName := ⟨RX7, "begin", "()V"⟩
def RX8 : String := "ArrayHouse$Text"
def TX8 : u_T := fun k => match k with
  | 0 => ("ArrayHouse$Text", "kept", "[B", true)
  | 1 => ("ArrayHouse$Text", "bytes", "[B", false)
  | 2 => ("ArrayHouse$Text", "tokens", "[I", false)
  | 3 => ("ArrayHouse$Text", "length", "I", false)
  | 4 => ("ArrayHouse$Text", "count", "I", false)
  | 5 => ("ArrayHouse$Text", "keptLength", "I", false)
  | 6 => ("ArrayHouse$Text", "innermost", "I", false)
  | _ => ("ArrayHouse$Text", "lastMade", "I", false)
def tyX8 : Nat → FieldType := fun k => match k with
  | 0 => .array .byte
  | 1 => .array .byte
  | 2 => .array .int
  | 3 => .int
  | 4 => .int
  | 5 => .int
  | 6 => .int
  | _ => .int
abbrev wsX80 : List Cond := u_ws RX8 TX8 8
theorem nmX8 : ∀ a, a < 8 → ∀ b, b < 8 → a ≠ b → (TX8 a).2.1 ≠ (TX8 b).2.1 := by decide +kernel
theorem tyX8_ok : ∀ k, k < 8 → parseFieldDescriptor (TX8 k).2.2.1 = some (tyX8 k) := by decide +kernel
abbrev cX8_init : ByteArray := prog_10_method_1_code
def yX8_init : MethodName := ⟨RX8, "<init>", "()V"⟩
abbrev cX8_scan : ByteArray := prog_10_method_9_code
def yX8_scan : MethodName := ⟨RX8, "scan", "(I)I"⟩
abbrev cX8_statementEnd : ByteArray := prog_10_method_21_code
def yX8_statementEnd : MethodName := ⟨RX8, "statementEnd", "(II)I"⟩
abbrev cX8_firstOf : ByteArray := prog_10_method_23_code
def yX8_firstOf : MethodName := ⟨RX8, "firstOf", "(IIII)I"⟩
abbrev cX8_unmake : ByteArray := prog_10_method_27_code
def yX8_unmake : MethodName := ⟨RX8, "unmake", "(I)V"⟩
def RX9 : String := "ArrayHouse$Writer"
def TX9 : u_T := fun k => match k with
  | 0 => ("ArrayHouse$Writer", "heap", "LArrayHouse$Heap;", true)
  | 1 => ("ArrayHouse$Writer", "row", "[B", true)
  | 2 => ("ArrayHouse$Writer", "length", "I", false)
  | _ => ("ArrayHouse$Writer", "over", "Z", false)
def tyX9 : Nat → FieldType := fun k => match k with
  | 0 => .object "ArrayHouse$Heap"
  | 1 => .array .byte
  | 2 => .int
  | _ => .boolean
abbrev wsX90 : List Cond := u_ws RX9 TX9 4
theorem nmX9 : ∀ a, a < 4 → ∀ b, b < 4 → a ≠ b → (TX9 a).2.1 ≠ (TX9 b).2.1 := by decide +kernel
theorem tyX9_ok : ∀ k, k < 4 → parseFieldDescriptor (TX9 k).2.2.1 = some (tyX9 k) := by decide +kernel
abbrev cX9_init : ByteArray := prog_11_method_1_code
def yX9_init : MethodName := ⟨RX9, "<init>", "(LArrayHouse$Heap;I)V"⟩
def RX10 : String := "ArrayHouse"
def TX10 : u_T := fun k => match k with
  | 0 => ("ArrayHouse", "state", "LArrayHouse$State;", true)
  | 1 => ("ArrayHouse", "heap", "LArrayHouse$Heap;", true)
  | 2 => ("ArrayHouse", "text", "LArrayHouse$Text;", true)
  | 3 => ("ArrayHouse", "places", "LArrayHouse$Places;", true)
  | 4 => ("ArrayHouse", "screen", "LArrayHouse$Writer;", true)
  | 5 => ("ArrayHouse", "reader", "LArrayHouse$Reader;", true)
  | 6 => ("ArrayHouse", "tape", "[B", true)
  | 7 => ("ArrayHouse", "path", "[I", true)
  | 8 => ("ArrayHouse", "tapeLength", "I", false)
  | 9 => ("ArrayHouse", "pathLength", "I", false)
  | _ => ("ArrayHouse", "eventAt", "I", false)
def tyX10 : Nat → FieldType := fun k => match k with
  | 0 => .object "ArrayHouse$State"
  | 1 => .object "ArrayHouse$Heap"
  | 2 => .object "ArrayHouse$Text"
  | 3 => .object "ArrayHouse$Places"
  | 4 => .object "ArrayHouse$Writer"
  | 5 => .object "ArrayHouse$Reader"
  | 6 => .array .byte
  | 7 => .array .int
  | 8 => .int
  | 9 => .int
  | _ => .int
abbrev wsX100 : List Cond := u_ws RX10 TX10 11
theorem nmX10 : ∀ a, a < 11 → ∀ b, b < 11 → a ≠ b → (TX10 a).2.1 ≠ (TX10 b).2.1 := by decide +kernel
theorem tyX10_ok : ∀ k, k < 11 → parseFieldDescriptor (TX10 k).2.2.1 = some (tyX10 k) := by decide +kernel
abbrev cX10_init : ByteArray := prog_1_method_1_code
def yX10_init : MethodName := ⟨RX10, "<init>", "()V"⟩
abbrev cX10_feed : ByteArray := prog_1_method_2_code
def yX10_feed : MethodName := ⟨RX10, "feed", "(IIIII)I"⟩
abbrev cX10_append : ByteArray := prog_1_method_3_code
def yX10_append : MethodName := ⟨RX10, "append", "(I)V"⟩
abbrev cX10_trim : ByteArray := prog_1_method_4_code
def yX10_trim : MethodName := ⟨RX10, "trim", "(I)I"⟩
abbrev cX10_run : ByteArray := prog_1_method_5_code
def yX10_run : MethodName := ⟨RX10, "run", "()I"⟩
abbrev cX10_keepHouse : ByteArray := prog_1_method_6_code
def yX10_keepHouse : MethodName := ⟨RX10, "keepHouse", "()V"⟩
abbrev cX10_statements : ByteArray := prog_1_method_7_code
def yX10_statements : MethodName := ⟨RX10, "statements", "(II)V"⟩
abbrev cX10_at : ByteArray := prog_1_method_8_code
def yX10_at : MethodName := ⟨RX10, "at", "()I"⟩
abbrev cX10_steps : ByteArray := prog_1_method_9_code
def yX10_steps : MethodName := ⟨RX10, "steps", "()I"⟩
abbrev cX10_shown : ByteArray := prog_1_method_10_code
def yX10_shown : MethodName := ⟨RX10, "shown", "()I"⟩
abbrev cX10_byteAt : ByteArray := prog_1_method_11_code
def yX10_byteAt : MethodName := ⟨RX10, "byteAt", "(I)I"⟩
abbrev cX10_view : ByteArray := prog_1_method_12_code
def yX10_view : MethodName := ⟨RX10, "view", "()I"⟩
abbrev cX10_nameOnTape : ByteArray := prog_1_method_13_code
def yX10_nameOnTape : MethodName := ⟨RX10, "nameOnTape", "()I"⟩
abbrev cX10_into : ByteArray := prog_1_method_14_code
def yX10_into : MethodName := ⟨RX10, "into", "(I)I"⟩
abbrev cX10_back : ByteArray := prog_1_method_15_code
def yX10_back : MethodName := ⟨RX10, "back", "()I"⟩
abbrev cX10_about : ByteArray := prog_1_method_16_code
def yX10_about : MethodName := ⟨RX10, "about", "(I)I"⟩
abbrev cX10_extent : ByteArray := prog_1_method_17_code
def yX10_extent : MethodName := ⟨RX10, "extent", "(I)I"⟩
abbrev cX10_kind : ByteArray := prog_1_method_18_code
def yX10_kind : MethodName := ⟨RX10, "kind", "(I)I"⟩
abbrev cX10_number : ByteArray := prog_1_method_19_code
def yX10_number : MethodName := ⟨RX10, "number", "(IZ)I"⟩
abbrev cX10_viewed : ByteArray := prog_1_method_20_code
def yX10_viewed : MethodName := ⟨RX10, "viewed", "()I"⟩
abbrev cX10_told : ByteArray := prog_1_method_21_code
def yX10_told : MethodName := ⟨RX10, "told", "(I)I"⟩
abbrev cX10_meaning : ByteArray := prog_1_method_22_code
def yX10_meaning : MethodName := ⟨RX10, "meaning", "(I)I"⟩
abbrev cX10_sizes : ByteArray := prog_1_method_23_code
def yX10_sizes : MethodName := ⟨RX10, "sizes", "()I"⟩
abbrev cX10_forget : ByteArray := prog_1_method_24_code
def yX10_forget : MethodName := ⟨RX10, "forget", "()I"⟩
abbrev cX10_set : ByteArray := prog_1_method_25_code
def yX10_set : MethodName := ⟨RX10, "set", "(II)I"⟩
abbrev cX10_peek : ByteArray := prog_1_method_26_code
def yX10_peek : MethodName := ⟨RX10, "peek", "([II)I"⟩
def RX11 : String := "ArrayHouseModel"
def TX11 : u_T := fun k => match k with
  | 0 => ("ArrayHouseModel", "event", "I", false)
  | 1 => ("ArrayHouseModel", "steps", "I", false)
  | 2 => ("ArrayHouseModel", "open", "I", false)
  | 3 => ("ArrayHouseModel", "origin", "I", false)
  | 4 => ("ArrayHouseModel", "link", "J", false)
  | 5 => ("ArrayHouseModel", "mem", "[I", false)
  | 6 => ("ArrayHouseModel", "kept", "[I", true)
  | 7 => ("ArrayHouseModel", "top", "I", false)
  | 8 => ("ArrayHouseModel", "shape", "[I", true)
  | 9 => ("ArrayHouseModel", "axes", "I", false)
  | 10 => ("ArrayHouseModel", "itemN", "I", false)
  | 11 => ("ArrayHouseModel", "itemD", "I", false)
  | 12 => ("ArrayHouseModel", "spots", "[I", true)
  | 13 => ("ArrayHouseModel", "spotsToo", "[I", true)
  | 14 => ("ArrayHouseModel", "fills", "[I", true)
  | 15 => ("ArrayHouseModel", "filled", "I", false)
  | 16 => ("ArrayHouseModel", "said", "[B", true)
  | 17 => ("ArrayHouseModel", "saidMany", "I", false)
  | 18 => ("ArrayHouseModel", "spoken", "[B", true)
  | 19 => ("ArrayHouseModel", "written", "I", false)
  | 20 => ("ArrayHouseModel", "shows", "Z", false)
  | 21 => ("ArrayHouseModel", "wait", "[I", true)
  | 22 => ("ArrayHouseModel", "waits", "I", false)
  | 23 => ("ArrayHouseModel", "bytes", "[B", true)
  | 24 => ("ArrayHouseModel", "byteTop", "I", false)
  | 25 => ("ArrayHouseModel", "kind", "[I", true)
  | 26 => ("ArrayHouseModel", "low", "[I", true)
  | 27 => ("ArrayHouseModel", "high", "[I", true)
  | 28 => ("ArrayHouseModel", "from", "[I", true)
  | 29 => ("ArrayHouseModel", "to", "[I", true)
  | 30 => ("ArrayHouseModel", "partner", "[I", true)
  | 31 => ("ArrayHouseModel", "literal", "[I", true)
  | 32 => ("ArrayHouseModel", "tokens", "I", false)
  | 33 => ("ArrayHouseModel", "fault", "I", false)
  | 34 => ("ArrayHouseModel", "at", "I", false)
  | 35 => ("ArrayHouseModel", "end", "I", false)
  | 36 => ("ArrayHouseModel", "meant", "[I", true)
  | 37 => ("ArrayHouseModel", "nameLow", "[I", true)
  | 38 => ("ArrayHouseModel", "nameHigh", "[I", true)
  | 39 => ("ArrayHouseModel", "meaning", "[I", true)
  | 40 => ("ArrayHouseModel", "funcFrom", "[I", true)
  | 41 => ("ArrayHouseModel", "funcTo", "[I", true)
  | 42 => ("ArrayHouseModel", "textFrom", "[I", true)
  | 43 => ("ArrayHouseModel", "textMany", "[I", true)
  | 44 => ("ArrayHouseModel", "texts", "[B", true)
  | 45 => ("ArrayHouseModel", "textTop", "I", false)
  | 46 => ("ArrayHouseModel", "frames", "I", false)
  | 47 => ("ArrayHouseModel", "frameAround", "[I", true)
  | 48 => ("ArrayHouseModel", "frameLeft", "[I", true)
  | 49 => ("ArrayHouseModel", "frameRight", "[I", true)
  | 50 => ("ArrayHouseModel", "frameSelf", "[I", true)
  | 51 => ("ArrayHouseModel", "comes", "I", false)
  | 52 => ("ArrayHouseModel", "ended", "Z", false)
  | 53 => ("ArrayHouseModel", "met", "I", false)
  | 54 => ("ArrayHouseModel", "metEnd", "I", false)
  | 55 => ("ArrayHouseModel", "strandEnd", "I", false)
  | 56 => ("ArrayHouseModel", "strandNext", "I", false)
  | 57 => ("ArrayHouseModel", "strandMet", "I", false)
  | 58 => ("ArrayHouseModel", "functionEnd", "I", false)
  | 59 => ("ArrayHouseModel", "here", "I", false)
  | 60 => ("ArrayHouseModel", "list", "I", false)
  | 61 => ("ArrayHouseModel", "many", "I", false)
  | 62 => ("ArrayHouseModel", "chosenAt", "I", false)
  | 63 => ("ArrayHouseModel", "choosing", "I", false)
  | 64 => ("ArrayHouseModel", "chosenName", "[I", true)
  | 65 => ("ArrayHouseModel", "chosenOwn", "[I", true)
  | 66 => ("ArrayHouseModel", "guards", "I", false)
  | 67 => ("ArrayHouseModel", "guardMask", "[I", true)
  | 68 => ("ArrayHouseModel", "guardFrom", "[I", true)
  | 69 => ("ArrayHouseModel", "guardTo", "[I", true)
  | 70 => ("ArrayHouseModel", "tape", "[B", true)
  | 71 => ("ArrayHouseModel", "taped", "I", false)
  | 72 => ("ArrayHouseModel", "atStatement", "I", false)
  | 73 => ("ArrayHouseModel", "keepTop", "I", false)
  | 74 => ("ArrayHouseModel", "views", "I", false)
  | _ => ("ArrayHouseModel", "view", "[I", true)
def tyX11 : Nat → FieldType := fun k => match k with
  | 0 => .int
  | 1 => .int
  | 2 => .int
  | 3 => .int
  | 4 => .long
  | 5 => .array .int
  | 6 => .array .int
  | 7 => .int
  | 8 => .array .int
  | 9 => .int
  | 10 => .int
  | 11 => .int
  | 12 => .array .int
  | 13 => .array .int
  | 14 => .array .int
  | 15 => .int
  | 16 => .array .byte
  | 17 => .int
  | 18 => .array .byte
  | 19 => .int
  | 20 => .boolean
  | 21 => .array .int
  | 22 => .int
  | 23 => .array .byte
  | 24 => .int
  | 25 => .array .int
  | 26 => .array .int
  | 27 => .array .int
  | 28 => .array .int
  | 29 => .array .int
  | 30 => .array .int
  | 31 => .array .int
  | 32 => .int
  | 33 => .int
  | 34 => .int
  | 35 => .int
  | 36 => .array .int
  | 37 => .array .int
  | 38 => .array .int
  | 39 => .array .int
  | 40 => .array .int
  | 41 => .array .int
  | 42 => .array .int
  | 43 => .array .int
  | 44 => .array .byte
  | 45 => .int
  | 46 => .int
  | 47 => .array .int
  | 48 => .array .int
  | 49 => .array .int
  | 50 => .array .int
  | 51 => .int
  | 52 => .boolean
  | 53 => .int
  | 54 => .int
  | 55 => .int
  | 56 => .int
  | 57 => .int
  | 58 => .int
  | 59 => .int
  | 60 => .int
  | 61 => .int
  | 62 => .int
  | 63 => .int
  | 64 => .array .int
  | 65 => .array .int
  | 66 => .int
  | 67 => .array .int
  | 68 => .array .int
  | 69 => .array .int
  | 70 => .array .byte
  | 71 => .int
  | 72 => .int
  | 73 => .int
  | 74 => .int
  | _ => .array .int
abbrev wsX110 : List Cond := u_ws RX11 TX11 76
theorem nmX11 : ∀ a, a < 76 → ∀ b, b < 76 → a ≠ b → (TX11 a).2.1 ≠ (TX11 b).2.1 := by decide +kernel
theorem tyX11_ok : ∀ k, k < 76 → parseFieldDescriptor (TX11 k).2.2.1 = some (tyX11 k) := by decide +kernel
abbrev cX11_byteOf : ByteArray := prog_13_method_130_code
def yX11_byteOf : MethodName := ⟨RX11, "byteOf", "(I)I"⟩
abbrev cX11_scan : ByteArray := prog_13_method_134_code
def yX11_scan : MethodName := ⟨RX11, "scan", "(II)I"⟩
abbrev cX11_unframe : ByteArray := prog_13_method_186_code
def yX11_unframe : MethodName := ⟨RX11, "unframe", "(I)V"⟩
abbrev cX11_statementEnd : ByteArray := prog_13_method_191_code
def yX11_statementEnd : MethodName := ⟨RX11, "statementEnd", "(II)I"⟩
abbrev cX11_init : ByteArray := prog_13_method_192_code
def yX11_init : MethodName := ⟨RX11, "<init>", "()V"⟩
abbrev cX11_feed : ByteArray := prog_13_method_193_code
def yX11_feed : MethodName := ⟨RX11, "feed", "(IIIII)I"⟩
abbrev cX11_trim : ByteArray := prog_13_method_194_code
def yX11_trim : MethodName := ⟨RX11, "trim", "(I)I"⟩
abbrev cX11_run : ByteArray := prog_13_method_195_code
def yX11_run : MethodName := ⟨RX11, "run", "()I"⟩
abbrev cX11_settle : ByteArray := prog_13_method_197_code
def yX11_settle : MethodName := ⟨RX11, "settle", "()V"⟩
abbrev cX11_at : ByteArray := prog_13_method_199_code
def yX11_at : MethodName := ⟨RX11, "at", "()I"⟩
abbrev cX11_steps : ByteArray := prog_13_method_200_code
def yX11_steps : MethodName := ⟨RX11, "steps", "()I"⟩
abbrev cX11_shown : ByteArray := prog_13_method_201_code
def yX11_shown : MethodName := ⟨RX11, "shown", "()I"⟩
abbrev cX11_byteAt : ByteArray := prog_13_method_202_code
def yX11_byteAt : MethodName := ⟨RX11, "byteAt", "(I)I"⟩
abbrev cX11_taken_ : ByteArray := prog_13_method_203_code
def yX11_taken_ : MethodName := ⟨RX11, "taken", "()I"⟩
abbrev cX11_view : ByteArray := prog_13_method_204_code
def yX11_view : MethodName := ⟨RX11, "view", "()I"⟩
abbrev cX11_into : ByteArray := prog_13_method_206_code
def yX11_into : MethodName := ⟨RX11, "into", "(I)I"⟩
abbrev cX11_back : ByteArray := prog_13_method_207_code
def yX11_back : MethodName := ⟨RX11, "back", "()I"⟩
abbrev cX11_about : ByteArray := prog_13_method_208_code
def yX11_about : MethodName := ⟨RX11, "about", "(I)I"⟩
abbrev cX11_extent_ : ByteArray := prog_13_method_210_code
def yX11_extent_ : MethodName := ⟨RX11, "extent", "(I)I"⟩
abbrev cX11_viewed : ByteArray := prog_13_method_211_code
def yX11_viewed : MethodName := ⟨RX11, "viewed", "(I)Z"⟩
abbrev cX11_kind : ByteArray := prog_13_method_212_code
def yX11_kind : MethodName := ⟨RX11, "kind", "(I)I"⟩
abbrev cX11_number_ : ByteArray := prog_13_method_213_code
def yX11_number_ : MethodName := ⟨RX11, "number", "(IZ)I"⟩
abbrev cX11_told : ByteArray := prog_13_method_214_code
def yX11_told : MethodName := ⟨RX11, "told", "(I)I"⟩
abbrev cX11_forget : ByteArray := prog_13_method_215_code
def yX11_forget : MethodName := ⟨RX11, "forget", "()I"⟩
abbrev cX11_set_ : ByteArray := prog_13_method_216_code
def yX11_set_ : MethodName := ⟨RX11, "set", "(II)I"⟩
def RL : String := "ArrayHouseLaw"
abbrev cL_law : ByteArray := code
theorem dX0_init_0 : decode cX0_init 0 = .ok (.aload_n 0, 1) := by decide +kernel
theorem dX0_init_1 : decode cX0_init 1 = .ok (.invokespecial 3, 3) := by decide +kernel
theorem dX0_init_4 : decode cX0_init 4 = .ok (.aload_n 0, 1) := by decide +kernel
theorem dX0_init_5 : decode cX0_init 5 = .ok (.sipush 1000, 3) := by decide +kernel
theorem dX0_init_8 : decode cX0_init 8 = .ok (.newarray .int, 2) := by decide +kernel
theorem dX0_init_10 : decode cX0_init 10 = .ok (.putfield 9, 3) := by decide +kernel
theorem dX0_init_13 : decode cX0_init 13 = .ok (.aload_n 0, 1) := by decide +kernel
theorem dX0_init_14 : decode cX0_init 14 = .ok (.sipush 1000, 3) := by decide +kernel
theorem dX0_init_17 : decode cX0_init 17 = .ok (.newarray .int, 2) := by decide +kernel
theorem dX0_init_19 : decode cX0_init 19 = .ok (.putfield 15, 3) := by decide +kernel
theorem dX0_init_22 : decode cX0_init 22 = .ok (.aload_n 0, 1) := by decide +kernel
theorem dX0_init_23 : decode cX0_init 23 = .ok (.aload_n 1, 1) := by decide +kernel
theorem dX0_init_24 : decode cX0_init 24 = .ok (.putfield 18, 3) := by decide +kernel
theorem dX0_init_27 : decode cX0_init 27 = .ok (.aload_n 0, 1) := by decide +kernel
theorem dX0_init_28 : decode cX0_init 28 = .ok (.aload_n 2, 1) := by decide +kernel
theorem dX0_init_29 : decode cX0_init 29 = .ok (.putfield 22, 3) := by decide +kernel
theorem dX0_init_32 : decode cX0_init 32 = .ok (.aload_n 0, 1) := by decide +kernel
theorem dX0_init_33 : decode cX0_init 33 = .ok (.aload_n 3, 1) := by decide +kernel
theorem dX0_init_34 : decode cX0_init 34 = .ok (.putfield 26, 3) := by decide +kernel
theorem dX0_init_37 : decode cX0_init 37 = .ok (.aload_n 0, 1) := by decide +kernel
theorem dX0_init_38 : decode cX0_init 38 = .ok (.new 30, 3) := by decide +kernel
theorem dX0_init_41 : decode cX0_init 41 = .ok (.dup, 1) := by decide +kernel
theorem dX0_init_42 : decode cX0_init 42 = .ok (.aload_n 2, 1) := by decide +kernel
theorem dX0_init_43 : decode cX0_init 43 = .ok (.sipush 1000, 3) := by decide +kernel
theorem dX0_init_46 : decode cX0_init 46 = .ok (.invokespecial 32, 3) := by decide +kernel
theorem dX0_init_49 : decode cX0_init 49 = .ok (.putfield 35, 3) := by decide +kernel
theorem dX0_init_52 : decode cX0_init 52 = .ok (.return_, 1) := by decide +kernel
theorem dX1_init_0 : decode cX1_init 0 = .ok (.aload_n 0, 1) := by decide +kernel
theorem dX1_init_1 : decode cX1_init 1 = .ok (.invokespecial 3, 3) := by decide +kernel
theorem dX1_init_4 : decode cX1_init 4 = .ok (.aload_n 0, 1) := by decide +kernel
theorem dX1_init_5 : decode cX1_init 5 = .ok (.bipush 7, 2) := by decide +kernel
theorem dX1_init_7 : decode cX1_init 7 = .ok (.newarray .int, 2) := by decide +kernel
theorem dX1_init_9 : decode cX1_init 9 = .ok (.putfield 9, 3) := by decide +kernel
theorem dX1_init_12 : decode cX1_init 12 = .ok (.aload_n 0, 1) := by decide +kernel
theorem dX1_init_13 : decode cX1_init 13 = .ok (.sipush 4096, 3) := by decide +kernel
theorem dX1_init_16 : decode cX1_init 16 = .ok (.newarray .int, 2) := by decide +kernel
theorem dX1_init_18 : decode cX1_init 18 = .ok (.putfield 15, 3) := by decide +kernel
theorem dX1_init_21 : decode cX1_init 21 = .ok (.aload_n 0, 1) := by decide +kernel
theorem dX1_init_22 : decode cX1_init 22 = .ok (.sipush 1024, 3) := by decide +kernel
theorem dX1_init_25 : decode cX1_init 25 = .ok (.newarray .int, 2) := by decide +kernel
theorem dX1_init_27 : decode cX1_init 27 = .ok (.putfield 18, 3) := by decide +kernel
theorem dX1_init_30 : decode cX1_init 30 = .ok (.aload_n 0, 1) := by decide +kernel
theorem dX1_init_31 : decode cX1_init 31 = .ok (.bipush 16, 2) := by decide +kernel
theorem dX1_init_33 : decode cX1_init 33 = .ok (.putfield 21, 3) := by decide +kernel
theorem dX1_init_36 : decode cX1_init 36 = .ok (.aload_n 0, 1) := by decide +kernel
theorem dX1_init_37 : decode cX1_init 37 = .ok (.bipush 16, 2) := by decide +kernel
theorem dX1_init_39 : decode cX1_init 39 = .ok (.putfield 25, 3) := by decide +kernel
theorem dX1_init_42 : decode cX1_init 42 = .ok (.aload_n 0, 1) := by decide +kernel
theorem dX1_init_43 : decode cX1_init 43 = .ok (.iconst 1, 1) := by decide +kernel
theorem dX1_init_44 : decode cX1_init 44 = .ok (.putfield 28, 3) := by decide +kernel
theorem dX1_init_47 : decode cX1_init 47 = .ok (.aload_n 0, 1) := by decide +kernel
theorem dX1_init_48 : decode cX1_init 48 = .ok (.aload_n 1, 1) := by decide +kernel
theorem dX1_init_49 : decode cX1_init 49 = .ok (.putfield 31, 3) := by decide +kernel
theorem dX1_init_52 : decode cX1_init 52 = .ok (.return_, 1) := by decide +kernel
theorem dX1_size_0 : decode cX1_size 0 = .ok (.iload_n 1, 1) := by decide +kernel
theorem dX1_size_1 : decode cX1_size 1 = .ok (.ifCond .lt 25, 3) := by decide +kernel
theorem dX1_size_4 : decode cX1_size 4 = .ok (.iload_n 1, 1) := by decide +kernel
theorem dX1_size_5 : decode cX1_size 5 = .ok (.aload_n 0, 1) := by decide +kernel
theorem dX1_size_6 : decode cX1_size 6 = .ok (.getfield 15, 3) := by decide +kernel
theorem dX1_size_9 : decode cX1_size 9 = .ok (.arraylength, 1) := by decide +kernel
theorem dX1_size_10 : decode cX1_size 10 = .ok (.iconst 2, 1) := by decide +kernel
theorem dX1_size_11 : decode cX1_size 11 = .ok (.isub, 1) := by decide +kernel
theorem dX1_size_12 : decode cX1_size 12 = .ok (.if_icmp .ge 14, 3) := by decide +kernel
theorem dX1_size_15 : decode cX1_size 15 = .ok (.aload_n 0, 1) := by decide +kernel
theorem dX1_size_16 : decode cX1_size 16 = .ok (.getfield 15, 3) := by decide +kernel
theorem dX1_size_19 : decode cX1_size 19 = .ok (.iload_n 1, 1) := by decide +kernel
theorem dX1_size_20 : decode cX1_size 20 = .ok (.iconst 2, 1) := by decide +kernel
theorem dX1_size_21 : decode cX1_size 21 = .ok (.iadd, 1) := by decide +kernel
theorem dX1_size_22 : decode cX1_size 22 = .ok (.iaload, 1) := by decide +kernel
theorem dX1_size_23 : decode cX1_size 23 = .ok (.goto 4, 3) := by decide +kernel
theorem dX1_size_27 : decode cX1_size 27 = .ok (.ireturn, 1) := by decide +kernel
theorem dX1_unsettle_0 : decode cX1_unsettle 0 = .ok (.aload_n 0, 1) := by decide +kernel
theorem dX1_unsettle_1 : decode cX1_unsettle 1 = .ok (.bipush 16, 2) := by decide +kernel
theorem dX1_unsettle_3 : decode cX1_unsettle 3 = .ok (.iload_n 1, 1) := by decide +kernel
theorem dX1_unsettle_4 : decode cX1_unsettle 4 = .ok (.invokestatic 47, 3) := by decide +kernel
theorem dX1_unsettle_7 : decode cX1_unsettle 7 = .ok (.putfield 25, 3) := by decide +kernel
theorem dX1_unsettle_10 : decode cX1_unsettle 10 = .ok (.aload_n 0, 1) := by decide +kernel
theorem dX1_unsettle_11 : decode cX1_unsettle 11 = .ok (.iconst 0, 1) := by decide +kernel
theorem dX1_unsettle_12 : decode cX1_unsettle 12 = .ok (.putfield 182, 3) := by decide +kernel
theorem dX1_unsettle_15 : decode cX1_unsettle 15 = .ok (.return_, 1) := by decide +kernel
theorem dX1_moved_0 : decode cX1_moved 0 = .ok (.iload_n 1, 1) := by decide +kernel
theorem dX1_moved_1 : decode cX1_moved 1 = .ok (.aload_n 0, 1) := by decide +kernel
theorem dX1_moved_2 : decode cX1_moved 2 = .ok (.getfield 25, 3) := by decide +kernel
theorem dX1_moved_5 : decode cX1_moved 5 = .ok (.if_icmp .ge 5, 3) := by decide +kernel
theorem dX1_moved_8 : decode cX1_moved 8 = .ok (.iload_n 1, 1) := by decide +kernel
theorem dX1_moved_9 : decode cX1_moved 9 = .ok (.ireturn, 1) := by decide +kernel
theorem dX1_settle_0 : decode cX1_settle 0 = .ok (.aload_n 0, 1) := by decide +kernel
theorem dX1_settle_1 : decode cX1_settle 1 = .ok (.getfield 182, 3) := by decide +kernel
theorem dX1_settle_4 : decode cX1_settle 4 = .ok (.aload_n 0, 1) := by decide +kernel
theorem dX1_settle_5 : decode cX1_settle 5 = .ok (.getfield 18, 3) := by decide +kernel
theorem dX1_settle_8 : decode cX1_settle 8 = .ok (.arraylength, 1) := by decide +kernel
theorem dX1_settle_9 : decode cX1_settle 9 = .ok (.if_icmp .gt 20, 3) := by decide +kernel
theorem dX1_settle_12 : decode cX1_settle 12 = .ok (.aload_n 0, 1) := by decide +kernel
theorem dX1_settle_13 : decode cX1_settle 13 = .ok (.getfield 182, 3) := by decide +kernel
theorem dX1_settle_16 : decode cX1_settle 16 = .ok (.aload_n 0, 1) := by decide +kernel
theorem dX1_settle_17 : decode cX1_settle 17 = .ok (.getfield 15, 3) := by decide +kernel
theorem dX1_settle_20 : decode cX1_settle 20 = .ok (.arraylength, 1) := by decide +kernel
theorem dX1_settle_21 : decode cX1_settle 21 = .ok (.aload_n 0, 1) := by decide +kernel
theorem dX1_settle_22 : decode cX1_settle 22 = .ok (.getfield 25, 3) := by decide +kernel
theorem dX1_settle_25 : decode cX1_settle 25 = .ok (.isub, 1) := by decide +kernel
theorem dX1_settle_26 : decode cX1_settle 26 = .ok (.if_icmp .le 4, 3) := by decide +kernel
theorem dX1_settle_30 : decode cX1_settle 30 = .ok (.aload_n 0, 1) := by decide +kernel
theorem dX1_settle_31 : decode cX1_settle 31 = .ok (.getfield 18, 3) := by decide +kernel
theorem dX1_settle_34 : decode cX1_settle 34 = .ok (.iconst 0, 1) := by decide +kernel
theorem dX1_settle_35 : decode cX1_settle 35 = .ok (.aload_n 0, 1) := by decide +kernel
theorem dX1_settle_36 : decode cX1_settle 36 = .ok (.getfield 15, 3) := by decide +kernel
theorem dX1_settle_39 : decode cX1_settle 39 = .ok (.aload_n 0, 1) := by decide +kernel
theorem dX1_settle_40 : decode cX1_settle 40 = .ok (.getfield 25, 3) := by decide +kernel
theorem dX1_settle_43 : decode cX1_settle 43 = .ok (.aload_n 0, 1) := by decide +kernel
theorem dX1_settle_44 : decode cX1_settle 44 = .ok (.getfield 182, 3) := by decide +kernel
theorem dX1_settle_47 : decode cX1_settle 47 = .ok (.invokestatic 185, 3) := by decide +kernel
theorem dX1_settle_50 : decode cX1_settle 50 = .ok (.aload_n 0, 1) := by decide +kernel
theorem dX1_settle_51 : decode cX1_settle 51 = .ok (.aload_n 0, 1) := by decide +kernel
theorem dX1_settle_52 : decode cX1_settle 52 = .ok (.getfield 25, 3) := by decide +kernel
theorem dX1_settle_55 : decode cX1_settle 55 = .ok (.aload_n 0, 1) := by decide +kernel
theorem dX1_settle_56 : decode cX1_settle 56 = .ok (.getfield 182, 3) := by decide +kernel
theorem dX1_settle_59 : decode cX1_settle 59 = .ok (.iadd, 1) := by decide +kernel
theorem dX1_settle_60 : decode cX1_settle 60 = .ok (.putfield 21, 3) := by decide +kernel
theorem dX1_settle_63 : decode cX1_settle 63 = .ok (.return_, 1) := by decide +kernel
theorem dX2_init_0 : decode cX2_init 0 = .ok (.aload_n 0, 1) := by decide +kernel
theorem dX2_init_1 : decode cX2_init 1 = .ok (.invokespecial 3, 3) := by decide +kernel
theorem dX2_init_4 : decode cX2_init 4 = .ok (.aload_n 0, 1) := by decide +kernel
theorem dX2_init_5 : decode cX2_init 5 = .ok (.aload_n 1, 1) := by decide +kernel
theorem dX2_init_6 : decode cX2_init 6 = .ok (.putfield 9, 3) := by decide +kernel
theorem dX2_init_9 : decode cX2_init 9 = .ok (.aload_n 0, 1) := by decide +kernel
theorem dX2_init_10 : decode cX2_init 10 = .ok (.aload_n 2, 1) := by decide +kernel
theorem dX2_init_11 : decode cX2_init 11 = .ok (.putfield 15, 3) := by decide +kernel
theorem dX2_init_14 : decode cX2_init 14 = .ok (.aload_n 0, 1) := by decide +kernel
theorem dX2_init_15 : decode cX2_init 15 = .ok (.aload_n 3, 1) := by decide +kernel
theorem dX2_init_16 : decode cX2_init 16 = .ok (.putfield 19, 3) := by decide +kernel
theorem dX2_init_19 : decode cX2_init 19 = .ok (.aload_n 0, 1) := by decide +kernel
theorem dX2_init_20 : decode cX2_init 20 = .ok (.aload 4, 2) := by decide +kernel
theorem dX2_init_22 : decode cX2_init 22 = .ok (.putfield 23, 3) := by decide +kernel
theorem dX2_init_25 : decode cX2_init 25 = .ok (.return_, 1) := by decide +kernel
theorem dX3_init_0 : decode cX3_init 0 = .ok (.aload_n 0, 1) := by decide +kernel
theorem dX3_init_1 : decode cX3_init 1 = .ok (.invokespecial 3, 3) := by decide +kernel
theorem dX3_init_4 : decode cX3_init 4 = .ok (.aload_n 0, 1) := by decide +kernel
theorem dX3_init_5 : decode cX3_init 5 = .ok (.sipush 860, 3) := by decide +kernel
theorem dX3_init_8 : decode cX3_init 8 = .ok (.newarray .int, 2) := by decide +kernel
theorem dX3_init_10 : decode cX3_init 10 = .ok (.putfield 11, 3) := by decide +kernel
theorem dX3_init_13 : decode cX3_init 13 = .ok (.aload_n 0, 1) := by decide +kernel
theorem dX3_init_14 : decode cX3_init 14 = .ok (.sipush 860, 3) := by decide +kernel
theorem dX3_init_17 : decode cX3_init 17 = .ok (.newarray .int, 2) := by decide +kernel
theorem dX3_init_19 : decode cX3_init 19 = .ok (.putfield 15, 3) := by decide +kernel
theorem dX3_init_22 : decode cX3_init 22 = .ok (.aload_n 0, 1) := by decide +kernel
theorem dX3_init_23 : decode cX3_init 23 = .ok (.sipush 860, 3) := by decide +kernel
theorem dX3_init_26 : decode cX3_init 26 = .ok (.newarray .int, 2) := by decide +kernel
theorem dX3_init_28 : decode cX3_init 28 = .ok (.putfield 18, 3) := by decide +kernel
theorem dX3_init_31 : decode cX3_init 31 = .ok (.aload_n 0, 1) := by decide +kernel
theorem dX3_init_32 : decode cX3_init 32 = .ok (.sipush 860, 3) := by decide +kernel
theorem dX3_init_35 : decode cX3_init 35 = .ok (.newarray .int, 2) := by decide +kernel
theorem dX3_init_37 : decode cX3_init 37 = .ok (.putfield 21, 3) := by decide +kernel
theorem dX3_init_40 : decode cX3_init 40 = .ok (.aload_n 0, 1) := by decide +kernel
theorem dX3_init_41 : decode cX3_init 41 = .ok (.sipush 860, 3) := by decide +kernel
theorem dX3_init_44 : decode cX3_init 44 = .ok (.newarray .int, 2) := by decide +kernel
theorem dX3_init_46 : decode cX3_init 46 = .ok (.putfield 24, 3) := by decide +kernel
theorem dX3_init_49 : decode cX3_init 49 = .ok (.aload_n 0, 1) := by decide +kernel
theorem dX3_init_50 : decode cX3_init 50 = .ok (.bipush 41, 2) := by decide +kernel
theorem dX3_init_52 : decode cX3_init 52 = .ok (.newarray .int, 2) := by decide +kernel
theorem dX3_init_54 : decode cX3_init 54 = .ok (.putfield 27, 3) := by decide +kernel
theorem dX3_init_57 : decode cX3_init 57 = .ok (.aload_n 0, 1) := by decide +kernel
theorem dX3_init_58 : decode cX3_init 58 = .ok (.bipush 41, 2) := by decide +kernel
theorem dX3_init_60 : decode cX3_init 60 = .ok (.newarray .int, 2) := by decide +kernel
theorem dX3_init_62 : decode cX3_init 62 = .ok (.putfield 30, 3) := by decide +kernel
theorem dX3_init_65 : decode cX3_init 65 = .ok (.aload_n 0, 1) := by decide +kernel
theorem dX3_init_66 : decode cX3_init 66 = .ok (.bipush 41, 2) := by decide +kernel
theorem dX3_init_68 : decode cX3_init 68 = .ok (.newarray .int, 2) := by decide +kernel
theorem dX3_init_70 : decode cX3_init 70 = .ok (.putfield 33, 3) := by decide +kernel
theorem dX3_init_73 : decode cX3_init 73 = .ok (.aload_n 0, 1) := by decide +kernel
theorem dX3_init_74 : decode cX3_init 74 = .ok (.bipush 41, 2) := by decide +kernel
theorem dX3_init_76 : decode cX3_init 76 = .ok (.newarray .int, 2) := by decide +kernel
theorem dX3_init_78 : decode cX3_init 78 = .ok (.putfield 36, 3) := by decide +kernel
theorem dX3_init_81 : decode cX3_init 81 = .ok (.aload_n 0, 1) := by decide +kernel
theorem dX3_init_82 : decode cX3_init 82 = .ok (.bipush 41, 2) := by decide +kernel
theorem dX3_init_84 : decode cX3_init 84 = .ok (.newarray .int, 2) := by decide +kernel
theorem dX3_init_86 : decode cX3_init 86 = .ok (.putfield 39, 3) := by decide +kernel
theorem dX3_init_89 : decode cX3_init 89 = .ok (.aload_n 0, 1) := by decide +kernel
theorem dX3_init_90 : decode cX3_init 90 = .ok (.bipush 120, 2) := by decide +kernel
theorem dX3_init_92 : decode cX3_init 92 = .ok (.newarray .int, 2) := by decide +kernel
theorem dX3_init_94 : decode cX3_init 94 = .ok (.putfield 42, 3) := by decide +kernel
theorem dX3_init_97 : decode cX3_init 97 = .ok (.aload_n 0, 1) := by decide +kernel
theorem dX3_init_98 : decode cX3_init 98 = .ok (.aload_n 1, 1) := by decide +kernel
theorem dX3_init_99 : decode cX3_init 99 = .ok (.putfield 45, 3) := by decide +kernel
theorem dX3_init_102 : decode cX3_init 102 = .ok (.aload_n 0, 1) := by decide +kernel
theorem dX3_init_103 : decode cX3_init 103 = .ok (.aload_n 2, 1) := by decide +kernel
theorem dX3_init_104 : decode cX3_init 104 = .ok (.putfield 49, 3) := by decide +kernel
theorem dX3_init_107 : decode cX3_init 107 = .ok (.aload_n 0, 1) := by decide +kernel
theorem dX3_init_108 : decode cX3_init 108 = .ok (.aload_n 3, 1) := by decide +kernel
theorem dX3_init_109 : decode cX3_init 109 = .ok (.putfield 53, 3) := by decide +kernel
theorem dX3_init_112 : decode cX3_init 112 = .ok (.return_, 1) := by decide +kernel
theorem dX3_meansAt_0 : decode cX3_meansAt 0 = .ok (.aload_n 0, 1) := by decide +kernel
theorem dX3_meansAt_1 : decode cX3_meansAt 1 = .ok (.getfield 18, 3) := by decide +kernel
theorem dX3_meansAt_4 : decode cX3_meansAt 4 = .ok (.iload_n 1, 1) := by decide +kernel
theorem dX3_meansAt_5 : decode cX3_meansAt 5 = .ok (.invokestatic 57, 3) := by decide +kernel
theorem dX3_meansAt_8 : decode cX3_meansAt 8 = .ok (.ireturn, 1) := by decide +kernel
theorem dX3_firstSlot_0 : decode cX3_firstSlot 0 = .ok (.iload_n 1, 1) := by decide +kernel
theorem dX3_firstSlot_1 : decode cX3_firstSlot 1 = .ok (.ifCond .ne 7, 3) := by decide +kernel
theorem dX3_firstSlot_4 : decode cX3_firstSlot 4 = .ok (.iconst 0, 1) := by decide +kernel
theorem dX3_firstSlot_5 : decode cX3_firstSlot 5 = .ok (.goto 12, 3) := by decide +kernel
theorem dX3_firstSlot_17 : decode cX3_firstSlot 17 = .ok (.ireturn, 1) := by decide +kernel
theorem dX3_keep_0 : decode cX3_keep 0 = .ok (.aload_n 0, 1) := by decide +kernel
theorem dX3_keep_1 : decode cX3_keep 1 = .ok (.getfield 45, 3) := by decide +kernel
theorem dX3_keep_4 : decode cX3_keep 4 = .ok (.getfield 89, 3) := by decide +kernel
theorem dX3_keep_7 : decode cX3_keep 7 = .ok (.ifCond .ne 28, 3) := by decide +kernel
theorem dX3_keep_10 : decode cX3_keep 10 = .ok (.aload_n 0, 1) := by decide +kernel
theorem dX3_keep_11 : decode cX3_keep 11 = .ok (.getfield 49, 3) := by decide +kernel
theorem dX3_keep_14 : decode cX3_keep 14 = .ok (.getfield 94, 3) := by decide +kernel
theorem dX3_keep_17 : decode cX3_keep 17 = .ok (.iload_n 1, 1) := by decide +kernel
theorem dX3_keep_18 : decode cX3_keep 18 = .ok (.isub, 1) := by decide +kernel
theorem dX3_keep_19 : decode cX3_keep 19 = .ok (.bipush 64, 2) := by decide +kernel
theorem dX3_keep_21 : decode cX3_keep 21 = .ok (.iconst 4, 1) := by decide +kernel
theorem dX3_keep_22 : decode cX3_keep 22 = .ok (.aload_n 0, 1) := by decide +kernel
theorem dX3_keep_23 : decode cX3_keep 23 = .ok (.getfield 49, 3) := by decide +kernel
theorem dX3_keep_26 : decode cX3_keep 26 = .ok (.iload_n 2, 1) := by decide +kernel
theorem dX3_keep_27 : decode cX3_keep 27 = .ok (.invokevirtual 99, 3) := by decide +kernel
theorem dX3_keep_30 : decode cX3_keep 30 = .ok (.imul, 1) := by decide +kernel
theorem dX3_keep_31 : decode cX3_keep 31 = .ok (.iadd, 1) := by decide +kernel
theorem dX3_keep_32 : decode cX3_keep 32 = .ok (.if_icmp .ge 5, 3) := by decide +kernel
theorem dX3_keep_35 : decode cX3_keep 35 = .ok (.iload_n 2, 1) := by decide +kernel
theorem dX3_keep_36 : decode cX3_keep 36 = .ok (.ireturn, 1) := by decide +kernel
theorem dX3_pack_0 : decode cX3_pack 0 = .ok (.aload_n 0, 1) := by decide +kernel
theorem dX3_pack_1 : decode cX3_pack 1 = .ok (.getfield 49, 3) := by decide +kernel
theorem dX3_pack_4 : decode cX3_pack 4 = .ok (.iload_n 1, 1) := by decide +kernel
theorem dX3_pack_5 : decode cX3_pack 5 = .ok (.invokevirtual 106, 3) := by decide +kernel
theorem dX3_pack_8 : decode cX3_pack 8 = .ok (.aload_n 0, 1) := by decide +kernel
theorem dX3_pack_9 : decode cX3_pack 9 = .ok (.getfield 49, 3) := by decide +kernel
theorem dX3_pack_12 : decode cX3_pack 12 = .ok (.iload_n 2, 1) := by decide +kernel
theorem dX3_pack_13 : decode cX3_pack 13 = .ok (.invokevirtual 110, 3) := by decide +kernel
theorem dX3_pack_16 : decode cX3_pack 16 = .ok (.istore_n 3, 1) := by decide +kernel
theorem dX3_pack_17 : decode cX3_pack 17 = .ok (.iconst 0, 1) := by decide +kernel
theorem dX3_pack_18 : decode cX3_pack 18 = .ok (.istore 4, 2) := by decide +kernel
theorem dX3_pack_20 : decode cX3_pack 20 = .ok (.iload 4, 2) := by decide +kernel
theorem dX3_pack_22 : decode cX3_pack 22 = .ok (.aload_n 0, 1) := by decide +kernel
theorem dX3_pack_23 : decode cX3_pack 23 = .ok (.getfield 76, 3) := by decide +kernel
theorem dX3_pack_26 : decode cX3_pack 26 = .ok (.if_icmp .gt 83, 3) := by decide +kernel
theorem dX3_pack_29 : decode cX3_pack 29 = .ok (.aload_n 0, 1) := by decide +kernel
theorem dX3_pack_30 : decode cX3_pack 30 = .ok (.iload 4, 2) := by decide +kernel
theorem dX3_pack_32 : decode cX3_pack 32 = .ok (.invokevirtual 61, 3) := by decide +kernel
theorem dX3_pack_35 : decode cX3_pack 35 = .ok (.istore 5, 2) := by decide +kernel
theorem dX3_pack_37 : decode cX3_pack 37 = .ok (.iload 5, 2) := by decide +kernel
theorem dX3_pack_39 : decode cX3_pack 39 = .ok (.aload_n 0, 1) := by decide +kernel
theorem dX3_pack_40 : decode cX3_pack 40 = .ok (.getfield 27, 3) := by decide +kernel
theorem dX3_pack_43 : decode cX3_pack 43 = .ok (.iload 4, 2) := by decide +kernel
theorem dX3_pack_45 : decode cX3_pack 45 = .ok (.invokestatic 57, 3) := by decide +kernel
theorem dX3_pack_48 : decode cX3_pack 48 = .ok (.iadd, 1) := by decide +kernel
theorem dX3_pack_49 : decode cX3_pack 49 = .ok (.istore 6, 2) := by decide +kernel
theorem dX3_pack_51 : decode cX3_pack 51 = .ok (.iload 5, 2) := by decide +kernel
theorem dX3_pack_53 : decode cX3_pack 53 = .ok (.istore 7, 2) := by decide +kernel
theorem dX3_pack_55 : decode cX3_pack 55 = .ok (.iload 7, 2) := by decide +kernel
theorem dX3_pack_57 : decode cX3_pack 57 = .ok (.iload 6, 2) := by decide +kernel
theorem dX3_pack_59 : decode cX3_pack 59 = .ok (.if_icmp .ge 44, 3) := by decide +kernel
theorem dX3_pack_103 : decode cX3_pack 103 = .ok (.iinc 4 1, 3) := by decide +kernel
theorem dX3_pack_106 : decode cX3_pack 106 = .ok (.goto (-86), 3) := by decide +kernel
theorem dX3_pack_109 : decode cX3_pack 109 = .ok (.aload_n 0, 1) := by decide +kernel
theorem dX3_pack_110 : decode cX3_pack 110 = .ok (.getfield 53, 3) := by decide +kernel
theorem dX3_pack_113 : decode cX3_pack 113 = .ok (.iload_n 1, 1) := by decide +kernel
theorem dX3_pack_114 : decode cX3_pack 114 = .ok (.invokevirtual 113, 3) := by decide +kernel
theorem dX3_pack_117 : decode cX3_pack 117 = .ok (.aload_n 0, 1) := by decide +kernel
theorem dX3_pack_118 : decode cX3_pack 118 = .ok (.getfield 49, 3) := by decide +kernel
theorem dX3_pack_121 : decode cX3_pack 121 = .ok (.invokevirtual 118, 3) := by decide +kernel
theorem dX3_pack_124 : decode cX3_pack 124 = .ok (.iload_n 3, 1) := by decide +kernel
theorem dX3_pack_125 : decode cX3_pack 125 = .ok (.ireturn, 1) := by decide +kernel
theorem dX4_init_0 : decode cX4_init 0 = .ok (.aload_n 0, 1) := by decide +kernel
theorem dX4_init_1 : decode cX4_init 1 = .ok (.invokespecial 3, 3) := by decide +kernel
theorem dX4_init_4 : decode cX4_init 4 = .ok (.aload_n 0, 1) := by decide +kernel
theorem dX4_init_5 : decode cX4_init 5 = .ok (.sipush 1000, 3) := by decide +kernel
theorem dX4_init_8 : decode cX4_init 8 = .ok (.newarray .int, 2) := by decide +kernel
theorem dX4_init_10 : decode cX4_init 10 = .ok (.putfield 9, 3) := by decide +kernel
theorem dX4_init_13 : decode cX4_init 13 = .ok (.aload_n 0, 1) := by decide +kernel
theorem dX4_init_14 : decode cX4_init 14 = .ok (.aload_n 1, 1) := by decide +kernel
theorem dX4_init_15 : decode cX4_init 15 = .ok (.putfield 15, 3) := by decide +kernel
theorem dX4_init_18 : decode cX4_init 18 = .ok (.aload_n 0, 1) := by decide +kernel
theorem dX4_init_19 : decode cX4_init 19 = .ok (.aload_n 2, 1) := by decide +kernel
theorem dX4_init_20 : decode cX4_init 20 = .ok (.putfield 19, 3) := by decide +kernel
theorem dX4_init_23 : decode cX4_init 23 = .ok (.aload_n 0, 1) := by decide +kernel
theorem dX4_init_24 : decode cX4_init 24 = .ok (.aload_n 3, 1) := by decide +kernel
theorem dX4_init_25 : decode cX4_init 25 = .ok (.putfield 23, 3) := by decide +kernel
theorem dX4_init_28 : decode cX4_init 28 = .ok (.aload_n 0, 1) := by decide +kernel
theorem dX4_init_29 : decode cX4_init 29 = .ok (.aload 4, 2) := by decide +kernel
theorem dX4_init_31 : decode cX4_init 31 = .ok (.putfield 27, 3) := by decide +kernel
theorem dX4_init_34 : decode cX4_init 34 = .ok (.aload_n 0, 1) := by decide +kernel
theorem dX4_init_35 : decode cX4_init 35 = .ok (.aload 5, 2) := by decide +kernel
theorem dX4_init_37 : decode cX4_init 37 = .ok (.putfield 31, 3) := by decide +kernel
theorem dX4_init_40 : decode cX4_init 40 = .ok (.aload_n 0, 1) := by decide +kernel
theorem dX4_init_41 : decode cX4_init 41 = .ok (.aload 6, 2) := by decide +kernel
theorem dX4_init_43 : decode cX4_init 43 = .ok (.putfield 35, 3) := by decide +kernel
theorem dX4_init_46 : decode cX4_init 46 = .ok (.aload_n 0, 1) := by decide +kernel
theorem dX4_init_47 : decode cX4_init 47 = .ok (.new 39, 3) := by decide +kernel
theorem dX4_init_50 : decode cX4_init 50 = .ok (.dup, 1) := by decide +kernel
theorem dX4_init_51 : decode cX4_init 51 = .ok (.aload_n 1, 1) := by decide +kernel
theorem dX4_init_52 : decode cX4_init 52 = .ok (.aload_n 2, 1) := by decide +kernel
theorem dX4_init_53 : decode cX4_init 53 = .ok (.invokespecial 41, 3) := by decide +kernel
theorem dX4_init_56 : decode cX4_init 56 = .ok (.putfield 44, 3) := by decide +kernel
theorem dX4_init_59 : decode cX4_init 59 = .ok (.aload_n 0, 1) := by decide +kernel
theorem dX4_init_60 : decode cX4_init 60 = .ok (.new 48, 3) := by decide +kernel
theorem dX4_init_63 : decode cX4_init 63 = .ok (.dup, 1) := by decide +kernel
theorem dX4_init_64 : decode cX4_init 64 = .ok (.aload_n 1, 1) := by decide +kernel
theorem dX4_init_65 : decode cX4_init 65 = .ok (.aload_n 2, 1) := by decide +kernel
theorem dX4_init_66 : decode cX4_init 66 = .ok (.aload_n 0, 1) := by decide +kernel
theorem dX4_init_67 : decode cX4_init 67 = .ok (.getfield 44, 3) := by decide +kernel
theorem dX4_init_70 : decode cX4_init 70 = .ok (.invokespecial 50, 3) := by decide +kernel
theorem dX4_init_73 : decode cX4_init 73 = .ok (.putfield 53, 3) := by decide +kernel
theorem dX4_init_76 : decode cX4_init 76 = .ok (.return_, 1) := by decide +kernel
theorem dX4_houseBytes_0 : decode cX4_houseBytes 0 = .ok (.iconst 0, 1) := by decide +kernel
theorem dX4_houseBytes_1 : decode cX4_houseBytes 1 = .ok (.istore_n 1, 1) := by decide +kernel
theorem dX4_houseBytes_2 : decode cX4_houseBytes 2 = .ok (.iconst 0, 1) := by decide +kernel
theorem dX4_houseBytes_3 : decode cX4_houseBytes 3 = .ok (.istore_n 2, 1) := by decide +kernel
theorem dX4_houseBytes_4 : decode cX4_houseBytes 4 = .ok (.iload_n 2, 1) := by decide +kernel
theorem dX4_houseBytes_5 : decode cX4_houseBytes 5 = .ok (.bipush 60, 2) := by decide +kernel
theorem dX4_houseBytes_7 : decode cX4_houseBytes 7 = .ok (.if_icmp .ge 29, 3) := by decide +kernel
theorem dX4_houseBytes_10 : decode cX4_houseBytes 10 = .ok (.aload_n 0, 1) := by decide +kernel
theorem dX4_houseBytes_11 : decode cX4_houseBytes 11 = .ok (.getfield 27, 3) := by decide +kernel
theorem dX4_houseBytes_14 : decode cX4_houseBytes 14 = .ok (.iload_n 2, 1) := by decide +kernel
theorem dX4_houseBytes_15 : decode cX4_houseBytes 15 = .ok (.invokevirtual 215, 3) := by decide +kernel
theorem dX4_houseBytes_18 : decode cX4_houseBytes 18 = .ok (.iconst 2, 1) := by decide +kernel
theorem dX4_houseBytes_19 : decode cX4_houseBytes 19 = .ok (.if_icmp .ne 11, 3) := by decide +kernel
theorem dX4_houseBytes_30 : decode cX4_houseBytes 30 = .ok (.iinc 2 1, 3) := by decide +kernel
theorem dX4_houseBytes_33 : decode cX4_houseBytes 33 = .ok (.goto (-29), 3) := by decide +kernel
theorem dX4_houseBytes_36 : decode cX4_houseBytes 36 = .ok (.iload_n 1, 1) := by decide +kernel
theorem dX4_houseBytes_37 : decode cX4_houseBytes 37 = .ok (.ireturn, 1) := by decide +kernel
theorem dX5_init_0 : decode cX5_init 0 = .ok (.aload_n 0, 1) := by decide +kernel
theorem dX5_init_1 : decode cX5_init 1 = .ok (.invokespecial 3, 3) := by decide +kernel
theorem dX5_init_4 : decode cX5_init 4 = .ok (.aload_n 0, 1) := by decide +kernel
theorem dX5_init_5 : decode cX5_init 5 = .ok (.aload_n 1, 1) := by decide +kernel
theorem dX5_init_6 : decode cX5_init 6 = .ok (.putfield 9, 3) := by decide +kernel
theorem dX5_init_9 : decode cX5_init 9 = .ok (.aload_n 0, 1) := by decide +kernel
theorem dX5_init_10 : decode cX5_init 10 = .ok (.aload_n 2, 1) := by decide +kernel
theorem dX5_init_11 : decode cX5_init 11 = .ok (.putfield 15, 3) := by decide +kernel
theorem dX5_init_14 : decode cX5_init 14 = .ok (.return_, 1) := by decide +kernel
theorem dX6_init_0 : decode cX6_init 0 = .ok (.aload_n 0, 1) := by decide +kernel
theorem dX6_init_1 : decode cX6_init 1 = .ok (.invokespecial 3, 3) := by decide +kernel
theorem dX6_init_4 : decode cX6_init 4 = .ok (.aload_n 0, 1) := by decide +kernel
theorem dX6_init_5 : decode cX6_init 5 = .ok (.sipush 1000, 3) := by decide +kernel
theorem dX6_init_8 : decode cX6_init 8 = .ok (.newarray .int, 2) := by decide +kernel
theorem dX6_init_10 : decode cX6_init 10 = .ok (.putfield 9, 3) := by decide +kernel
theorem dX6_init_13 : decode cX6_init 13 = .ok (.aload_n 0, 1) := by decide +kernel
theorem dX6_init_14 : decode cX6_init 14 = .ok (.bipush 6, 2) := by decide +kernel
theorem dX6_init_16 : decode cX6_init 16 = .ok (.newarray .int, 2) := by decide +kernel
theorem dX6_init_18 : decode cX6_init 18 = .ok (.putfield 15, 3) := by decide +kernel
theorem dX6_init_21 : decode cX6_init 21 = .ok (.aload_n 0, 1) := by decide +kernel
theorem dX6_init_22 : decode cX6_init 22 = .ok (.bipush 6, 2) := by decide +kernel
theorem dX6_init_24 : decode cX6_init 24 = .ok (.newarray .int, 2) := by decide +kernel
theorem dX6_init_26 : decode cX6_init 26 = .ok (.putfield 18, 3) := by decide +kernel
theorem dX6_init_29 : decode cX6_init 29 = .ok (.aload_n 0, 1) := by decide +kernel
theorem dX6_init_30 : decode cX6_init 30 = .ok (.aload_n 1, 1) := by decide +kernel
theorem dX6_init_31 : decode cX6_init 31 = .ok (.putfield 21, 3) := by decide +kernel
theorem dX6_init_34 : decode cX6_init 34 = .ok (.aload_n 0, 1) := by decide +kernel
theorem dX6_init_35 : decode cX6_init 35 = .ok (.aload_n 2, 1) := by decide +kernel
theorem dX6_init_36 : decode cX6_init 36 = .ok (.putfield 25, 3) := by decide +kernel
theorem dX6_init_39 : decode cX6_init 39 = .ok (.return_, 1) := by decide +kernel
theorem dX7_init_0 : decode cX7_init 0 = .ok (.aload_n 0, 1) := by decide +kernel
theorem dX7_init_1 : decode cX7_init 1 = .ok (.invokespecial 3, 3) := by decide +kernel
theorem dX7_init_4 : decode cX7_init 4 = .ok (.aload_n 0, 1) := by decide +kernel
theorem dX7_init_5 : decode cX7_init 5 = .ok (.iconst 1, 1) := by decide +kernel
theorem dX7_init_6 : decode cX7_init 6 = .ok (.putfield 9, 3) := by decide +kernel
theorem dX7_init_9 : decode cX7_init 9 = .ok (.aload_n 0, 1) := by decide +kernel
theorem dX7_init_10 : decode cX7_init 10 = .ok (.iconst 1, 1) := by decide +kernel
theorem dX7_init_11 : decode cX7_init 11 = .ok (.putfield 15, 3) := by decide +kernel
theorem dX7_init_14 : decode cX7_init 14 = .ok (.return_, 1) := by decide +kernel
theorem dX7_begin_0 : decode cX7_begin 0 = .ok (.aload_n 0, 1) := by decide +kernel
theorem dX7_begin_1 : decode cX7_begin 1 = .ok (.iconst 0, 1) := by decide +kernel
theorem dX7_begin_2 : decode cX7_begin 2 = .ok (.putfield 18, 3) := by decide +kernel
theorem dX7_begin_5 : decode cX7_begin 5 = .ok (.aload_n 0, 1) := by decide +kernel
theorem dX7_begin_6 : decode cX7_begin 6 = .ok (.iconst 0, 1) := by decide +kernel
theorem dX7_begin_7 : decode cX7_begin 7 = .ok (.putfield 21, 3) := by decide +kernel
theorem dX7_begin_10 : decode cX7_begin 10 = .ok (.aload_n 0, 1) := by decide +kernel
theorem dX7_begin_11 : decode cX7_begin 11 = .ok (.iconst 0, 1) := by decide +kernel
theorem dX7_begin_12 : decode cX7_begin 12 = .ok (.putfield 24, 3) := by decide +kernel
theorem dX7_begin_15 : decode cX7_begin 15 = .ok (.return_, 1) := by decide +kernel
theorem dX8_init_0 : decode cX8_init 0 = .ok (.aload_n 0, 1) := by decide +kernel
theorem dX8_init_1 : decode cX8_init 1 = .ok (.invokespecial 3, 3) := by decide +kernel
theorem dX8_init_4 : decode cX8_init 4 = .ok (.aload_n 0, 1) := by decide +kernel
theorem dX8_init_5 : decode cX8_init 5 = .ok (.sipush 6000, 3) := by decide +kernel
theorem dX8_init_8 : decode cX8_init 8 = .ok (.newarray .byte, 2) := by decide +kernel
theorem dX8_init_10 : decode cX8_init 10 = .ok (.putfield 9, 3) := by decide +kernel
theorem dX8_init_13 : decode cX8_init 13 = .ok (.aload_n 0, 1) := by decide +kernel
theorem dX8_init_14 : decode cX8_init 14 = .ok (.sipush 1024, 3) := by decide +kernel
theorem dX8_init_17 : decode cX8_init 17 = .ok (.newarray .byte, 2) := by decide +kernel
theorem dX8_init_19 : decode cX8_init 19 = .ok (.putfield 15, 3) := by decide +kernel
theorem dX8_init_22 : decode cX8_init 22 = .ok (.aload_n 0, 1) := by decide +kernel
theorem dX8_init_23 : decode cX8_init 23 = .ok (.sipush 1024, 3) := by decide +kernel
theorem dX8_init_26 : decode cX8_init 26 = .ok (.newarray .int, 2) := by decide +kernel
theorem dX8_init_28 : decode cX8_init 28 = .ok (.putfield 18, 3) := by decide +kernel
theorem dX8_init_31 : decode cX8_init 31 = .ok (.aload_n 0, 1) := by decide +kernel
theorem dX8_init_32 : decode cX8_init 32 = .ok (.iconst (-1), 1) := by decide +kernel
theorem dX8_init_33 : decode cX8_init 33 = .ok (.putfield 22, 3) := by decide +kernel
theorem dX8_init_36 : decode cX8_init 36 = .ok (.return_, 1) := by decide +kernel
theorem dX8_scan_0 : decode cX8_scan 0 = .ok (.aload_n 0, 1) := by decide +kernel
theorem dX8_scan_1 : decode cX8_scan 1 = .ok (.iconst (-1), 1) := by decide +kernel
theorem dX8_scan_2 : decode cX8_scan 2 = .ok (.putfield 49, 3) := by decide +kernel
theorem dX8_scan_5 : decode cX8_scan 5 = .ok (.iload_n 1, 1) := by decide +kernel
theorem dX8_scan_6 : decode cX8_scan 6 = .ok (.istore_n 2, 1) := by decide +kernel
theorem dX8_scan_7 : decode cX8_scan 7 = .ok (.iload_n 2, 1) := by decide +kernel
theorem dX8_scan_8 : decode cX8_scan 8 = .ok (.aload_n 0, 1) := by decide +kernel
theorem dX8_scan_9 : decode cX8_scan 9 = .ok (.getfield 26, 3) := by decide +kernel
theorem dX8_scan_12 : decode cX8_scan 12 = .ok (.if_icmp .ge 116, 3) := by decide +kernel
theorem dX8_scan_128 : decode cX8_scan 128 = .ok (.aload_n 0, 1) := by decide +kernel
theorem dX8_scan_129 : decode cX8_scan 129 = .ok (.getfield 49, 3) := by decide +kernel
theorem dX8_scan_132 : decode cX8_scan 132 = .ok (.iconst (-1), 1) := by decide +kernel
theorem dX8_scan_133 : decode cX8_scan 133 = .ok (.if_icmp .ne 7, 3) := by decide +kernel
theorem dX8_scan_136 : decode cX8_scan 136 = .ok (.iconst (-1), 1) := by decide +kernel
theorem dX8_scan_137 : decode cX8_scan 137 = .ok (.goto 12, 3) := by decide +kernel
theorem dX8_scan_149 : decode cX8_scan 149 = .ok (.ireturn, 1) := by decide +kernel
theorem dX8_statementEnd_0 : decode cX8_statementEnd 0 = .ok (.aload_n 0, 1) := by decide +kernel
theorem dX8_statementEnd_1 : decode cX8_statementEnd 1 = .ok (.bipush 10, 2) := by decide +kernel
theorem dX8_statementEnd_3 : decode cX8_statementEnd 3 = .ok (.bipush 11, 2) := by decide +kernel
theorem dX8_statementEnd_5 : decode cX8_statementEnd 5 = .ok (.iload_n 1, 1) := by decide +kernel
theorem dX8_statementEnd_6 : decode cX8_statementEnd 6 = .ok (.iload_n 2, 1) := by decide +kernel
theorem dX8_statementEnd_7 : decode cX8_statementEnd 7 = .ok (.invokevirtual 151, 3) := by decide +kernel
theorem dX8_statementEnd_10 : decode cX8_statementEnd 10 = .ok (.ireturn, 1) := by decide +kernel
theorem dX8_firstOf_0 : decode cX8_firstOf 0 = .ok (.iload_n 3, 1) := by decide +kernel
theorem dX8_firstOf_1 : decode cX8_firstOf 1 = .ok (.istore 5, 2) := by decide +kernel
theorem dX8_firstOf_3 : decode cX8_firstOf 3 = .ok (.iload 5, 2) := by decide +kernel
theorem dX8_firstOf_5 : decode cX8_firstOf 5 = .ok (.iload 4, 2) := by decide +kernel
theorem dX8_firstOf_7 : decode cX8_firstOf 7 = .ok (.if_icmp .ge 65, 3) := by decide +kernel
theorem dX8_firstOf_72 : decode cX8_firstOf 72 = .ok (.iload 4, 2) := by decide +kernel
theorem dX8_firstOf_74 : decode cX8_firstOf 74 = .ok (.ireturn, 1) := by decide +kernel
theorem dX8_unmake_0 : decode cX8_unmake 0 = .ok (.aload_n 0, 1) := by decide +kernel
theorem dX8_unmake_1 : decode cX8_unmake 1 = .ok (.getfield 35, 3) := by decide +kernel
theorem dX8_unmake_4 : decode cX8_unmake 4 = .ok (.istore_n 2, 1) := by decide +kernel
theorem dX8_unmake_5 : decode cX8_unmake 5 = .ok (.iload_n 2, 1) := by decide +kernel
theorem dX8_unmake_6 : decode cX8_unmake 6 = .ok (.ifCond .le 54, 3) := by decide +kernel
theorem dX8_unmake_60 : decode cX8_unmake 60 = .ok (.return_, 1) := by decide +kernel
theorem dX9_init_0 : decode cX9_init 0 = .ok (.aload_n 0, 1) := by decide +kernel
theorem dX9_init_1 : decode cX9_init 1 = .ok (.invokespecial 3, 3) := by decide +kernel
theorem dX9_init_4 : decode cX9_init 4 = .ok (.aload_n 0, 1) := by decide +kernel
theorem dX9_init_5 : decode cX9_init 5 = .ok (.aload_n 1, 1) := by decide +kernel
theorem dX9_init_6 : decode cX9_init 6 = .ok (.putfield 9, 3) := by decide +kernel
theorem dX9_init_9 : decode cX9_init 9 = .ok (.aload_n 0, 1) := by decide +kernel
theorem dX9_init_10 : decode cX9_init 10 = .ok (.iconst 0, 1) := by decide +kernel
theorem dX9_init_11 : decode cX9_init 11 = .ok (.iload_n 2, 1) := by decide +kernel
theorem dX9_init_12 : decode cX9_init 12 = .ok (.invokestatic 15, 3) := by decide +kernel
theorem dX9_init_15 : decode cX9_init 15 = .ok (.newarray .byte, 2) := by decide +kernel
theorem dX9_init_17 : decode cX9_init 17 = .ok (.putfield 21, 3) := by decide +kernel
theorem dX9_init_20 : decode cX9_init 20 = .ok (.return_, 1) := by decide +kernel
theorem dX10_init_0 : decode cX10_init 0 = .ok (.aload_n 0, 1) := by decide +kernel
theorem dX10_init_1 : decode cX10_init 1 = .ok (.invokespecial 1, 3) := by decide +kernel
theorem dX10_init_4 : decode cX10_init 4 = .ok (.aload_n 0, 1) := by decide +kernel
theorem dX10_init_5 : decode cX10_init 5 = .ok (.new 7, 3) := by decide +kernel
theorem dX10_init_8 : decode cX10_init 8 = .ok (.dup, 1) := by decide +kernel
theorem dX10_init_9 : decode cX10_init 9 = .ok (.invokespecial 9, 3) := by decide +kernel
theorem dX10_init_12 : decode cX10_init 12 = .ok (.putfield 10, 3) := by decide +kernel
theorem dX10_init_15 : decode cX10_init 15 = .ok (.aload_n 0, 1) := by decide +kernel
theorem dX10_init_16 : decode cX10_init 16 = .ok (.new 16, 3) := by decide +kernel
theorem dX10_init_19 : decode cX10_init 19 = .ok (.dup, 1) := by decide +kernel
theorem dX10_init_20 : decode cX10_init 20 = .ok (.aload_n 0, 1) := by decide +kernel
theorem dX10_init_21 : decode cX10_init 21 = .ok (.getfield 10, 3) := by decide +kernel
theorem dX10_init_24 : decode cX10_init 24 = .ok (.invokespecial 18, 3) := by decide +kernel
theorem dX10_init_27 : decode cX10_init 27 = .ok (.putfield 21, 3) := by decide +kernel
theorem dX10_init_30 : decode cX10_init 30 = .ok (.aload_n 0, 1) := by decide +kernel
theorem dX10_init_31 : decode cX10_init 31 = .ok (.new 25, 3) := by decide +kernel
theorem dX10_init_34 : decode cX10_init 34 = .ok (.dup, 1) := by decide +kernel
theorem dX10_init_35 : decode cX10_init 35 = .ok (.invokespecial 27, 3) := by decide +kernel
theorem dX10_init_38 : decode cX10_init 38 = .ok (.putfield 28, 3) := by decide +kernel
theorem dX10_init_41 : decode cX10_init 41 = .ok (.aload_n 0, 1) := by decide +kernel
theorem dX10_init_42 : decode cX10_init 42 = .ok (.new 32, 3) := by decide +kernel
theorem dX10_init_45 : decode cX10_init 45 = .ok (.dup, 1) := by decide +kernel
theorem dX10_init_46 : decode cX10_init 46 = .ok (.aload_n 0, 1) := by decide +kernel
theorem dX10_init_47 : decode cX10_init 47 = .ok (.getfield 10, 3) := by decide +kernel
theorem dX10_init_50 : decode cX10_init 50 = .ok (.aload_n 0, 1) := by decide +kernel
theorem dX10_init_51 : decode cX10_init 51 = .ok (.getfield 21, 3) := by decide +kernel
theorem dX10_init_54 : decode cX10_init 54 = .ok (.aload_n 0, 1) := by decide +kernel
theorem dX10_init_55 : decode cX10_init 55 = .ok (.getfield 28, 3) := by decide +kernel
theorem dX10_init_58 : decode cX10_init 58 = .ok (.invokespecial 34, 3) := by decide +kernel
theorem dX10_init_61 : decode cX10_init 61 = .ok (.putfield 37, 3) := by decide +kernel
theorem dX10_init_64 : decode cX10_init 64 = .ok (.aload_n 0, 1) := by decide +kernel
theorem dX10_init_65 : decode cX10_init 65 = .ok (.new 41, 3) := by decide +kernel
theorem dX10_init_68 : decode cX10_init 68 = .ok (.dup, 1) := by decide +kernel
theorem dX10_init_69 : decode cX10_init 69 = .ok (.aload_n 0, 1) := by decide +kernel
theorem dX10_init_70 : decode cX10_init 70 = .ok (.getfield 21, 3) := by decide +kernel
theorem dX10_init_73 : decode cX10_init 73 = .ok (.sipush 8000, 3) := by decide +kernel
theorem dX10_init_76 : decode cX10_init 76 = .ok (.invokespecial 43, 3) := by decide +kernel
theorem dX10_init_79 : decode cX10_init 79 = .ok (.putfield 46, 3) := by decide +kernel
theorem dX10_init_82 : decode cX10_init 82 = .ok (.aload_n 0, 1) := by decide +kernel
theorem dX10_init_83 : decode cX10_init 83 = .ok (.sipush 4000, 3) := by decide +kernel
theorem dX10_init_86 : decode cX10_init 86 = .ok (.newarray .byte, 2) := by decide +kernel
theorem dX10_init_88 : decode cX10_init 88 = .ok (.putfield 50, 3) := by decide +kernel
theorem dX10_init_91 : decode cX10_init 91 = .ok (.aload_n 0, 1) := by decide +kernel
theorem dX10_init_92 : decode cX10_init 92 = .ok (.bipush 10, 2) := by decide +kernel
theorem dX10_init_94 : decode cX10_init 94 = .ok (.newarray .int, 2) := by decide +kernel
theorem dX10_init_96 : decode cX10_init 96 = .ok (.putfield 54, 3) := by decide +kernel
theorem dX10_init_99 : decode cX10_init 99 = .ok (.aload_n 0, 1) := by decide +kernel
theorem dX10_init_100 : decode cX10_init 100 = .ok (.iconst (-1), 1) := by decide +kernel
theorem dX10_init_101 : decode cX10_init 101 = .ok (.putfield 58, 3) := by decide +kernel
theorem dX10_init_104 : decode cX10_init 104 = .ok (.new 62, 3) := by decide +kernel
theorem dX10_init_107 : decode cX10_init 107 = .ok (.dup, 1) := by decide +kernel
theorem dX10_init_108 : decode cX10_init 108 = .ok (.aload_n 0, 1) := by decide +kernel
theorem dX10_init_109 : decode cX10_init 109 = .ok (.getfield 10, 3) := by decide +kernel
theorem dX10_init_112 : decode cX10_init 112 = .ok (.aload_n 0, 1) := by decide +kernel
theorem dX10_init_113 : decode cX10_init 113 = .ok (.getfield 21, 3) := by decide +kernel
theorem dX10_init_116 : decode cX10_init 116 = .ok (.invokespecial 64, 3) := by decide +kernel
theorem dX10_init_119 : decode cX10_init 119 = .ok (.astore_n 1, 1) := by decide +kernel
theorem dX10_init_120 : decode cX10_init 120 = .ok (.new 67, 3) := by decide +kernel
theorem dX10_init_123 : decode cX10_init 123 = .ok (.dup, 1) := by decide +kernel
theorem dX10_init_124 : decode cX10_init 124 = .ok (.aload_n 0, 1) := by decide +kernel
theorem dX10_init_125 : decode cX10_init 125 = .ok (.getfield 10, 3) := by decide +kernel
theorem dX10_init_128 : decode cX10_init 128 = .ok (.aload_n 0, 1) := by decide +kernel
theorem dX10_init_129 : decode cX10_init 129 = .ok (.getfield 21, 3) := by decide +kernel
theorem dX10_init_132 : decode cX10_init 132 = .ok (.aload_n 0, 1) := by decide +kernel
theorem dX10_init_133 : decode cX10_init 133 = .ok (.getfield 37, 3) := by decide +kernel
theorem dX10_init_136 : decode cX10_init 136 = .ok (.aload_n 1, 1) := by decide +kernel
theorem dX10_init_137 : decode cX10_init 137 = .ok (.invokespecial 69, 3) := by decide +kernel
theorem dX10_init_140 : decode cX10_init 140 = .ok (.astore_n 2, 1) := by decide +kernel
theorem dX10_init_141 : decode cX10_init 141 = .ok (.aload_n 0, 1) := by decide +kernel
theorem dX10_init_142 : decode cX10_init 142 = .ok (.new 72, 3) := by decide +kernel
theorem dX10_init_145 : decode cX10_init 145 = .ok (.dup, 1) := by decide +kernel
theorem dX10_init_146 : decode cX10_init 146 = .ok (.aload_n 0, 1) := by decide +kernel
theorem dX10_init_147 : decode cX10_init 147 = .ok (.getfield 10, 3) := by decide +kernel
theorem dX10_init_150 : decode cX10_init 150 = .ok (.aload_n 0, 1) := by decide +kernel
theorem dX10_init_151 : decode cX10_init 151 = .ok (.getfield 21, 3) := by decide +kernel
theorem dX10_init_154 : decode cX10_init 154 = .ok (.aload_n 0, 1) := by decide +kernel
theorem dX10_init_155 : decode cX10_init 155 = .ok (.getfield 28, 3) := by decide +kernel
theorem dX10_init_158 : decode cX10_init 158 = .ok (.aload_n 0, 1) := by decide +kernel
theorem dX10_init_159 : decode cX10_init 159 = .ok (.getfield 37, 3) := by decide +kernel
theorem dX10_init_162 : decode cX10_init 162 = .ok (.aload_n 1, 1) := by decide +kernel
theorem dX10_init_163 : decode cX10_init 163 = .ok (.aload_n 2, 1) := by decide +kernel
theorem dX10_init_164 : decode cX10_init 164 = .ok (.invokespecial 74, 3) := by decide +kernel
theorem dX10_init_167 : decode cX10_init 167 = .ok (.putfield 77, 3) := by decide +kernel
theorem dX10_init_170 : decode cX10_init 170 = .ok (.aload_n 2, 1) := by decide +kernel
theorem dX10_init_171 : decode cX10_init 171 = .ok (.aload_n 0, 1) := by decide +kernel
theorem dX10_init_172 : decode cX10_init 172 = .ok (.getfield 77, 3) := by decide +kernel
theorem dX10_init_175 : decode cX10_init 175 = .ok (.putfield 81, 3) := by decide +kernel
theorem dX10_init_178 : decode cX10_init 178 = .ok (.return_, 1) := by decide +kernel
theorem dX10_feed_0 : decode cX10_feed 0 = .ok (.aload_n 0, 1) := by decide +kernel
theorem dX10_feed_1 : decode cX10_feed 1 = .ok (.getfield 82, 3) := by decide +kernel
theorem dX10_feed_4 : decode cX10_feed 4 = .ok (.sipush 3980, 3) := by decide +kernel
theorem dX10_feed_7 : decode cX10_feed 7 = .ok (.if_icmp .le 5, 3) := by decide +kernel
theorem dX10_feed_12 : decode cX10_feed 12 = .ok (.aload_n 0, 1) := by decide +kernel
theorem dX10_feed_13 : decode cX10_feed 13 = .ok (.iload_n 1, 1) := by decide +kernel
theorem dX10_feed_14 : decode cX10_feed 14 = .ok (.invokevirtual 85, 3) := by decide +kernel
theorem dX10_feed_17 : decode cX10_feed 17 = .ok (.aload_n 0, 1) := by decide +kernel
theorem dX10_feed_18 : decode cX10_feed 18 = .ok (.iload_n 2, 1) := by decide +kernel
theorem dX10_feed_19 : decode cX10_feed 19 = .ok (.invokevirtual 85, 3) := by decide +kernel
theorem dX10_feed_22 : decode cX10_feed 22 = .ok (.aload_n 0, 1) := by decide +kernel
theorem dX10_feed_23 : decode cX10_feed 23 = .ok (.iload_n 3, 1) := by decide +kernel
theorem dX10_feed_24 : decode cX10_feed 24 = .ok (.invokevirtual 85, 3) := by decide +kernel
theorem dX10_feed_27 : decode cX10_feed 27 = .ok (.aload_n 0, 1) := by decide +kernel
theorem dX10_feed_28 : decode cX10_feed 28 = .ok (.iload 4, 2) := by decide +kernel
theorem dX10_feed_30 : decode cX10_feed 30 = .ok (.invokevirtual 85, 3) := by decide +kernel
theorem dX10_feed_33 : decode cX10_feed 33 = .ok (.aload_n 0, 1) := by decide +kernel
theorem dX10_feed_34 : decode cX10_feed 34 = .ok (.iload 5, 2) := by decide +kernel
theorem dX10_feed_36 : decode cX10_feed 36 = .ok (.invokevirtual 85, 3) := by decide +kernel
theorem dX10_feed_39 : decode cX10_feed 39 = .ok (.aload_n 0, 1) := by decide +kernel
theorem dX10_feed_40 : decode cX10_feed 40 = .ok (.getfield 82, 3) := by decide +kernel
theorem dX10_feed_43 : decode cX10_feed 43 = .ok (.ireturn, 1) := by decide +kernel
theorem dX10_append_0 : decode cX10_append 0 = .ok (.bipush 24, 2) := by decide +kernel
theorem dX10_append_2 : decode cX10_append 2 = .ok (.istore_n 2, 1) := by decide +kernel
theorem dX10_append_3 : decode cX10_append 3 = .ok (.iload_n 2, 1) := by decide +kernel
theorem dX10_append_4 : decode cX10_append 4 = .ok (.ifCond .lt 48, 3) := by decide +kernel
theorem dX10_append_7 : decode cX10_append 7 = .ok (.aload_n 0, 1) := by decide +kernel
theorem dX10_append_8 : decode cX10_append 8 = .ok (.getfield 82, 3) := by decide +kernel
theorem dX10_append_11 : decode cX10_append 11 = .ok (.ifCond .lt 35, 3) := by decide +kernel
theorem dX10_append_14 : decode cX10_append 14 = .ok (.aload_n 0, 1) := by decide +kernel
theorem dX10_append_15 : decode cX10_append 15 = .ok (.getfield 82, 3) := by decide +kernel
theorem dX10_append_18 : decode cX10_append 18 = .ok (.aload_n 0, 1) := by decide +kernel
theorem dX10_append_19 : decode cX10_append 19 = .ok (.getfield 50, 3) := by decide +kernel
theorem dX10_append_22 : decode cX10_append 22 = .ok (.arraylength, 1) := by decide +kernel
theorem dX10_append_23 : decode cX10_append 23 = .ok (.if_icmp .ge 23, 3) := by decide +kernel
theorem dX10_append_26 : decode cX10_append 26 = .ok (.aload_n 0, 1) := by decide +kernel
theorem dX10_append_27 : decode cX10_append 27 = .ok (.getfield 50, 3) := by decide +kernel
theorem dX10_append_30 : decode cX10_append 30 = .ok (.aload_n 0, 1) := by decide +kernel
theorem dX10_append_31 : decode cX10_append 31 = .ok (.dup, 1) := by decide +kernel
theorem dX10_append_32 : decode cX10_append 32 = .ok (.getfield 82, 3) := by decide +kernel
theorem dX10_append_35 : decode cX10_append 35 = .ok (.dup_x1, 1) := by decide +kernel
theorem dX10_append_36 : decode cX10_append 36 = .ok (.iconst 1, 1) := by decide +kernel
theorem dX10_append_37 : decode cX10_append 37 = .ok (.iadd, 1) := by decide +kernel
theorem dX10_append_38 : decode cX10_append 38 = .ok (.putfield 82, 3) := by decide +kernel
theorem dX10_append_41 : decode cX10_append 41 = .ok (.iload_n 1, 1) := by decide +kernel
theorem dX10_append_42 : decode cX10_append 42 = .ok (.iload_n 2, 1) := by decide +kernel
theorem dX10_append_43 : decode cX10_append 43 = .ok (.ishr, 1) := by decide +kernel
theorem dX10_append_44 : decode cX10_append 44 = .ok (.i2b, 1) := by decide +kernel
theorem dX10_append_45 : decode cX10_append 45 = .ok (.bastore, 1) := by decide +kernel
theorem dX10_append_46 : decode cX10_append 46 = .ok (.iinc 2 (-8), 3) := by decide +kernel
theorem dX10_append_49 : decode cX10_append 49 = .ok (.goto (-46), 3) := by decide +kernel
theorem dX10_append_52 : decode cX10_append 52 = .ok (.return_, 1) := by decide +kernel
theorem dX10_trim_0 : decode cX10_trim 0 = .ok (.iload_n 1, 1) := by decide +kernel
theorem dX10_trim_1 : decode cX10_trim 1 = .ok (.ifCond .lt 11, 3) := by decide +kernel
theorem dX10_trim_4 : decode cX10_trim 4 = .ok (.iload_n 1, 1) := by decide +kernel
theorem dX10_trim_5 : decode cX10_trim 5 = .ok (.aload_n 0, 1) := by decide +kernel
theorem dX10_trim_6 : decode cX10_trim 6 = .ok (.getfield 82, 3) := by decide +kernel
theorem dX10_trim_9 : decode cX10_trim 9 = .ok (.if_icmp .le 5, 3) := by decide +kernel
theorem dX10_trim_12 : decode cX10_trim 12 = .ok (.iconst (-1), 1) := by decide +kernel
theorem dX10_trim_13 : decode cX10_trim 13 = .ok (.ireturn, 1) := by decide +kernel
theorem dX10_trim_14 : decode cX10_trim 14 = .ok (.aload_n 0, 1) := by decide +kernel
theorem dX10_trim_15 : decode cX10_trim 15 = .ok (.iload_n 1, 1) := by decide +kernel
theorem dX10_trim_16 : decode cX10_trim 16 = .ok (.putfield 82, 3) := by decide +kernel
theorem dX10_trim_19 : decode cX10_trim 19 = .ok (.iload_n 1, 1) := by decide +kernel
theorem dX10_trim_20 : decode cX10_trim 20 = .ok (.ireturn, 1) := by decide +kernel
theorem dX10_run_0 : decode cX10_run 0 = .ok (.aload_n 0, 1) := by decide +kernel
theorem dX10_run_1 : decode cX10_run 1 = .ok (.getfield 46, 3) := by decide +kernel
theorem dX10_run_4 : decode cX10_run 4 = .ok (.iconst 0, 1) := by decide +kernel
theorem dX10_run_5 : decode cX10_run 5 = .ok (.putfield 89, 3) := by decide +kernel
theorem dX10_run_8 : decode cX10_run 8 = .ok (.aload_n 0, 1) := by decide +kernel
theorem dX10_run_9 : decode cX10_run 9 = .ok (.iconst 0, 1) := by decide +kernel
theorem dX10_run_10 : decode cX10_run 10 = .ok (.putfield 92, 3) := by decide +kernel
theorem dX10_run_13 : decode cX10_run 13 = .ok (.aload_n 0, 1) := by decide +kernel
theorem dX10_run_14 : decode cX10_run 14 = .ok (.iconst (-1), 1) := by decide +kernel
theorem dX10_run_15 : decode cX10_run 15 = .ok (.putfield 58, 3) := by decide +kernel
theorem dX10_run_18 : decode cX10_run 18 = .ok (.aload_n 0, 1) := by decide +kernel
theorem dX10_run_19 : decode cX10_run 19 = .ok (.getfield 10, 3) := by decide +kernel
theorem dX10_run_22 : decode cX10_run 22 = .ok (.invokevirtual 95, 3) := by decide +kernel
theorem dX10_run_25 : decode cX10_run 25 = .ok (.aload_n 0, 1) := by decide +kernel
theorem dX10_run_26 : decode cX10_run 26 = .ok (.invokevirtual 98, 3) := by decide +kernel
theorem dX10_run_29 : decode cX10_run 29 = .ok (.aload_n 0, 1) := by decide +kernel
theorem dX10_run_30 : decode cX10_run 30 = .ok (.getfield 28, 3) := by decide +kernel
theorem dX10_run_33 : decode cX10_run 33 = .ok (.getfield 101, 3) := by decide +kernel
theorem dX10_run_36 : decode cX10_run 36 = .ok (.istore_n 1, 1) := by decide +kernel
theorem dX10_run_37 : decode cX10_run 37 = .ok (.iconst 0, 1) := by decide +kernel
theorem dX10_run_38 : decode cX10_run 38 = .ok (.istore_n 2, 1) := by decide +kernel
theorem dX10_run_39 : decode cX10_run 39 = .ok (.iload_n 2, 1) := by decide +kernel
theorem dX10_run_40 : decode cX10_run 40 = .ok (.aload_n 0, 1) := by decide +kernel
theorem dX10_run_41 : decode cX10_run 41 = .ok (.getfield 82, 3) := by decide +kernel
theorem dX10_run_44 : decode cX10_run 44 = .ok (.if_icmp .ge 35, 3) := by decide +kernel
theorem dX10_run_79 : decode cX10_run 79 = .ok (.aload_n 0, 1) := by decide +kernel
theorem dX10_run_80 : decode cX10_run 80 = .ok (.iconst 0, 1) := by decide +kernel
theorem dX10_run_81 : decode cX10_run 81 = .ok (.putfield 82, 3) := by decide +kernel
theorem dX10_run_84 : decode cX10_run 84 = .ok (.aload_n 0, 1) := by decide +kernel
theorem dX10_run_85 : decode cX10_run 85 = .ok (.getfield 28, 3) := by decide +kernel
theorem dX10_run_88 : decode cX10_run 88 = .ok (.getfield 105, 3) := by decide +kernel
theorem dX10_run_91 : decode cX10_run 91 = .ok (.istore_n 2, 1) := by decide +kernel
theorem dX10_run_92 : decode cX10_run 92 = .ok (.aload_n 0, 1) := by decide +kernel
theorem dX10_run_93 : decode cX10_run 93 = .ok (.getfield 28, 3) := by decide +kernel
theorem dX10_run_96 : decode cX10_run 96 = .ok (.iload_n 1, 1) := by decide +kernel
theorem dX10_run_97 : decode cX10_run 97 = .ok (.invokevirtual 108, 3) := by decide +kernel
theorem dX10_run_100 : decode cX10_run 100 = .ok (.istore_n 3, 1) := by decide +kernel
theorem dX10_run_101 : decode cX10_run 101 = .ok (.iload_n 3, 1) := by decide +kernel
theorem dX10_run_102 : decode cX10_run 102 = .ok (.ifCond .lt 10, 3) := by decide +kernel
theorem dX10_run_112 : decode cX10_run 112 = .ok (.aload_n 0, 1) := by decide +kernel
theorem dX10_run_113 : decode cX10_run 113 = .ok (.iload_n 2, 1) := by decide +kernel
theorem dX10_run_114 : decode cX10_run 114 = .ok (.aload_n 0, 1) := by decide +kernel
theorem dX10_run_115 : decode cX10_run 115 = .ok (.getfield 28, 3) := by decide +kernel
theorem dX10_run_118 : decode cX10_run 118 = .ok (.getfield 105, 3) := by decide +kernel
theorem dX10_run_121 : decode cX10_run 121 = .ok (.invokevirtual 112, 3) := by decide +kernel
theorem dX10_run_124 : decode cX10_run 124 = .ok (.aload_n 0, 1) := by decide +kernel
theorem dX10_run_125 : decode cX10_run 125 = .ok (.getfield 10, 3) := by decide +kernel
theorem dX10_run_128 : decode cX10_run 128 = .ok (.getfield 116, 3) := by decide +kernel
theorem dX10_run_131 : decode cX10_run 131 = .ok (.ireturn, 1) := by decide +kernel
theorem dX10_keepHouse_0 : decode cX10_keepHouse 0 = .ok (.aload_n 0, 1) := by decide +kernel
theorem dX10_keepHouse_1 : decode cX10_keepHouse 1 = .ok (.getfield 77, 3) := by decide +kernel
theorem dX10_keepHouse_4 : decode cX10_keepHouse 4 = .ok (.iconst 0, 1) := by decide +kernel
theorem dX10_keepHouse_5 : decode cX10_keepHouse 5 = .ok (.putfield 119, 3) := by decide +kernel
theorem dX10_keepHouse_8 : decode cX10_keepHouse 8 = .ok (.aload_n 0, 1) := by decide +kernel
theorem dX10_keepHouse_9 : decode cX10_keepHouse 9 = .ok (.getfield 37, 3) := by decide +kernel
theorem dX10_keepHouse_12 : decode cX10_keepHouse 12 = .ok (.iconst 0, 1) := by decide +kernel
theorem dX10_keepHouse_13 : decode cX10_keepHouse 13 = .ok (.putfield 122, 3) := by decide +kernel
theorem dX10_keepHouse_16 : decode cX10_keepHouse 16 = .ok (.aload_n 0, 1) := by decide +kernel
theorem dX10_keepHouse_17 : decode cX10_keepHouse 17 = .ok (.getfield 37, 3) := by decide +kernel
theorem dX10_keepHouse_20 : decode cX10_keepHouse 20 = .ok (.iconst 0, 1) := by decide +kernel
theorem dX10_keepHouse_21 : decode cX10_keepHouse 21 = .ok (.putfield 125, 3) := by decide +kernel
theorem dX10_keepHouse_24 : decode cX10_keepHouse 24 = .ok (.aload_n 0, 1) := by decide +kernel
theorem dX10_keepHouse_25 : decode cX10_keepHouse 25 = .ok (.getfield 37, 3) := by decide +kernel
theorem dX10_keepHouse_28 : decode cX10_keepHouse 28 = .ok (.bipush 16, 2) := by decide +kernel
theorem dX10_keepHouse_30 : decode cX10_keepHouse 30 = .ok (.iconst 0, 1) := by decide +kernel
theorem dX10_keepHouse_31 : decode cX10_keepHouse 31 = .ok (.invokevirtual 128, 3) := by decide +kernel
theorem dX10_keepHouse_34 : decode cX10_keepHouse 34 = .ok (.pop, 1) := by decide +kernel
theorem dX10_keepHouse_35 : decode cX10_keepHouse 35 = .ok (.aload_n 0, 1) := by decide +kernel
theorem dX10_keepHouse_36 : decode cX10_keepHouse 36 = .ok (.getfield 28, 3) := by decide +kernel
theorem dX10_keepHouse_39 : decode cX10_keepHouse 39 = .ok (.iconst 0, 1) := by decide +kernel
theorem dX10_keepHouse_40 : decode cX10_keepHouse 40 = .ok (.putfield 132, 3) := by decide +kernel
theorem dX10_keepHouse_43 : decode cX10_keepHouse 43 = .ok (.iconst 0, 1) := by decide +kernel
theorem dX10_keepHouse_44 : decode cX10_keepHouse 44 = .ok (.istore_n 1, 1) := by decide +kernel
theorem dX10_keepHouse_45 : decode cX10_keepHouse 45 = .ok (.iload_n 1, 1) := by decide +kernel
theorem dX10_keepHouse_46 : decode cX10_keepHouse 46 = .ok (.bipush 60, 2) := by decide +kernel
theorem dX10_keepHouse_48 : decode cX10_keepHouse 48 = .ok (.if_icmp .ge 86, 3) := by decide +kernel
theorem dX10_keepHouse_51 : decode cX10_keepHouse 51 = .ok (.aload_n 0, 1) := by decide +kernel
theorem dX10_keepHouse_52 : decode cX10_keepHouse 52 = .ok (.getfield 37, 3) := by decide +kernel
theorem dX10_keepHouse_55 : decode cX10_keepHouse 55 = .ok (.iload_n 1, 1) := by decide +kernel
theorem dX10_keepHouse_56 : decode cX10_keepHouse 56 = .ok (.invokevirtual 135, 3) := by decide +kernel
theorem dX10_keepHouse_59 : decode cX10_keepHouse 59 = .ok (.iconst 2, 1) := by decide +kernel
theorem dX10_keepHouse_60 : decode cX10_keepHouse 60 = .ok (.if_icmp .eq 6, 3) := by decide +kernel
theorem dX10_keepHouse_63 : decode cX10_keepHouse 63 = .ok (.goto 65, 3) := by decide +kernel
theorem dX10_keepHouse_128 : decode cX10_keepHouse 128 = .ok (.iinc 1 1, 3) := by decide +kernel
theorem dX10_keepHouse_131 : decode cX10_keepHouse 131 = .ok (.goto (-86), 3) := by decide +kernel
theorem dX10_keepHouse_134 : decode cX10_keepHouse 134 = .ok (.aload_n 0, 1) := by decide +kernel
theorem dX10_keepHouse_135 : decode cX10_keepHouse 135 = .ok (.getfield 28, 3) := by decide +kernel
theorem dX10_keepHouse_138 : decode cX10_keepHouse 138 = .ok (.iconst 0, 1) := by decide +kernel
theorem dX10_keepHouse_139 : decode cX10_keepHouse 139 = .ok (.putfield 101, 3) := by decide +kernel
theorem dX10_keepHouse_142 : decode cX10_keepHouse 142 = .ok (.aload_n 0, 1) := by decide +kernel
theorem dX10_keepHouse_143 : decode cX10_keepHouse 143 = .ok (.getfield 28, 3) := by decide +kernel
theorem dX10_keepHouse_146 : decode cX10_keepHouse 146 = .ok (.iconst 0, 1) := by decide +kernel
theorem dX10_keepHouse_147 : decode cX10_keepHouse 147 = .ok (.putfield 105, 3) := by decide +kernel
theorem dX10_keepHouse_150 : decode cX10_keepHouse 150 = .ok (.iconst 0, 1) := by decide +kernel
theorem dX10_keepHouse_151 : decode cX10_keepHouse 151 = .ok (.istore_n 1, 1) := by decide +kernel
theorem dX10_keepHouse_152 : decode cX10_keepHouse 152 = .ok (.iload_n 1, 1) := by decide +kernel
theorem dX10_keepHouse_153 : decode cX10_keepHouse 153 = .ok (.bipush 60, 2) := by decide +kernel
theorem dX10_keepHouse_155 : decode cX10_keepHouse 155 = .ok (.if_icmp .ge 91, 3) := by decide +kernel
theorem dX10_keepHouse_158 : decode cX10_keepHouse 158 = .ok (.aload_n 0, 1) := by decide +kernel
theorem dX10_keepHouse_159 : decode cX10_keepHouse 159 = .ok (.getfield 37, 3) := by decide +kernel
theorem dX10_keepHouse_162 : decode cX10_keepHouse 162 = .ok (.iload_n 1, 1) := by decide +kernel
theorem dX10_keepHouse_163 : decode cX10_keepHouse 163 = .ok (.invokevirtual 135, 3) := by decide +kernel
theorem dX10_keepHouse_166 : decode cX10_keepHouse 166 = .ok (.iconst 2, 1) := by decide +kernel
theorem dX10_keepHouse_167 : decode cX10_keepHouse 167 = .ok (.if_icmp .eq 6, 3) := by decide +kernel
theorem dX10_keepHouse_170 : decode cX10_keepHouse 170 = .ok (.goto 70, 3) := by decide +kernel
theorem dX10_keepHouse_240 : decode cX10_keepHouse 240 = .ok (.iinc 1 1, 3) := by decide +kernel
theorem dX10_keepHouse_243 : decode cX10_keepHouse 243 = .ok (.goto (-91), 3) := by decide +kernel
theorem dX10_keepHouse_246 : decode cX10_keepHouse 246 = .ok (.return_, 1) := by decide +kernel
theorem dX10_statements_0 : decode cX10_statements 0 = .ok (.iload_n 1, 1) := by decide +kernel
theorem dX10_statements_1 : decode cX10_statements 1 = .ok (.istore_n 3, 1) := by decide +kernel
theorem dX10_statements_2 : decode cX10_statements 2 = .ok (.iconst 0, 1) := by decide +kernel
theorem dX10_statements_3 : decode cX10_statements 3 = .ok (.istore 4, 2) := by decide +kernel
theorem dX10_statements_5 : decode cX10_statements 5 = .ok (.iload_n 3, 1) := by decide +kernel
theorem dX10_statements_6 : decode cX10_statements 6 = .ok (.iload_n 2, 1) := by decide +kernel
theorem dX10_statements_7 : decode cX10_statements 7 = .ok (.if_icmp .gt 167, 3) := by decide +kernel
theorem dX10_statements_10 : decode cX10_statements 10 = .ok (.aload_n 0, 1) := by decide +kernel
theorem dX10_statements_11 : decode cX10_statements 11 = .ok (.getfield 10, 3) := by decide +kernel
theorem dX10_statements_14 : decode cX10_statements 14 = .ok (.getfield 116, 3) := by decide +kernel
theorem dX10_statements_17 : decode cX10_statements 17 = .ok (.ifCond .ne 157, 3) := by decide +kernel
theorem dX10_statements_20 : decode cX10_statements 20 = .ok (.aload_n 0, 1) := by decide +kernel
theorem dX10_statements_21 : decode cX10_statements 21 = .ok (.getfield 28, 3) := by decide +kernel
theorem dX10_statements_24 : decode cX10_statements 24 = .ok (.iload_n 3, 1) := by decide +kernel
theorem dX10_statements_25 : decode cX10_statements 25 = .ok (.iload_n 2, 1) := by decide +kernel
theorem dX10_statements_26 : decode cX10_statements 26 = .ok (.invokevirtual 158, 3) := by decide +kernel
theorem dX10_statements_29 : decode cX10_statements 29 = .ok (.istore 5, 2) := by decide +kernel
theorem dX10_statements_31 : decode cX10_statements 31 = .ok (.aload_n 0, 1) := by decide +kernel
theorem dX10_statements_32 : decode cX10_statements 32 = .ok (.getfield 21, 3) := by decide +kernel
theorem dX10_statements_35 : decode cX10_statements 35 = .ok (.getfield 161, 3) := by decide +kernel
theorem dX10_statements_38 : decode cX10_statements 38 = .ok (.istore 6, 2) := by decide +kernel
theorem dX10_statements_40 : decode cX10_statements 40 = .ok (.iload_n 3, 1) := by decide +kernel
theorem dX10_statements_41 : decode cX10_statements 41 = .ok (.iload 5, 2) := by decide +kernel
theorem dX10_statements_43 : decode cX10_statements 43 = .ok (.if_icmp .ge 28, 3) := by decide +kernel
theorem dX10_statements_71 : decode cX10_statements 71 = .ok (.iconst 0, 1) := by decide +kernel
theorem dX10_statements_72 : decode cX10_statements 72 = .ok (.istore 7, 2) := by decide +kernel
theorem dX10_statements_74 : decode cX10_statements 74 = .ok (.iload 7, 2) := by decide +kernel
theorem dX10_statements_76 : decode cX10_statements 76 = .ok (.ifCond .eq 24, 3) := by decide +kernel
theorem dX10_statements_100 : decode cX10_statements 100 = .ok (.aload_n 0, 1) := by decide +kernel
theorem dX10_statements_101 : decode cX10_statements 101 = .ok (.getfield 10, 3) := by decide +kernel
theorem dX10_statements_104 : decode cX10_statements 104 = .ok (.getfield 116, 3) := by decide +kernel
theorem dX10_statements_107 : decode cX10_statements 107 = .ok (.ifCond .eq 12, 3) := by decide +kernel
theorem dX10_statements_119 : decode cX10_statements 119 = .ok (.iload 7, 2) := by decide +kernel
theorem dX10_statements_121 : decode cX10_statements 121 = .ok (.ifCond .eq 31, 3) := by decide +kernel
theorem dX10_statements_152 : decode cX10_statements 152 = .ok (.aload_n 0, 1) := by decide +kernel
theorem dX10_statements_153 : decode cX10_statements 153 = .ok (.getfield 37, 3) := by decide +kernel
theorem dX10_statements_156 : decode cX10_statements 156 = .ok (.iload 6, 2) := by decide +kernel
theorem dX10_statements_158 : decode cX10_statements 158 = .ok (.iconst 0, 1) := by decide +kernel
theorem dX10_statements_159 : decode cX10_statements 159 = .ok (.invokevirtual 186, 3) := by decide +kernel
theorem dX10_statements_162 : decode cX10_statements 162 = .ok (.pop, 1) := by decide +kernel
theorem dX10_statements_163 : decode cX10_statements 163 = .ok (.iload 5, 2) := by decide +kernel
theorem dX10_statements_165 : decode cX10_statements 165 = .ok (.iconst 1, 1) := by decide +kernel
theorem dX10_statements_166 : decode cX10_statements 166 = .ok (.iadd, 1) := by decide +kernel
theorem dX10_statements_167 : decode cX10_statements 167 = .ok (.istore_n 3, 1) := by decide +kernel
theorem dX10_statements_168 : decode cX10_statements 168 = .ok (.iinc 4 1, 3) := by decide +kernel
theorem dX10_statements_171 : decode cX10_statements 171 = .ok (.goto (-166), 3) := by decide +kernel
theorem dX10_statements_174 : decode cX10_statements 174 = .ok (.return_, 1) := by decide +kernel
theorem dX10_at_0 : decode cX10_at 0 = .ok (.aload_n 0, 1) := by decide +kernel
theorem dX10_at_1 : decode cX10_at 1 = .ok (.getfield 58, 3) := by decide +kernel
theorem dX10_at_4 : decode cX10_at 4 = .ok (.ireturn, 1) := by decide +kernel
theorem dX10_steps_0 : decode cX10_steps 0 = .ok (.aload_n 0, 1) := by decide +kernel
theorem dX10_steps_1 : decode cX10_steps 1 = .ok (.getfield 10, 3) := by decide +kernel
theorem dX10_steps_4 : decode cX10_steps 4 = .ok (.getfield 187, 3) := by decide +kernel
theorem dX10_steps_7 : decode cX10_steps 7 = .ok (.ireturn, 1) := by decide +kernel
theorem dX10_shown_0 : decode cX10_shown 0 = .ok (.aload_n 0, 1) := by decide +kernel
theorem dX10_shown_1 : decode cX10_shown 1 = .ok (.getfield 46, 3) := by decide +kernel
theorem dX10_shown_4 : decode cX10_shown 4 = .ok (.getfield 89, 3) := by decide +kernel
theorem dX10_shown_7 : decode cX10_shown 7 = .ok (.ireturn, 1) := by decide +kernel
theorem dX10_byteAt_0 : decode cX10_byteAt 0 = .ok (.iload_n 1, 1) := by decide +kernel
theorem dX10_byteAt_1 : decode cX10_byteAt 1 = .ok (.ifCond .lt 26, 3) := by decide +kernel
theorem dX10_byteAt_4 : decode cX10_byteAt 4 = .ok (.iload_n 1, 1) := by decide +kernel
theorem dX10_byteAt_5 : decode cX10_byteAt 5 = .ok (.aload_n 0, 1) := by decide +kernel
theorem dX10_byteAt_6 : decode cX10_byteAt 6 = .ok (.getfield 46, 3) := by decide +kernel
theorem dX10_byteAt_9 : decode cX10_byteAt 9 = .ok (.getfield 89, 3) := by decide +kernel
theorem dX10_byteAt_12 : decode cX10_byteAt 12 = .ok (.if_icmp .ge 15, 3) := by decide +kernel
theorem dX10_byteAt_27 : decode cX10_byteAt 27 = .ok (.iconst (-1), 1) := by decide +kernel
theorem dX10_byteAt_28 : decode cX10_byteAt 28 = .ok (.ireturn, 1) := by decide +kernel
theorem dX10_view_0 : decode cX10_view 0 = .ok (.aload_n 0, 1) := by decide +kernel
theorem dX10_view_1 : decode cX10_view 1 = .ok (.invokevirtual 193, 3) := by decide +kernel
theorem dX10_view_4 : decode cX10_view 4 = .ok (.istore_n 1, 1) := by decide +kernel
theorem dX10_view_5 : decode cX10_view 5 = .ok (.aload_n 0, 1) := by decide +kernel
theorem dX10_view_6 : decode cX10_view 6 = .ok (.iconst 0, 1) := by decide +kernel
theorem dX10_view_7 : decode cX10_view 7 = .ok (.putfield 92, 3) := by decide +kernel
theorem dX10_view_10 : decode cX10_view 10 = .ok (.iload_n 1, 1) := by decide +kernel
theorem dX10_view_11 : decode cX10_view 11 = .ok (.ifCond .ge 5, 3) := by decide +kernel
theorem dX10_view_14 : decode cX10_view 14 = .ok (.iconst (-1), 1) := by decide +kernel
theorem dX10_view_15 : decode cX10_view 15 = .ok (.ireturn, 1) := by decide +kernel
theorem dX10_nameOnTape_0 : decode cX10_nameOnTape 0 = .ok (.aload_n 0, 1) := by decide +kernel
theorem dX10_nameOnTape_1 : decode cX10_nameOnTape 1 = .ok (.getfield 82, 3) := by decide +kernel
theorem dX10_nameOnTape_4 : decode cX10_nameOnTape 4 = .ok (.istore_n 1, 1) := by decide +kernel
theorem dX10_nameOnTape_5 : decode cX10_nameOnTape 5 = .ok (.aload_n 0, 1) := by decide +kernel
theorem dX10_nameOnTape_6 : decode cX10_nameOnTape 6 = .ok (.iconst 0, 1) := by decide +kernel
theorem dX10_nameOnTape_7 : decode cX10_nameOnTape 7 = .ok (.putfield 82, 3) := by decide +kernel
theorem dX10_nameOnTape_10 : decode cX10_nameOnTape 10 = .ok (.iload_n 1, 1) := by decide +kernel
theorem dX10_nameOnTape_11 : decode cX10_nameOnTape 11 = .ok (.iconst 1, 1) := by decide +kernel
theorem dX10_nameOnTape_12 : decode cX10_nameOnTape 12 = .ok (.if_icmp .lt 30, 3) := by decide +kernel
theorem dX10_nameOnTape_42 : decode cX10_nameOnTape 42 = .ok (.iconst (-1), 1) := by decide +kernel
theorem dX10_nameOnTape_43 : decode cX10_nameOnTape 43 = .ok (.ireturn, 1) := by decide +kernel
theorem dX10_into_0 : decode cX10_into 0 = .ok (.aload_n 0, 1) := by decide +kernel
theorem dX10_into_1 : decode cX10_into 1 = .ok (.invokevirtual 213, 3) := by decide +kernel
theorem dX10_into_4 : decode cX10_into 4 = .ok (.istore_n 2, 1) := by decide +kernel
theorem dX10_into_5 : decode cX10_into 5 = .ok (.iload_n 2, 1) := by decide +kernel
theorem dX10_into_6 : decode cX10_into 6 = .ok (.ifCond .eq 32, 3) := by decide +kernel
theorem dX10_into_38 : decode cX10_into 38 = .ok (.iconst (-1), 1) := by decide +kernel
theorem dX10_into_39 : decode cX10_into 39 = .ok (.ireturn, 1) := by decide +kernel
theorem dX10_back_0 : decode cX10_back 0 = .ok (.aload_n 0, 1) := by decide +kernel
theorem dX10_back_1 : decode cX10_back 1 = .ok (.getfield 92, 3) := by decide +kernel
theorem dX10_back_4 : decode cX10_back 4 = .ok (.iconst 2, 1) := by decide +kernel
theorem dX10_back_5 : decode cX10_back 5 = .ok (.if_icmp .ge 5, 3) := by decide +kernel
theorem dX10_back_8 : decode cX10_back 8 = .ok (.iconst (-1), 1) := by decide +kernel
theorem dX10_back_9 : decode cX10_back 9 = .ok (.ireturn, 1) := by decide +kernel
theorem dX10_about_0 : decode cX10_about 0 = .ok (.aload_n 0, 1) := by decide +kernel
theorem dX10_about_1 : decode cX10_about 1 = .ok (.invokevirtual 213, 3) := by decide +kernel
theorem dX10_about_4 : decode cX10_about 4 = .ok (.istore_n 2, 1) := by decide +kernel
theorem dX10_about_5 : decode cX10_about 5 = .ok (.iload_n 2, 1) := by decide +kernel
theorem dX10_about_6 : decode cX10_about 6 = .ok (.ifCond .ne 5, 3) := by decide +kernel
theorem dX10_about_9 : decode cX10_about 9 = .ok (.iconst (-1), 1) := by decide +kernel
theorem dX10_about_10 : decode cX10_about 10 = .ok (.ireturn, 1) := by decide +kernel
theorem dX10_extent_0 : decode cX10_extent 0 = .ok (.aload_n 0, 1) := by decide +kernel
theorem dX10_extent_1 : decode cX10_extent 1 = .ok (.invokevirtual 213, 3) := by decide +kernel
theorem dX10_extent_4 : decode cX10_extent 4 = .ok (.istore_n 2, 1) := by decide +kernel
theorem dX10_extent_5 : decode cX10_extent 5 = .ok (.iload_n 2, 1) := by decide +kernel
theorem dX10_extent_6 : decode cX10_extent 6 = .ok (.ifCond .eq 19, 3) := by decide +kernel
theorem dX10_extent_25 : decode cX10_extent 25 = .ok (.iconst (-1), 1) := by decide +kernel
theorem dX10_extent_26 : decode cX10_extent 26 = .ok (.ireturn, 1) := by decide +kernel
theorem dX10_kind_0 : decode cX10_kind 0 = .ok (.aload_n 0, 1) := by decide +kernel
theorem dX10_kind_1 : decode cX10_kind 1 = .ok (.invokevirtual 213, 3) := by decide +kernel
theorem dX10_kind_4 : decode cX10_kind 4 = .ok (.istore_n 2, 1) := by decide +kernel
theorem dX10_kind_5 : decode cX10_kind 5 = .ok (.iload_n 2, 1) := by decide +kernel
theorem dX10_kind_6 : decode cX10_kind 6 = .ok (.ifCond .eq 20, 3) := by decide +kernel
theorem dX10_kind_26 : decode cX10_kind 26 = .ok (.iconst (-1), 1) := by decide +kernel
theorem dX10_kind_27 : decode cX10_kind 27 = .ok (.ireturn, 1) := by decide +kernel
theorem dX10_number_0 : decode cX10_number 0 = .ok (.aload_n 0, 1) := by decide +kernel
theorem dX10_number_1 : decode cX10_number 1 = .ok (.invokevirtual 213, 3) := by decide +kernel
theorem dX10_number_4 : decode cX10_number 4 = .ok (.istore_n 3, 1) := by decide +kernel
theorem dX10_number_5 : decode cX10_number 5 = .ok (.iload_n 3, 1) := by decide +kernel
theorem dX10_number_6 : decode cX10_number 6 = .ok (.ifCond .eq 20, 3) := by decide +kernel
theorem dX10_number_26 : decode cX10_number 26 = .ok (.iconst 0, 1) := by decide +kernel
theorem dX10_number_27 : decode cX10_number 27 = .ok (.ireturn, 1) := by decide +kernel
theorem dX10_viewed_0 : decode cX10_viewed 0 = .ok (.aload_n 0, 1) := by decide +kernel
theorem dX10_viewed_1 : decode cX10_viewed 1 = .ok (.getfield 92, 3) := by decide +kernel
theorem dX10_viewed_4 : decode cX10_viewed 4 = .ok (.ifCond .le 19, 3) := by decide +kernel
theorem dX10_viewed_23 : decode cX10_viewed 23 = .ok (.iconst 0, 1) := by decide +kernel
theorem dX10_viewed_24 : decode cX10_viewed 24 = .ok (.ireturn, 1) := by decide +kernel
theorem dX10_told_0 : decode cX10_told 0 = .ok (.iload_n 1, 1) := by decide +kernel
theorem dX10_told_1 : decode cX10_told 1 = .ok (.tableswitch 105 0 7 #[47, 59, 65, 71, 79, 84, 92, 100], 47) := by decide +kernel
theorem dX10_told_48 : decode cX10_told 48 = .ok (.aload_n 0, 1) := by decide +kernel
theorem dX10_told_49 : decode cX10_told 49 = .ok (.iconst 1, 1) := by decide +kernel
theorem dX10_told_50 : decode cX10_told 50 = .ok (.invokevirtual 241, 3) := by decide +kernel
theorem dX10_told_53 : decode cX10_told 53 = .ok (.aload_n 0, 1) := by decide +kernel
theorem dX10_told_54 : decode cX10_told 54 = .ok (.iconst 2, 1) := by decide +kernel
theorem dX10_told_55 : decode cX10_told 55 = .ok (.invokevirtual 241, 3) := by decide +kernel
theorem dX10_told_58 : decode cX10_told 58 = .ok (.iadd, 1) := by decide +kernel
theorem dX10_told_59 : decode cX10_told 59 = .ok (.ireturn, 1) := by decide +kernel
theorem dX10_told_60 : decode cX10_told 60 = .ok (.aload_n 0, 1) := by decide +kernel
theorem dX10_told_61 : decode cX10_told 61 = .ok (.iconst 1, 1) := by decide +kernel
theorem dX10_told_62 : decode cX10_told 62 = .ok (.invokevirtual 241, 3) := by decide +kernel
theorem dX10_told_65 : decode cX10_told 65 = .ok (.ireturn, 1) := by decide +kernel
theorem dX10_told_66 : decode cX10_told 66 = .ok (.aload_n 0, 1) := by decide +kernel
theorem dX10_told_67 : decode cX10_told 67 = .ok (.iconst 2, 1) := by decide +kernel
theorem dX10_told_68 : decode cX10_told 68 = .ok (.invokevirtual 241, 3) := by decide +kernel
theorem dX10_told_71 : decode cX10_told 71 = .ok (.ireturn, 1) := by decide +kernel
theorem dX10_told_72 : decode cX10_told 72 = .ok (.aload_n 0, 1) := by decide +kernel
theorem dX10_told_73 : decode cX10_told 73 = .ok (.getfield 77, 3) := by decide +kernel
theorem dX10_told_76 : decode cX10_told 76 = .ok (.invokevirtual 244, 3) := by decide +kernel
theorem dX10_told_79 : decode cX10_told 79 = .ok (.ireturn, 1) := by decide +kernel
theorem dX10_told_80 : decode cX10_told 80 = .ok (.aload_n 0, 1) := by decide +kernel
theorem dX10_told_81 : decode cX10_told 81 = .ok (.invokevirtual 247, 3) := by decide +kernel
theorem dX10_told_84 : decode cX10_told 84 = .ok (.ireturn, 1) := by decide +kernel
theorem dX10_told_85 : decode cX10_told 85 = .ok (.aload_n 0, 1) := by decide +kernel
theorem dX10_told_86 : decode cX10_told 86 = .ok (.getfield 10, 3) := by decide +kernel
theorem dX10_told_89 : decode cX10_told 89 = .ok (.getfield 250, 3) := by decide +kernel
theorem dX10_told_92 : decode cX10_told 92 = .ok (.ireturn, 1) := by decide +kernel
theorem dX10_told_93 : decode cX10_told 93 = .ok (.aload_n 0, 1) := by decide +kernel
theorem dX10_told_94 : decode cX10_told 94 = .ok (.getfield 10, 3) := by decide +kernel
theorem dX10_told_97 : decode cX10_told 97 = .ok (.getfield 253, 3) := by decide +kernel
theorem dX10_told_100 : decode cX10_told 100 = .ok (.ireturn, 1) := by decide +kernel
theorem dX10_told_101 : decode cX10_told 101 = .ok (.aload_n 0, 1) := by decide +kernel
theorem dX10_told_102 : decode cX10_told 102 = .ok (.getfield 82, 3) := by decide +kernel
theorem dX10_told_105 : decode cX10_told 105 = .ok (.ireturn, 1) := by decide +kernel
theorem dX10_told_106 : decode cX10_told 106 = .ok (.iconst (-1), 1) := by decide +kernel
theorem dX10_told_107 : decode cX10_told 107 = .ok (.ireturn, 1) := by decide +kernel
theorem dX10_meaning_0 : decode cX10_meaning 0 = .ok (.iconst 0, 1) := by decide +kernel
theorem dX10_meaning_1 : decode cX10_meaning 1 = .ok (.istore_n 2, 1) := by decide +kernel
theorem dX10_meaning_2 : decode cX10_meaning 2 = .ok (.iconst 0, 1) := by decide +kernel
theorem dX10_meaning_3 : decode cX10_meaning 3 = .ok (.istore_n 3, 1) := by decide +kernel
theorem dX10_meaning_4 : decode cX10_meaning 4 = .ok (.iload_n 3, 1) := by decide +kernel
theorem dX10_meaning_5 : decode cX10_meaning 5 = .ok (.bipush 60, 2) := by decide +kernel
theorem dX10_meaning_7 : decode cX10_meaning 7 = .ok (.if_icmp .ge 24, 3) := by decide +kernel
theorem dX10_meaning_10 : decode cX10_meaning 10 = .ok (.aload_n 0, 1) := by decide +kernel
theorem dX10_meaning_11 : decode cX10_meaning 11 = .ok (.getfield 37, 3) := by decide +kernel
theorem dX10_meaning_14 : decode cX10_meaning 14 = .ok (.iload_n 3, 1) := by decide +kernel
theorem dX10_meaning_15 : decode cX10_meaning 15 = .ok (.invokevirtual 135, 3) := by decide +kernel
theorem dX10_meaning_18 : decode cX10_meaning 18 = .ok (.iload_n 1, 1) := by decide +kernel
theorem dX10_meaning_19 : decode cX10_meaning 19 = .ok (.if_icmp .ne 6, 3) := by decide +kernel
theorem dX10_meaning_25 : decode cX10_meaning 25 = .ok (.iinc 3 1, 3) := by decide +kernel
theorem dX10_meaning_28 : decode cX10_meaning 28 = .ok (.goto (-24), 3) := by decide +kernel
theorem dX10_meaning_31 : decode cX10_meaning 31 = .ok (.iload_n 2, 1) := by decide +kernel
theorem dX10_meaning_32 : decode cX10_meaning 32 = .ok (.ireturn, 1) := by decide +kernel
theorem dX10_sizes_0 : decode cX10_sizes 0 = .ok (.iconst 0, 1) := by decide +kernel
theorem dX10_sizes_1 : decode cX10_sizes 1 = .ok (.istore_n 1, 1) := by decide +kernel
theorem dX10_sizes_2 : decode cX10_sizes 2 = .ok (.iconst 0, 1) := by decide +kernel
theorem dX10_sizes_3 : decode cX10_sizes 3 = .ok (.istore_n 2, 1) := by decide +kernel
theorem dX10_sizes_4 : decode cX10_sizes 4 = .ok (.iload_n 2, 1) := by decide +kernel
theorem dX10_sizes_5 : decode cX10_sizes 5 = .ok (.bipush 60, 2) := by decide +kernel
theorem dX10_sizes_7 : decode cX10_sizes 7 = .ok (.if_icmp .ge 42, 3) := by decide +kernel
theorem dX10_sizes_10 : decode cX10_sizes 10 = .ok (.aload_n 0, 1) := by decide +kernel
theorem dX10_sizes_11 : decode cX10_sizes 11 = .ok (.getfield 37, 3) := by decide +kernel
theorem dX10_sizes_14 : decode cX10_sizes 14 = .ok (.iload_n 2, 1) := by decide +kernel
theorem dX10_sizes_15 : decode cX10_sizes 15 = .ok (.invokevirtual 135, 3) := by decide +kernel
theorem dX10_sizes_18 : decode cX10_sizes 18 = .ok (.iconst 1, 1) := by decide +kernel
theorem dX10_sizes_19 : decode cX10_sizes 19 = .ok (.if_icmp .ne 24, 3) := by decide +kernel
theorem dX10_sizes_43 : decode cX10_sizes 43 = .ok (.iinc 2 1, 3) := by decide +kernel
theorem dX10_sizes_46 : decode cX10_sizes 46 = .ok (.goto (-42), 3) := by decide +kernel
theorem dX10_sizes_49 : decode cX10_sizes 49 = .ok (.iload_n 1, 1) := by decide +kernel
theorem dX10_sizes_50 : decode cX10_sizes 50 = .ok (.ireturn, 1) := by decide +kernel
theorem dX10_forget_0 : decode cX10_forget 0 = .ok (.aload_n 0, 1) := by decide +kernel
theorem dX10_forget_1 : decode cX10_forget 1 = .ok (.invokevirtual 193, 3) := by decide +kernel
theorem dX10_forget_4 : decode cX10_forget 4 = .ok (.istore_n 1, 1) := by decide +kernel
theorem dX10_forget_5 : decode cX10_forget 5 = .ok (.iload_n 1, 1) := by decide +kernel
theorem dX10_forget_6 : decode cX10_forget 6 = .ok (.ifCond .ge 5, 3) := by decide +kernel
theorem dX10_forget_9 : decode cX10_forget 9 = .ok (.iconst (-1), 1) := by decide +kernel
theorem dX10_forget_10 : decode cX10_forget 10 = .ok (.ireturn, 1) := by decide +kernel
theorem dX10_set_0 : decode cX10_set 0 = .ok (.iload_n 1, 1) := by decide +kernel
theorem dX10_set_1 : decode cX10_set 1 = .ok (.ifCond .ne 30, 3) := by decide +kernel
theorem dX10_set_4 : decode cX10_set 4 = .ok (.iload_n 2, 1) := by decide +kernel
theorem dX10_set_5 : decode cX10_set 5 = .ok (.ifCond .eq 8, 3) := by decide +kernel
theorem dX10_set_8 : decode cX10_set 8 = .ok (.iload_n 2, 1) := by decide +kernel
theorem dX10_set_9 : decode cX10_set 9 = .ok (.iconst 1, 1) := by decide +kernel
theorem dX10_set_10 : decode cX10_set 10 = .ok (.if_icmp .ne 21, 3) := by decide +kernel
theorem dX10_set_13 : decode cX10_set 13 = .ok (.aload_n 0, 1) := by decide +kernel
theorem dX10_set_14 : decode cX10_set 14 = .ok (.getfield 10, 3) := by decide +kernel
theorem dX10_set_17 : decode cX10_set 17 = .ok (.getfield 250, 3) := by decide +kernel
theorem dX10_set_20 : decode cX10_set 20 = .ok (.istore_n 3, 1) := by decide +kernel
theorem dX10_set_21 : decode cX10_set 21 = .ok (.aload_n 0, 1) := by decide +kernel
theorem dX10_set_22 : decode cX10_set 22 = .ok (.getfield 10, 3) := by decide +kernel
theorem dX10_set_25 : decode cX10_set 25 = .ok (.iload_n 2, 1) := by decide +kernel
theorem dX10_set_26 : decode cX10_set 26 = .ok (.putfield 250, 3) := by decide +kernel
theorem dX10_set_29 : decode cX10_set 29 = .ok (.iload_n 3, 1) := by decide +kernel
theorem dX10_set_30 : decode cX10_set 30 = .ok (.ireturn, 1) := by decide +kernel
theorem dX10_set_31 : decode cX10_set 31 = .ok (.iload_n 1, 1) := by decide +kernel
theorem dX10_set_32 : decode cX10_set 32 = .ok (.iconst 1, 1) := by decide +kernel
theorem dX10_set_33 : decode cX10_set 33 = .ok (.if_icmp .ne 33, 3) := by decide +kernel
theorem dX10_set_36 : decode cX10_set 36 = .ok (.iload_n 2, 1) := by decide +kernel
theorem dX10_set_37 : decode cX10_set 37 = .ok (.iconst 1, 1) := by decide +kernel
theorem dX10_set_38 : decode cX10_set 38 = .ok (.if_icmp .lt 28, 3) := by decide +kernel
theorem dX10_set_41 : decode cX10_set 41 = .ok (.iload_n 2, 1) := by decide +kernel
theorem dX10_set_42 : decode cX10_set 42 = .ok (.ldc_w 259, 3) := by decide +kernel
theorem dX10_set_45 : decode cX10_set 45 = .ok (.if_icmp .gt 21, 3) := by decide +kernel
theorem dX10_set_48 : decode cX10_set 48 = .ok (.aload_n 0, 1) := by decide +kernel
theorem dX10_set_49 : decode cX10_set 49 = .ok (.getfield 10, 3) := by decide +kernel
theorem dX10_set_52 : decode cX10_set 52 = .ok (.getfield 253, 3) := by decide +kernel
theorem dX10_set_55 : decode cX10_set 55 = .ok (.istore_n 3, 1) := by decide +kernel
theorem dX10_set_56 : decode cX10_set 56 = .ok (.aload_n 0, 1) := by decide +kernel
theorem dX10_set_57 : decode cX10_set 57 = .ok (.getfield 10, 3) := by decide +kernel
theorem dX10_set_60 : decode cX10_set 60 = .ok (.iload_n 2, 1) := by decide +kernel
theorem dX10_set_61 : decode cX10_set 61 = .ok (.putfield 253, 3) := by decide +kernel
theorem dX10_set_64 : decode cX10_set 64 = .ok (.iload_n 3, 1) := by decide +kernel
theorem dX10_set_65 : decode cX10_set 65 = .ok (.ireturn, 1) := by decide +kernel
theorem dX10_set_66 : decode cX10_set 66 = .ok (.iconst (-1), 1) := by decide +kernel
theorem dX10_set_67 : decode cX10_set 67 = .ok (.ireturn, 1) := by decide +kernel
theorem dX10_peek_0 : decode cX10_peek 0 = .ok (.iload_n 1, 1) := by decide +kernel
theorem dX10_peek_1 : decode cX10_peek 1 = .ok (.ifCond .lt 15, 3) := by decide +kernel
theorem dX10_peek_4 : decode cX10_peek 4 = .ok (.iload_n 1, 1) := by decide +kernel
theorem dX10_peek_5 : decode cX10_peek 5 = .ok (.aload_n 0, 1) := by decide +kernel
theorem dX10_peek_6 : decode cX10_peek 6 = .ok (.arraylength, 1) := by decide +kernel
theorem dX10_peek_7 : decode cX10_peek 7 = .ok (.if_icmp .ge 9, 3) := by decide +kernel
theorem dX10_peek_10 : decode cX10_peek 10 = .ok (.aload_n 0, 1) := by decide +kernel
theorem dX10_peek_11 : decode cX10_peek 11 = .ok (.iload_n 1, 1) := by decide +kernel
theorem dX10_peek_12 : decode cX10_peek 12 = .ok (.iaload, 1) := by decide +kernel
theorem dX10_peek_13 : decode cX10_peek 13 = .ok (.goto 4, 3) := by decide +kernel
theorem dX10_peek_16 : decode cX10_peek 16 = .ok (.iconst 0, 1) := by decide +kernel
theorem dX10_peek_17 : decode cX10_peek 17 = .ok (.ireturn, 1) := by decide +kernel
theorem dX11_byteOf_0 : decode cX11_byteOf 0 = .ok (.iload_n 1, 1) := by decide +kernel
theorem dX11_byteOf_1 : decode cX11_byteOf 1 = .ok (.aload_n 0, 1) := by decide +kernel
theorem dX11_byteOf_2 : decode cX11_byteOf 2 = .ok (.getfield 553, 3) := by decide +kernel
theorem dX11_byteOf_5 : decode cX11_byteOf 5 = .ok (.if_icmp .ge 16, 3) := by decide +kernel
theorem dX11_byteOf_21 : decode cX11_byteOf 21 = .ok (.iconst 0, 1) := by decide +kernel
theorem dX11_byteOf_22 : decode cX11_byteOf 22 = .ok (.ireturn, 1) := by decide +kernel
theorem dX11_scan_0 : decode cX11_scan 0 = .ok (.aload_n 0, 1) := by decide +kernel
theorem dX11_scan_1 : decode cX11_scan 1 = .ok (.getfield 562, 3) := by decide +kernel
theorem dX11_scan_4 : decode cX11_scan 4 = .ok (.istore_n 3, 1) := by decide +kernel
theorem dX11_scan_5 : decode cX11_scan 5 = .ok (.iconst (-1), 1) := by decide +kernel
theorem dX11_scan_6 : decode cX11_scan 6 = .ok (.istore 4, 2) := by decide +kernel
theorem dX11_scan_8 : decode cX11_scan 8 = .ok (.aload_n 0, 1) := by decide +kernel
theorem dX11_scan_9 : decode cX11_scan 9 = .ok (.iload_n 1, 1) := by decide +kernel
theorem dX11_scan_10 : decode cX11_scan 10 = .ok (.putfield 577, 3) := by decide +kernel
theorem dX11_scan_13 : decode cX11_scan 13 = .ok (.aload_n 0, 1) := by decide +kernel
theorem dX11_scan_14 : decode cX11_scan 14 = .ok (.iload_n 2, 1) := by decide +kernel
theorem dX11_scan_15 : decode cX11_scan 15 = .ok (.putfield 553, 3) := by decide +kernel
theorem dX11_scan_18 : decode cX11_scan 18 = .ok (.aload_n 0, 1) := by decide +kernel
theorem dX11_scan_19 : decode cX11_scan 19 = .ok (.iconst (-1), 1) := by decide +kernel
theorem dX11_scan_20 : decode cX11_scan 20 = .ok (.putfield 586, 3) := by decide +kernel
theorem dX11_scan_23 : decode cX11_scan 23 = .ok (.aload_n 0, 1) := by decide +kernel
theorem dX11_scan_24 : decode cX11_scan 24 = .ok (.getfield 586, 3) := by decide +kernel
theorem dX11_scan_27 : decode cX11_scan 27 = .ok (.iconst (-1), 1) := by decide +kernel
theorem dX11_scan_28 : decode cX11_scan 28 = .ok (.if_icmp .ne 182, 3) := by decide +kernel
theorem dX11_scan_31 : decode cX11_scan 31 = .ok (.aload_n 0, 1) := by decide +kernel
theorem dX11_scan_32 : decode cX11_scan 32 = .ok (.aload_n 0, 1) := by decide +kernel
theorem dX11_scan_33 : decode cX11_scan 33 = .ok (.getfield 577, 3) := by decide +kernel
theorem dX11_scan_36 : decode cX11_scan 36 = .ok (.invokevirtual 589, 3) := by decide +kernel
theorem dX11_scan_39 : decode cX11_scan 39 = .ok (.bipush 32, 2) := by decide +kernel
theorem dX11_scan_41 : decode cX11_scan 41 = .ok (.if_icmp .ne 27, 3) := by decide +kernel
theorem dX11_scan_68 : decode cX11_scan 68 = .ok (.aload_n 0, 1) := by decide +kernel
theorem dX11_scan_69 : decode cX11_scan 69 = .ok (.aload_n 0, 1) := by decide +kernel
theorem dX11_scan_70 : decode cX11_scan 70 = .ok (.getfield 577, 3) := by decide +kernel
theorem dX11_scan_73 : decode cX11_scan 73 = .ok (.invokevirtual 589, 3) := by decide +kernel
theorem dX11_scan_76 : decode cX11_scan 76 = .ok (.bipush 35, 2) := by decide +kernel
theorem dX11_scan_78 : decode cX11_scan 78 = .ok (.if_icmp .ne 41, 3) := by decide +kernel
theorem dX11_scan_119 : decode cX11_scan 119 = .ok (.aload_n 0, 1) := by decide +kernel
theorem dX11_scan_120 : decode cX11_scan 120 = .ok (.getfield 577, 3) := by decide +kernel
theorem dX11_scan_123 : decode cX11_scan 123 = .ok (.aload_n 0, 1) := by decide +kernel
theorem dX11_scan_124 : decode cX11_scan 124 = .ok (.getfield 553, 3) := by decide +kernel
theorem dX11_scan_127 : decode cX11_scan 127 = .ok (.if_icmp .ne 6, 3) := by decide +kernel
theorem dX11_scan_130 : decode cX11_scan 130 = .ok (.goto 80, 3) := by decide +kernel
theorem dX11_scan_210 : decode cX11_scan 210 = .ok (.aload_n 0, 1) := by decide +kernel
theorem dX11_scan_211 : decode cX11_scan 211 = .ok (.getfield 586, 3) := by decide +kernel
theorem dX11_scan_214 : decode cX11_scan 214 = .ok (.iconst (-1), 1) := by decide +kernel
theorem dX11_scan_215 : decode cX11_scan 215 = .ok (.if_icmp .ne 20, 3) := by decide +kernel
theorem dX11_scan_218 : decode cX11_scan 218 = .ok (.iload 4, 2) := by decide +kernel
theorem dX11_scan_220 : decode cX11_scan 220 = .ok (.iconst (-1), 1) := by decide +kernel
theorem dX11_scan_221 : decode cX11_scan 221 = .ok (.if_icmp .eq 14, 3) := by decide +kernel
theorem dX11_scan_235 : decode cX11_scan 235 = .ok (.iload_n 3, 1) := by decide +kernel
theorem dX11_scan_236 : decode cX11_scan 236 = .ok (.ireturn, 1) := by decide +kernel
theorem dX11_unframe_0 : decode cX11_unframe 0 = .ok (.aload_n 0, 1) := by decide +kernel
theorem dX11_unframe_1 : decode cX11_unframe 1 = .ok (.getfield 870, 3) := by decide +kernel
theorem dX11_unframe_4 : decode cX11_unframe 4 = .ok (.iload_n 1, 1) := by decide +kernel
theorem dX11_unframe_5 : decode cX11_unframe 5 = .ok (.if_icmp .le 51, 3) := by decide +kernel
theorem dX11_unframe_56 : decode cX11_unframe 56 = .ok (.return_, 1) := by decide +kernel
theorem dX11_statementEnd_0 : decode cX11_statementEnd 0 = .ok (.iload_n 1, 1) := by decide +kernel
theorem dX11_statementEnd_1 : decode cX11_statementEnd 1 = .ok (.istore_n 3, 1) := by decide +kernel
theorem dX11_statementEnd_2 : decode cX11_statementEnd 2 = .ok (.iload_n 3, 1) := by decide +kernel
theorem dX11_statementEnd_3 : decode cX11_statementEnd 3 = .ok (.iload_n 2, 1) := by decide +kernel
theorem dX11_statementEnd_4 : decode cX11_statementEnd 4 = .ok (.if_icmp .ge 65, 3) := by decide +kernel
theorem dX11_statementEnd_69 : decode cX11_statementEnd 69 = .ok (.iload_n 3, 1) := by decide +kernel
theorem dX11_statementEnd_70 : decode cX11_statementEnd 70 = .ok (.ireturn, 1) := by decide +kernel
theorem dX11_init_0 : decode cX11_init 0 = .ok (.aload_n 0, 1) := by decide +kernel
theorem dX11_init_1 : decode cX11_init 1 = .ok (.invokespecial 900, 3) := by decide +kernel
theorem dX11_init_4 : decode cX11_init 4 = .ok (.aload_n 0, 1) := by decide +kernel
theorem dX11_init_5 : decode cX11_init 5 = .ok (.iconst 1, 1) := by decide +kernel
theorem dX11_init_6 : decode cX11_init 6 = .ok (.putfield 177, 3) := by decide +kernel
theorem dX11_init_9 : decode cX11_init 9 = .ok (.aload_n 0, 1) := by decide +kernel
theorem dX11_init_10 : decode cX11_init 10 = .ok (.lconst 1, 1) := by decide +kernel
theorem dX11_init_11 : decode cX11_init 11 = .ok (.putfield 151, 3) := by decide +kernel
theorem dX11_init_14 : decode cX11_init 14 = .ok (.aload_n 0, 1) := by decide +kernel
theorem dX11_init_15 : decode cX11_init 15 = .ok (.ldc_w 906, 3) := by decide +kernel
theorem dX11_init_18 : decode cX11_init 18 = .ok (.newarray .int, 2) := by decide +kernel
theorem dX11_init_20 : decode cX11_init 20 = .ok (.putfield 11, 3) := by decide +kernel
theorem dX11_init_23 : decode cX11_init 23 = .ok (.aload_n 0, 1) := by decide +kernel
theorem dX11_init_24 : decode cX11_init 24 = .ok (.ldc_w 907, 3) := by decide +kernel
theorem dX11_init_27 : decode cX11_init 27 = .ok (.newarray .int, 2) := by decide +kernel
theorem dX11_init_29 : decode cX11_init 29 = .ok (.putfield 908, 3) := by decide +kernel
theorem dX11_init_32 : decode cX11_init 32 = .ok (.aload_n 0, 1) := by decide +kernel
theorem dX11_init_33 : decode cX11_init 33 = .ok (.iconst 1, 1) := by decide +kernel
theorem dX11_init_34 : decode cX11_init 34 = .ok (.putfield 35, 3) := by decide +kernel
theorem dX11_init_37 : decode cX11_init 37 = .ok (.aload_n 0, 1) := by decide +kernel
theorem dX11_init_38 : decode cX11_init 38 = .ok (.bipush 16, 2) := by decide +kernel
theorem dX11_init_40 : decode cX11_init 40 = .ok (.newarray .int, 2) := by decide +kernel
theorem dX11_init_42 : decode cX11_init 42 = .ok (.putfield 52, 3) := by decide +kernel
theorem dX11_init_45 : decode cX11_init 45 = .ok (.aload_n 0, 1) := by decide +kernel
theorem dX11_init_46 : decode cX11_init 46 = .ok (.iconst 1, 1) := by decide +kernel
theorem dX11_init_47 : decode cX11_init 47 = .ok (.putfield 22, 3) := by decide +kernel
theorem dX11_init_50 : decode cX11_init 50 = .ok (.aload_n 0, 1) := by decide +kernel
theorem dX11_init_51 : decode cX11_init 51 = .ok (.sipush 1001, 3) := by decide +kernel
theorem dX11_init_54 : decode cX11_init 54 = .ok (.newarray .int, 2) := by decide +kernel
theorem dX11_init_56 : decode cX11_init 56 = .ok (.putfield 286, 3) := by decide +kernel
theorem dX11_init_59 : decode cX11_init 59 = .ok (.aload_n 0, 1) := by decide +kernel
theorem dX11_init_60 : decode cX11_init 60 = .ok (.sipush 1001, 3) := by decide +kernel
theorem dX11_init_63 : decode cX11_init 63 = .ok (.newarray .int, 2) := by decide +kernel
theorem dX11_init_65 : decode cX11_init 65 = .ok (.putfield 304, 3) := by decide +kernel
theorem dX11_init_68 : decode cX11_init 68 = .ok (.aload_n 0, 1) := by decide +kernel
theorem dX11_init_69 : decode cX11_init 69 = .ok (.sipush 4000, 3) := by decide +kernel
theorem dX11_init_72 : decode cX11_init 72 = .ok (.newarray .int, 2) := by decide +kernel
theorem dX11_init_74 : decode cX11_init 74 = .ok (.putfield 96, 3) := by decide +kernel
theorem dX11_init_77 : decode cX11_init 77 = .ok (.aload_n 0, 1) := by decide +kernel
theorem dX11_init_78 : decode cX11_init 78 = .ok (.sipush 8000, 3) := by decide +kernel
theorem dX11_init_81 : decode cX11_init 81 = .ok (.newarray .byte, 2) := by decide +kernel
theorem dX11_init_83 : decode cX11_init 83 = .ok (.putfield 333, 3) := by decide +kernel
theorem dX11_init_86 : decode cX11_init 86 = .ok (.aload_n 0, 1) := by decide +kernel
theorem dX11_init_87 : decode cX11_init 87 = .ok (.sipush 1000, 3) := by decide +kernel
theorem dX11_init_90 : decode cX11_init 90 = .ok (.newarray .byte, 2) := by decide +kernel
theorem dX11_init_92 : decode cX11_init 92 = .ok (.putfield 340, 3) := by decide +kernel
theorem dX11_init_95 : decode cX11_init 95 = .ok (.aload_n 0, 1) := by decide +kernel
theorem dX11_init_96 : decode cX11_init 96 = .ok (.ldc_w 911, 3) := by decide +kernel
theorem dX11_init_99 : decode cX11_init 99 = .ok (.newarray .int, 2) := by decide +kernel
theorem dX11_init_101 : decode cX11_init 101 = .ok (.putfield 530, 3) := by decide +kernel
theorem dX11_init_104 : decode cX11_init 104 = .ok (.aload_n 0, 1) := by decide +kernel
theorem dX11_init_105 : decode cX11_init 105 = .ok (.ldc_w 912, 3) := by decide +kernel
theorem dX11_init_108 : decode cX11_init 108 = .ok (.newarray .byte, 2) := by decide +kernel
theorem dX11_init_110 : decode cX11_init 110 = .ok (.putfield 556, 3) := by decide +kernel
theorem dX11_init_113 : decode cX11_init 113 = .ok (.aload_n 0, 1) := by decide +kernel
theorem dX11_init_114 : decode cX11_init 114 = .ok (.ldc_w 912, 3) := by decide +kernel
theorem dX11_init_117 : decode cX11_init 117 = .ok (.newarray .int, 2) := by decide +kernel
theorem dX11_init_119 : decode cX11_init 119 = .ok (.putfield 559, 3) := by decide +kernel
theorem dX11_init_122 : decode cX11_init 122 = .ok (.aload_n 0, 1) := by decide +kernel
theorem dX11_init_123 : decode cX11_init 123 = .ok (.ldc_w 912, 3) := by decide +kernel
theorem dX11_init_126 : decode cX11_init 126 = .ok (.newarray .int, 2) := by decide +kernel
theorem dX11_init_128 : decode cX11_init 128 = .ok (.putfield 565, 3) := by decide +kernel
theorem dX11_init_131 : decode cX11_init 131 = .ok (.aload_n 0, 1) := by decide +kernel
theorem dX11_init_132 : decode cX11_init 132 = .ok (.ldc_w 912, 3) := by decide +kernel
theorem dX11_init_135 : decode cX11_init 135 = .ok (.newarray .int, 2) := by decide +kernel
theorem dX11_init_137 : decode cX11_init 137 = .ok (.putfield 568, 3) := by decide +kernel
theorem dX11_init_140 : decode cX11_init 140 = .ok (.aload_n 0, 1) := by decide +kernel
theorem dX11_init_141 : decode cX11_init 141 = .ok (.ldc_w 912, 3) := by decide +kernel
theorem dX11_init_144 : decode cX11_init 144 = .ok (.newarray .int, 2) := by decide +kernel
theorem dX11_init_146 : decode cX11_init 146 = .ok (.putfield 571, 3) := by decide +kernel
theorem dX11_init_149 : decode cX11_init 149 = .ok (.aload_n 0, 1) := by decide +kernel
theorem dX11_init_150 : decode cX11_init 150 = .ok (.ldc_w 912, 3) := by decide +kernel
theorem dX11_init_153 : decode cX11_init 153 = .ok (.newarray .int, 2) := by decide +kernel
theorem dX11_init_155 : decode cX11_init 155 = .ok (.putfield 574, 3) := by decide +kernel
theorem dX11_init_158 : decode cX11_init 158 = .ok (.aload_n 0, 1) := by decide +kernel
theorem dX11_init_159 : decode cX11_init 159 = .ok (.ldc_w 912, 3) := by decide +kernel
theorem dX11_init_162 : decode cX11_init 162 = .ok (.newarray .int, 2) := by decide +kernel
theorem dX11_init_164 : decode cX11_init 164 = .ok (.putfield 580, 3) := by decide +kernel
theorem dX11_init_167 : decode cX11_init 167 = .ok (.aload_n 0, 1) := by decide +kernel
theorem dX11_init_168 : decode cX11_init 168 = .ok (.ldc_w 912, 3) := by decide +kernel
theorem dX11_init_171 : decode cX11_init 171 = .ok (.newarray .int, 2) := by decide +kernel
theorem dX11_init_173 : decode cX11_init 173 = .ok (.putfield 583, 3) := by decide +kernel
theorem dX11_init_176 : decode cX11_init 176 = .ok (.aload_n 0, 1) := by decide +kernel
theorem dX11_init_177 : decode cX11_init 177 = .ok (.sipush 880, 3) := by decide +kernel
theorem dX11_init_180 : decode cX11_init 180 = .ok (.newarray .int, 2) := by decide +kernel
theorem dX11_init_182 : decode cX11_init 182 = .ok (.putfield 653, 3) := by decide +kernel
theorem dX11_init_185 : decode cX11_init 185 = .ok (.aload_n 0, 1) := by decide +kernel
theorem dX11_init_186 : decode cX11_init 186 = .ok (.sipush 880, 3) := by decide +kernel
theorem dX11_init_189 : decode cX11_init 189 = .ok (.newarray .int, 2) := by decide +kernel
theorem dX11_init_191 : decode cX11_init 191 = .ok (.putfield 656, 3) := by decide +kernel
theorem dX11_init_194 : decode cX11_init 194 = .ok (.aload_n 0, 1) := by decide +kernel
theorem dX11_init_195 : decode cX11_init 195 = .ok (.sipush 880, 3) := by decide +kernel
theorem dX11_init_198 : decode cX11_init 198 = .ok (.newarray .int, 2) := by decide +kernel
theorem dX11_init_200 : decode cX11_init 200 = .ok (.putfield 659, 3) := by decide +kernel
theorem dX11_init_203 : decode cX11_init 203 = .ok (.aload_n 0, 1) := by decide +kernel
theorem dX11_init_204 : decode cX11_init 204 = .ok (.sipush 880, 3) := by decide +kernel
theorem dX11_init_207 : decode cX11_init 207 = .ok (.newarray .int, 2) := by decide +kernel
theorem dX11_init_209 : decode cX11_init 209 = .ok (.putfield 683, 3) := by decide +kernel
theorem dX11_init_212 : decode cX11_init 212 = .ok (.aload_n 0, 1) := by decide +kernel
theorem dX11_init_213 : decode cX11_init 213 = .ok (.sipush 880, 3) := by decide +kernel
theorem dX11_init_216 : decode cX11_init 216 = .ok (.newarray .int, 2) := by decide +kernel
theorem dX11_init_218 : decode cX11_init 218 = .ok (.putfield 689, 3) := by decide +kernel
theorem dX11_init_221 : decode cX11_init 221 = .ok (.aload_n 0, 1) := by decide +kernel
theorem dX11_init_222 : decode cX11_init 222 = .ok (.sipush 880, 3) := by decide +kernel
theorem dX11_init_225 : decode cX11_init 225 = .ok (.newarray .int, 2) := by decide +kernel
theorem dX11_init_227 : decode cX11_init 227 = .ok (.putfield 692, 3) := by decide +kernel
theorem dX11_init_230 : decode cX11_init 230 = .ok (.aload_n 0, 1) := by decide +kernel
theorem dX11_init_231 : decode cX11_init 231 = .ok (.bipush 60, 2) := by decide +kernel
theorem dX11_init_233 : decode cX11_init 233 = .ok (.newarray .int, 2) := by decide +kernel
theorem dX11_init_235 : decode cX11_init 235 = .ok (.putfield 668, 3) := by decide +kernel
theorem dX11_init_238 : decode cX11_init 238 = .ok (.aload_n 0, 1) := by decide +kernel
theorem dX11_init_239 : decode cX11_init 239 = .ok (.bipush 60, 2) := by decide +kernel
theorem dX11_init_241 : decode cX11_init 241 = .ok (.newarray .int, 2) := by decide +kernel
theorem dX11_init_243 : decode cX11_init 243 = .ok (.putfield 671, 3) := by decide +kernel
theorem dX11_init_246 : decode cX11_init 246 = .ok (.aload_n 0, 1) := by decide +kernel
theorem dX11_init_247 : decode cX11_init 247 = .ok (.sipush 6000, 3) := by decide +kernel
theorem dX11_init_250 : decode cX11_init 250 = .ok (.newarray .byte, 2) := by decide +kernel
theorem dX11_init_252 : decode cX11_init 252 = .ok (.putfield 677, 3) := by decide +kernel
theorem dX11_init_255 : decode cX11_init 255 = .ok (.aload_n 0, 1) := by decide +kernel
theorem dX11_init_256 : decode cX11_init 256 = .ok (.bipush 41, 2) := by decide +kernel
theorem dX11_init_258 : decode cX11_init 258 = .ok (.newarray .int, 2) := by decide +kernel
theorem dX11_init_260 : decode cX11_init 260 = .ok (.putfield 665, 3) := by decide +kernel
theorem dX11_init_263 : decode cX11_init 263 = .ok (.aload_n 0, 1) := by decide +kernel
theorem dX11_init_264 : decode cX11_init 264 = .ok (.bipush 41, 2) := by decide +kernel
theorem dX11_init_266 : decode cX11_init 266 = .ok (.newarray .int, 2) := by decide +kernel
theorem dX11_init_268 : decode cX11_init 268 = .ok (.putfield 774, 3) := by decide +kernel
theorem dX11_init_271 : decode cX11_init 271 = .ok (.aload_n 0, 1) := by decide +kernel
theorem dX11_init_272 : decode cX11_init 272 = .ok (.bipush 41, 2) := by decide +kernel
theorem dX11_init_274 : decode cX11_init 274 = .ok (.newarray .int, 2) := by decide +kernel
theorem dX11_init_276 : decode cX11_init 276 = .ok (.putfield 777, 3) := by decide +kernel
theorem dX11_init_279 : decode cX11_init 279 = .ok (.aload_n 0, 1) := by decide +kernel
theorem dX11_init_280 : decode cX11_init 280 = .ok (.bipush 41, 2) := by decide +kernel
theorem dX11_init_282 : decode cX11_init 282 = .ok (.newarray .int, 2) := by decide +kernel
theorem dX11_init_284 : decode cX11_init 284 = .ok (.putfield 837, 3) := by decide +kernel
theorem dX11_init_287 : decode cX11_init 287 = .ok (.aload_n 0, 1) := by decide +kernel
theorem dX11_init_288 : decode cX11_init 288 = .ok (.iconst (-1), 1) := by decide +kernel
theorem dX11_init_289 : decode cX11_init 289 = .ok (.putfield 786, 3) := by decide +kernel
theorem dX11_init_292 : decode cX11_init 292 = .ok (.aload_n 0, 1) := by decide +kernel
theorem dX11_init_293 : decode cX11_init 293 = .ok (.bipush 64, 2) := by decide +kernel
theorem dX11_init_295 : decode cX11_init 295 = .ok (.newarray .int, 2) := by decide +kernel
theorem dX11_init_297 : decode cX11_init 297 = .ok (.putfield 795, 3) := by decide +kernel
theorem dX11_init_300 : decode cX11_init 300 = .ok (.aload_n 0, 1) := by decide +kernel
theorem dX11_init_301 : decode cX11_init 301 = .ok (.bipush 64, 2) := by decide +kernel
theorem dX11_init_303 : decode cX11_init 303 = .ok (.newarray .int, 2) := by decide +kernel
theorem dX11_init_305 : decode cX11_init 305 = .ok (.putfield 801, 3) := by decide +kernel
theorem dX11_init_308 : decode cX11_init 308 = .ok (.aload_n 0, 1) := by decide +kernel
theorem dX11_init_309 : decode cX11_init 309 = .ok (.sipush 20002, 3) := by decide +kernel
theorem dX11_init_312 : decode cX11_init 312 = .ok (.newarray .int, 2) := by decide +kernel
theorem dX11_init_314 : decode cX11_init 314 = .ok (.putfield 891, 3) := by decide +kernel
theorem dX11_init_317 : decode cX11_init 317 = .ok (.aload_n 0, 1) := by decide +kernel
theorem dX11_init_318 : decode cX11_init 318 = .ok (.sipush 20002, 3) := by decide +kernel
theorem dX11_init_321 : decode cX11_init 321 = .ok (.newarray .int, 2) := by decide +kernel
theorem dX11_init_323 : decode cX11_init 323 = .ok (.putfield 885, 3) := by decide +kernel
theorem dX11_init_326 : decode cX11_init 326 = .ok (.aload_n 0, 1) := by decide +kernel
theorem dX11_init_327 : decode cX11_init 327 = .ok (.sipush 20002, 3) := by decide +kernel
theorem dX11_init_330 : decode cX11_init 330 = .ok (.newarray .int, 2) := by decide +kernel
theorem dX11_init_332 : decode cX11_init 332 = .ok (.putfield 888, 3) := by decide +kernel
theorem dX11_init_335 : decode cX11_init 335 = .ok (.aload_n 0, 1) := by decide +kernel
theorem dX11_init_336 : decode cX11_init 336 = .ok (.sipush 4000, 3) := by decide +kernel
theorem dX11_init_339 : decode cX11_init 339 = .ok (.newarray .byte, 2) := by decide +kernel
theorem dX11_init_341 : decode cX11_init 341 = .ok (.putfield 913, 3) := by decide +kernel
theorem dX11_init_344 : decode cX11_init 344 = .ok (.aload_n 0, 1) := by decide +kernel
theorem dX11_init_345 : decode cX11_init 345 = .ok (.iconst (-1), 1) := by decide +kernel
theorem dX11_init_346 : decode cX11_init 346 = .ok (.putfield 916, 3) := by decide +kernel
theorem dX11_init_349 : decode cX11_init 349 = .ok (.aload_n 0, 1) := by decide +kernel
theorem dX11_init_350 : decode cX11_init 350 = .ok (.bipush 10, 2) := by decide +kernel
theorem dX11_init_352 : decode cX11_init 352 = .ok (.newarray .int, 2) := by decide +kernel
theorem dX11_init_354 : decode cX11_init 354 = .ok (.putfield 919, 3) := by decide +kernel
theorem dX11_init_357 : decode cX11_init 357 = .ok (.return_, 1) := by decide +kernel
theorem dX11_feed_0 : decode cX11_feed 0 = .ok (.aload_n 0, 1) := by decide +kernel
theorem dX11_feed_1 : decode cX11_feed 1 = .ok (.getfield 922, 3) := by decide +kernel
theorem dX11_feed_4 : decode cX11_feed 4 = .ok (.bipush 20, 2) := by decide +kernel
theorem dX11_feed_6 : decode cX11_feed 6 = .ok (.iadd, 1) := by decide +kernel
theorem dX11_feed_7 : decode cX11_feed 7 = .ok (.sipush 4000, 3) := by decide +kernel
theorem dX11_feed_10 : decode cX11_feed 10 = .ok (.if_icmp .le 5, 3) := by decide +kernel
theorem dX11_feed_15 : decode cX11_feed 15 = .ok (.iconst 0, 1) := by decide +kernel
theorem dX11_feed_16 : decode cX11_feed 16 = .ok (.istore 6, 2) := by decide +kernel
theorem dX11_feed_18 : decode cX11_feed 18 = .ok (.iload 6, 2) := by decide +kernel
theorem dX11_feed_20 : decode cX11_feed 20 = .ok (.bipush 20, 2) := by decide +kernel
theorem dX11_feed_22 : decode cX11_feed 22 = .ok (.if_icmp .ge 83, 3) := by decide +kernel
theorem dX11_feed_25 : decode cX11_feed 25 = .ok (.iload 6, 2) := by decide +kernel
theorem dX11_feed_27 : decode cX11_feed 27 = .ok (.iconst 4, 1) := by decide +kernel
theorem dX11_feed_28 : decode cX11_feed 28 = .ok (.if_icmp .ge 7, 3) := by decide +kernel
theorem dX11_feed_31 : decode cX11_feed 31 = .ok (.iload_n 1, 1) := by decide +kernel
theorem dX11_feed_32 : decode cX11_feed 32 = .ok (.goto 39, 3) := by decide +kernel
theorem dX11_feed_35 : decode cX11_feed 35 = .ok (.iload 6, 2) := by decide +kernel
theorem dX11_feed_37 : decode cX11_feed 37 = .ok (.bipush 8, 2) := by decide +kernel
theorem dX11_feed_39 : decode cX11_feed 39 = .ok (.if_icmp .ge 7, 3) := by decide +kernel
theorem dX11_feed_42 : decode cX11_feed 42 = .ok (.iload_n 2, 1) := by decide +kernel
theorem dX11_feed_43 : decode cX11_feed 43 = .ok (.goto 28, 3) := by decide +kernel
theorem dX11_feed_46 : decode cX11_feed 46 = .ok (.iload 6, 2) := by decide +kernel
theorem dX11_feed_48 : decode cX11_feed 48 = .ok (.bipush 12, 2) := by decide +kernel
theorem dX11_feed_50 : decode cX11_feed 50 = .ok (.if_icmp .ge 7, 3) := by decide +kernel
theorem dX11_feed_53 : decode cX11_feed 53 = .ok (.iload_n 3, 1) := by decide +kernel
theorem dX11_feed_54 : decode cX11_feed 54 = .ok (.goto 17, 3) := by decide +kernel
theorem dX11_feed_57 : decode cX11_feed 57 = .ok (.iload 6, 2) := by decide +kernel
theorem dX11_feed_59 : decode cX11_feed 59 = .ok (.bipush 16, 2) := by decide +kernel
theorem dX11_feed_61 : decode cX11_feed 61 = .ok (.if_icmp .ge 8, 3) := by decide +kernel
theorem dX11_feed_64 : decode cX11_feed 64 = .ok (.iload 4, 2) := by decide +kernel
theorem dX11_feed_66 : decode cX11_feed 66 = .ok (.goto 5, 3) := by decide +kernel
theorem dX11_feed_69 : decode cX11_feed 69 = .ok (.iload 5, 2) := by decide +kernel
theorem dX11_feed_71 : decode cX11_feed 71 = .ok (.istore 7, 2) := by decide +kernel
theorem dX11_feed_73 : decode cX11_feed 73 = .ok (.aload_n 0, 1) := by decide +kernel
theorem dX11_feed_74 : decode cX11_feed 74 = .ok (.getfield 913, 3) := by decide +kernel
theorem dX11_feed_77 : decode cX11_feed 77 = .ok (.aload_n 0, 1) := by decide +kernel
theorem dX11_feed_78 : decode cX11_feed 78 = .ok (.getfield 922, 3) := by decide +kernel
theorem dX11_feed_81 : decode cX11_feed 81 = .ok (.iload 6, 2) := by decide +kernel
theorem dX11_feed_83 : decode cX11_feed 83 = .ok (.iadd, 1) := by decide +kernel
theorem dX11_feed_84 : decode cX11_feed 84 = .ok (.iload 7, 2) := by decide +kernel
theorem dX11_feed_86 : decode cX11_feed 86 = .ok (.bipush 24, 2) := by decide +kernel
theorem dX11_feed_88 : decode cX11_feed 88 = .ok (.bipush 8, 2) := by decide +kernel
theorem dX11_feed_90 : decode cX11_feed 90 = .ok (.iload 6, 2) := by decide +kernel
theorem dX11_feed_92 : decode cX11_feed 92 = .ok (.iconst 3, 1) := by decide +kernel
theorem dX11_feed_93 : decode cX11_feed 93 = .ok (.iand, 1) := by decide +kernel
theorem dX11_feed_94 : decode cX11_feed 94 = .ok (.imul, 1) := by decide +kernel
theorem dX11_feed_95 : decode cX11_feed 95 = .ok (.isub, 1) := by decide +kernel
theorem dX11_feed_96 : decode cX11_feed 96 = .ok (.ishr, 1) := by decide +kernel
theorem dX11_feed_97 : decode cX11_feed 97 = .ok (.i2b, 1) := by decide +kernel
theorem dX11_feed_98 : decode cX11_feed 98 = .ok (.bastore, 1) := by decide +kernel
theorem dX11_feed_99 : decode cX11_feed 99 = .ok (.iinc 6 1, 3) := by decide +kernel
theorem dX11_feed_102 : decode cX11_feed 102 = .ok (.goto (-84), 3) := by decide +kernel
theorem dX11_feed_105 : decode cX11_feed 105 = .ok (.aload_n 0, 1) := by decide +kernel
theorem dX11_feed_106 : decode cX11_feed 106 = .ok (.dup, 1) := by decide +kernel
theorem dX11_feed_107 : decode cX11_feed 107 = .ok (.getfield 922, 3) := by decide +kernel
theorem dX11_feed_110 : decode cX11_feed 110 = .ok (.bipush 20, 2) := by decide +kernel
theorem dX11_feed_112 : decode cX11_feed 112 = .ok (.iadd, 1) := by decide +kernel
theorem dX11_feed_113 : decode cX11_feed 113 = .ok (.putfield 922, 3) := by decide +kernel
theorem dX11_feed_116 : decode cX11_feed 116 = .ok (.aload_n 0, 1) := by decide +kernel
theorem dX11_feed_117 : decode cX11_feed 117 = .ok (.getfield 922, 3) := by decide +kernel
theorem dX11_feed_120 : decode cX11_feed 120 = .ok (.ireturn, 1) := by decide +kernel
theorem dX11_trim_0 : decode cX11_trim 0 = .ok (.iload_n 1, 1) := by decide +kernel
theorem dX11_trim_1 : decode cX11_trim 1 = .ok (.ifCond .lt 11, 3) := by decide +kernel
theorem dX11_trim_4 : decode cX11_trim 4 = .ok (.iload_n 1, 1) := by decide +kernel
theorem dX11_trim_5 : decode cX11_trim 5 = .ok (.aload_n 0, 1) := by decide +kernel
theorem dX11_trim_6 : decode cX11_trim 6 = .ok (.getfield 922, 3) := by decide +kernel
theorem dX11_trim_9 : decode cX11_trim 9 = .ok (.if_icmp .le 5, 3) := by decide +kernel
theorem dX11_trim_12 : decode cX11_trim 12 = .ok (.iconst (-1), 1) := by decide +kernel
theorem dX11_trim_13 : decode cX11_trim 13 = .ok (.ireturn, 1) := by decide +kernel
theorem dX11_trim_14 : decode cX11_trim 14 = .ok (.aload_n 0, 1) := by decide +kernel
theorem dX11_trim_15 : decode cX11_trim 15 = .ok (.iload_n 1, 1) := by decide +kernel
theorem dX11_trim_16 : decode cX11_trim 16 = .ok (.putfield 922, 3) := by decide +kernel
theorem dX11_trim_19 : decode cX11_trim 19 = .ok (.iload_n 1, 1) := by decide +kernel
theorem dX11_trim_20 : decode cX11_trim 20 = .ok (.ireturn, 1) := by decide +kernel
theorem dX11_run_0 : decode cX11_run 0 = .ok (.aload_n 0, 1) := by decide +kernel
theorem dX11_run_1 : decode cX11_run 1 = .ok (.iconst 0, 1) := by decide +kernel
theorem dX11_run_2 : decode cX11_run 2 = .ok (.putfield 1, 3) := by decide +kernel
theorem dX11_run_5 : decode cX11_run 5 = .ok (.aload_n 0, 1) := by decide +kernel
theorem dX11_run_6 : decode cX11_run 6 = .ok (.iconst 0, 1) := by decide +kernel
theorem dX11_run_7 : decode cX11_run 7 = .ok (.putfield 7, 3) := by decide +kernel
theorem dX11_run_10 : decode cX11_run 10 = .ok (.aload_n 0, 1) := by decide +kernel
theorem dX11_run_11 : decode cX11_run 11 = .ok (.iconst 0, 1) := by decide +kernel
theorem dX11_run_12 : decode cX11_run 12 = .ok (.putfield 439, 3) := by decide +kernel
theorem dX11_run_15 : decode cX11_run 15 = .ok (.aload_n 0, 1) := by decide +kernel
theorem dX11_run_16 : decode cX11_run 16 = .ok (.iconst 0, 1) := by decide +kernel
theorem dX11_run_17 : decode cX11_run 17 = .ok (.putfield 527, 3) := by decide +kernel
theorem dX11_run_20 : decode cX11_run 20 = .ok (.aload_n 0, 1) := by decide +kernel
theorem dX11_run_21 : decode cX11_run 21 = .ok (.iconst 0, 1) := by decide +kernel
theorem dX11_run_22 : decode cX11_run 22 = .ok (.putfield 873, 3) := by decide +kernel
theorem dX11_run_25 : decode cX11_run 25 = .ok (.aload_n 0, 1) := by decide +kernel
theorem dX11_run_26 : decode cX11_run 26 = .ok (.iconst 0, 1) := by decide +kernel
theorem dX11_run_27 : decode cX11_run 27 = .ok (.putfield 798, 3) := by decide +kernel
theorem dX11_run_30 : decode cX11_run 30 = .ok (.aload_n 0, 1) := by decide +kernel
theorem dX11_run_31 : decode cX11_run 31 = .ok (.iconst (-1), 1) := by decide +kernel
theorem dX11_run_32 : decode cX11_run 32 = .ok (.putfield 786, 3) := by decide +kernel
theorem dX11_run_35 : decode cX11_run 35 = .ok (.aload_n 0, 1) := by decide +kernel
theorem dX11_run_36 : decode cX11_run 36 = .ok (.iconst 0, 1) := by decide +kernel
theorem dX11_run_37 : decode cX11_run 37 = .ok (.putfield 562, 3) := by decide +kernel
theorem dX11_run_40 : decode cX11_run 40 = .ok (.aload_n 0, 1) := by decide +kernel
theorem dX11_run_41 : decode cX11_run 41 = .ok (.iconst (-1), 1) := by decide +kernel
theorem dX11_run_42 : decode cX11_run 42 = .ok (.putfield 916, 3) := by decide +kernel
theorem dX11_run_45 : decode cX11_run 45 = .ok (.aload_n 0, 1) := by decide +kernel
theorem dX11_run_46 : decode cX11_run 46 = .ok (.iconst 0, 1) := by decide +kernel
theorem dX11_run_47 : decode cX11_run 47 = .ok (.putfield 330, 3) := by decide +kernel
theorem dX11_run_50 : decode cX11_run 50 = .ok (.aload_n 0, 1) := by decide +kernel
theorem dX11_run_51 : decode cX11_run 51 = .ok (.iconst 0, 1) := by decide +kernel
theorem dX11_run_52 : decode cX11_run 52 = .ok (.putfield 925, 3) := by decide +kernel
theorem dX11_run_55 : decode cX11_run 55 = .ok (.iconst 0, 1) := by decide +kernel
theorem dX11_run_56 : decode cX11_run 56 = .ok (.istore_n 1, 1) := by decide +kernel
theorem dX11_run_57 : decode cX11_run 57 = .ok (.iload_n 1, 1) := by decide +kernel
theorem dX11_run_58 : decode cX11_run 58 = .ok (.bipush 60, 2) := by decide +kernel
theorem dX11_run_60 : decode cX11_run 60 = .ok (.if_icmp .ge 26, 3) := by decide +kernel
theorem dX11_run_63 : decode cX11_run 63 = .ok (.aload_n 0, 1) := by decide +kernel
theorem dX11_run_64 : decode cX11_run 64 = .ok (.getfield 653, 3) := by decide +kernel
theorem dX11_run_67 : decode cX11_run 67 = .ok (.iload_n 1, 1) := by decide +kernel
theorem dX11_run_68 : decode cX11_run 68 = .ok (.iaload, 1) := by decide +kernel
theorem dX11_run_69 : decode cX11_run 69 = .ok (.iconst 2, 1) := by decide +kernel
theorem dX11_run_70 : decode cX11_run 70 = .ok (.if_icmp .ne 10, 3) := by decide +kernel
theorem dX11_run_80 : decode cX11_run 80 = .ok (.iinc 1 1, 3) := by decide +kernel
theorem dX11_run_83 : decode cX11_run 83 = .ok (.goto (-26), 3) := by decide +kernel
theorem dX11_run_86 : decode cX11_run 86 = .ok (.iconst 0, 1) := by decide +kernel
theorem dX11_run_87 : decode cX11_run 87 = .ok (.istore_n 1, 1) := by decide +kernel
theorem dX11_run_88 : decode cX11_run 88 = .ok (.iload_n 1, 1) := by decide +kernel
theorem dX11_run_89 : decode cX11_run 89 = .ok (.aload_n 0, 1) := by decide +kernel
theorem dX11_run_90 : decode cX11_run 90 = .ok (.getfield 922, 3) := by decide +kernel
theorem dX11_run_93 : decode cX11_run 93 = .ok (.if_icmp .ge 21, 3) := by decide +kernel
theorem dX11_run_114 : decode cX11_run 114 = .ok (.aload_n 0, 1) := by decide +kernel
theorem dX11_run_115 : decode cX11_run 115 = .ok (.aload_n 0, 1) := by decide +kernel
theorem dX11_run_116 : decode cX11_run 116 = .ok (.getfield 922, 3) := by decide +kernel
theorem dX11_run_119 : decode cX11_run 119 = .ok (.putfield 695, 3) := by decide +kernel
theorem dX11_run_122 : decode cX11_run 122 = .ok (.aload_n 0, 1) := by decide +kernel
theorem dX11_run_123 : decode cX11_run 123 = .ok (.iconst 0, 1) := by decide +kernel
theorem dX11_run_124 : decode cX11_run 124 = .ok (.putfield 922, 3) := by decide +kernel
theorem dX11_run_127 : decode cX11_run 127 = .ok (.aload_n 0, 1) := by decide +kernel
theorem dX11_run_128 : decode cX11_run 128 = .ok (.iconst 0, 1) := by decide +kernel
theorem dX11_run_129 : decode cX11_run 129 = .ok (.aload_n 0, 1) := by decide +kernel
theorem dX11_run_130 : decode cX11_run 130 = .ok (.getfield 695, 3) := by decide +kernel
theorem dX11_run_133 : decode cX11_run 133 = .ok (.invokevirtual 698, 3) := by decide +kernel
theorem dX11_run_136 : decode cX11_run 136 = .ok (.istore_n 1, 1) := by decide +kernel
theorem dX11_run_137 : decode cX11_run 137 = .ok (.aload_n 0, 1) := by decide +kernel
theorem dX11_run_138 : decode cX11_run 138 = .ok (.getfield 562, 3) := by decide +kernel
theorem dX11_run_141 : decode cX11_run 141 = .ok (.istore_n 2, 1) := by decide +kernel
theorem dX11_run_142 : decode cX11_run 142 = .ok (.aload_n 0, 1) := by decide +kernel
theorem dX11_run_143 : decode cX11_run 143 = .ok (.getfield 586, 3) := by decide +kernel
theorem dX11_run_146 : decode cX11_run 146 = .ok (.iconst (-1), 1) := by decide +kernel
theorem dX11_run_147 : decode cX11_run 147 = .ok (.if_icmp .eq 11, 3) := by decide +kernel
theorem dX11_run_158 : decode cX11_run 158 = .ok (.iconst 0, 1) := by decide +kernel
theorem dX11_run_159 : decode cX11_run 159 = .ok (.istore_n 3, 1) := by decide +kernel
theorem dX11_run_160 : decode cX11_run 160 = .ok (.aload_n 0, 1) := by decide +kernel
theorem dX11_run_161 : decode cX11_run 161 = .ok (.getfield 1, 3) := by decide +kernel
theorem dX11_run_164 : decode cX11_run 164 = .ok (.ifCond .ne 52, 3) := by decide +kernel
theorem dX11_run_167 : decode cX11_run 167 = .ok (.iload_n 1, 1) := by decide +kernel
theorem dX11_run_168 : decode cX11_run 168 = .ok (.iload_n 2, 1) := by decide +kernel
theorem dX11_run_169 : decode cX11_run 169 = .ok (.if_icmp .gt 47, 3) := by decide +kernel
theorem dX11_run_172 : decode cX11_run 172 = .ok (.aload_n 0, 1) := by decide +kernel
theorem dX11_run_173 : decode cX11_run 173 = .ok (.iload_n 1, 1) := by decide +kernel
theorem dX11_run_174 : decode cX11_run 174 = .ok (.iload_n 2, 1) := by decide +kernel
theorem dX11_run_175 : decode cX11_run 175 = .ok (.invokevirtual 897, 3) := by decide +kernel
theorem dX11_run_178 : decode cX11_run 178 = .ok (.istore 4, 2) := by decide +kernel
theorem dX11_run_180 : decode cX11_run 180 = .ok (.iload 4, 2) := by decide +kernel
theorem dX11_run_182 : decode cX11_run 182 = .ok (.iload_n 1, 1) := by decide +kernel
theorem dX11_run_183 : decode cX11_run 183 = .ok (.if_icmp .le 10, 3) := by decide +kernel
theorem dX11_run_193 : decode cX11_run 193 = .ok (.aload_n 0, 1) := by decide +kernel
theorem dX11_run_194 : decode cX11_run 194 = .ok (.getfield 1, 3) := by decide +kernel
theorem dX11_run_197 : decode cX11_run 197 = .ok (.ifCond .eq 8, 3) := by decide +kernel
theorem dX11_run_205 : decode cX11_run 205 = .ok (.iinc 3 1, 3) := by decide +kernel
theorem dX11_run_208 : decode cX11_run 208 = .ok (.iload 4, 2) := by decide +kernel
theorem dX11_run_210 : decode cX11_run 210 = .ok (.iconst 1, 1) := by decide +kernel
theorem dX11_run_211 : decode cX11_run 211 = .ok (.iadd, 1) := by decide +kernel
theorem dX11_run_212 : decode cX11_run 212 = .ok (.istore_n 1, 1) := by decide +kernel
theorem dX11_run_213 : decode cX11_run 213 = .ok (.goto (-53), 3) := by decide +kernel
theorem dX11_run_216 : decode cX11_run 216 = .ok (.aload_n 0, 1) := by decide +kernel
theorem dX11_run_217 : decode cX11_run 217 = .ok (.iconst 0, 1) := by decide +kernel
theorem dX11_run_218 : decode cX11_run 218 = .ok (.invokevirtual 882, 3) := by decide +kernel
theorem dX11_run_221 : decode cX11_run 221 = .ok (.aload_n 0, 1) := by decide +kernel
theorem dX11_run_222 : decode cX11_run 222 = .ok (.invokevirtual 931, 3) := by decide +kernel
theorem dX11_run_225 : decode cX11_run 225 = .ok (.aload_n 0, 1) := by decide +kernel
theorem dX11_run_226 : decode cX11_run 226 = .ok (.getfield 1, 3) := by decide +kernel
theorem dX11_run_229 : decode cX11_run 229 = .ok (.ireturn, 1) := by decide +kernel
theorem dX11_settle_0 : decode cX11_settle 0 = .ok (.aload_n 0, 1) := by decide +kernel
theorem dX11_settle_1 : decode cX11_settle 1 = .ok (.iconst 1, 1) := by decide +kernel
theorem dX11_settle_2 : decode cX11_settle 2 = .ok (.putfield 934, 3) := by decide +kernel
theorem dX11_settle_5 : decode cX11_settle 5 = .ok (.iconst 0, 1) := by decide +kernel
theorem dX11_settle_6 : decode cX11_settle 6 = .ok (.istore_n 1, 1) := by decide +kernel
theorem dX11_settle_7 : decode cX11_settle 7 = .ok (.iload_n 1, 1) := by decide +kernel
theorem dX11_settle_8 : decode cX11_settle 8 = .ok (.bipush 60, 2) := by decide +kernel
theorem dX11_settle_10 : decode cX11_settle 10 = .ok (.if_icmp .ge 35, 3) := by decide +kernel
theorem dX11_settle_13 : decode cX11_settle 13 = .ok (.aload_n 0, 1) := by decide +kernel
theorem dX11_settle_14 : decode cX11_settle 14 = .ok (.getfield 653, 3) := by decide +kernel
theorem dX11_settle_17 : decode cX11_settle 17 = .ok (.iload_n 1, 1) := by decide +kernel
theorem dX11_settle_18 : decode cX11_settle 18 = .ok (.iaload, 1) := by decide +kernel
theorem dX11_settle_19 : decode cX11_settle 19 = .ok (.iconst 1, 1) := by decide +kernel
theorem dX11_settle_20 : decode cX11_settle 20 = .ok (.if_icmp .ne 19, 3) := by decide +kernel
theorem dX11_settle_39 : decode cX11_settle 39 = .ok (.iinc 1 1, 3) := by decide +kernel
theorem dX11_settle_42 : decode cX11_settle 42 = .ok (.goto (-35), 3) := by decide +kernel
theorem dX11_settle_45 : decode cX11_settle 45 = .ok (.iconst 1, 1) := by decide +kernel
theorem dX11_settle_46 : decode cX11_settle 46 = .ok (.istore_n 1, 1) := by decide +kernel
theorem dX11_settle_47 : decode cX11_settle 47 = .ok (.iload_n 1, 1) := by decide +kernel
theorem dX11_settle_48 : decode cX11_settle 48 = .ok (.aload_n 0, 1) := by decide +kernel
theorem dX11_settle_49 : decode cX11_settle 49 = .ok (.getfield 934, 3) := by decide +kernel
theorem dX11_settle_52 : decode cX11_settle 52 = .ok (.if_icmp .ge 21, 3) := by decide +kernel
theorem dX11_settle_73 : decode cX11_settle 73 = .ok (.aload_n 0, 1) := by decide +kernel
theorem dX11_settle_74 : decode cX11_settle 74 = .ok (.aload_n 0, 1) := by decide +kernel
theorem dX11_settle_75 : decode cX11_settle 75 = .ok (.getfield 934, 3) := by decide +kernel
theorem dX11_settle_78 : decode cX11_settle 78 = .ok (.putfield 35, 3) := by decide +kernel
theorem dX11_settle_81 : decode cX11_settle 81 = .ok (.return_, 1) := by decide +kernel
theorem dX11_at_0 : decode cX11_at 0 = .ok (.aload_n 0, 1) := by decide +kernel
theorem dX11_at_1 : decode cX11_at 1 = .ok (.getfield 916, 3) := by decide +kernel
theorem dX11_at_4 : decode cX11_at 4 = .ok (.ireturn, 1) := by decide +kernel
theorem dX11_steps_0 : decode cX11_steps 0 = .ok (.aload_n 0, 1) := by decide +kernel
theorem dX11_steps_1 : decode cX11_steps 1 = .ok (.getfield 7, 3) := by decide +kernel
theorem dX11_steps_4 : decode cX11_steps 4 = .ok (.ireturn, 1) := by decide +kernel
theorem dX11_shown_0 : decode cX11_shown 0 = .ok (.aload_n 0, 1) := by decide +kernel
theorem dX11_shown_1 : decode cX11_shown 1 = .ok (.getfield 330, 3) := by decide +kernel
theorem dX11_shown_4 : decode cX11_shown 4 = .ok (.ireturn, 1) := by decide +kernel
theorem dX11_byteAt_0 : decode cX11_byteAt 0 = .ok (.iload_n 1, 1) := by decide +kernel
theorem dX11_byteAt_1 : decode cX11_byteAt 1 = .ok (.ifCond .lt 20, 3) := by decide +kernel
theorem dX11_byteAt_4 : decode cX11_byteAt 4 = .ok (.iload_n 1, 1) := by decide +kernel
theorem dX11_byteAt_5 : decode cX11_byteAt 5 = .ok (.aload_n 0, 1) := by decide +kernel
theorem dX11_byteAt_6 : decode cX11_byteAt 6 = .ok (.getfield 330, 3) := by decide +kernel
theorem dX11_byteAt_9 : decode cX11_byteAt 9 = .ok (.if_icmp .ge 12, 3) := by decide +kernel
theorem dX11_byteAt_21 : decode cX11_byteAt 21 = .ok (.iconst (-1), 1) := by decide +kernel
theorem dX11_byteAt_22 : decode cX11_byteAt 22 = .ok (.ireturn, 1) := by decide +kernel
theorem dX11_taken__0 : decode cX11_taken_ 0 = .ok (.aload_n 0, 1) := by decide +kernel
theorem dX11_taken__1 : decode cX11_taken_ 1 = .ok (.getfield 922, 3) := by decide +kernel
theorem dX11_taken__4 : decode cX11_taken_ 4 = .ok (.istore_n 1, 1) := by decide +kernel
theorem dX11_taken__5 : decode cX11_taken_ 5 = .ok (.aload_n 0, 1) := by decide +kernel
theorem dX11_taken__6 : decode cX11_taken_ 6 = .ok (.iconst 0, 1) := by decide +kernel
theorem dX11_taken__7 : decode cX11_taken_ 7 = .ok (.putfield 922, 3) := by decide +kernel
theorem dX11_taken__10 : decode cX11_taken_ 10 = .ok (.iload_n 1, 1) := by decide +kernel
theorem dX11_taken__11 : decode cX11_taken_ 11 = .ok (.ifCond .le 25, 3) := by decide +kernel
theorem dX11_taken__36 : decode cX11_taken_ 36 = .ok (.iconst 0, 1) := by decide +kernel
theorem dX11_taken__37 : decode cX11_taken_ 37 = .ok (.istore_n 2, 1) := by decide +kernel
theorem dX11_taken__38 : decode cX11_taken_ 38 = .ok (.iconst 0, 1) := by decide +kernel
theorem dX11_taken__39 : decode cX11_taken_ 39 = .ok (.istore_n 3, 1) := by decide +kernel
theorem dX11_taken__40 : decode cX11_taken_ 40 = .ok (.iload_n 3, 1) := by decide +kernel
theorem dX11_taken__41 : decode cX11_taken_ 41 = .ok (.iload_n 1, 1) := by decide +kernel
theorem dX11_taken__42 : decode cX11_taken_ 42 = .ok (.if_icmp .ge 43, 3) := by decide +kernel
theorem dX11_taken__85 : decode cX11_taken_ 85 = .ok (.iload_n 2, 1) := by decide +kernel
theorem dX11_taken__86 : decode cX11_taken_ 86 = .ok (.ifCond .ne 5, 3) := by decide +kernel
theorem dX11_taken__89 : decode cX11_taken_ 89 = .ok (.iconst (-1), 1) := by decide +kernel
theorem dX11_taken__90 : decode cX11_taken_ 90 = .ok (.ireturn, 1) := by decide +kernel
theorem dX11_view_0 : decode cX11_view 0 = .ok (.aload_n 0, 1) := by decide +kernel
theorem dX11_view_1 : decode cX11_view 1 = .ok (.iconst 0, 1) := by decide +kernel
theorem dX11_view_2 : decode cX11_view 2 = .ok (.putfield 925, 3) := by decide +kernel
theorem dX11_view_5 : decode cX11_view 5 = .ok (.aload_n 0, 1) := by decide +kernel
theorem dX11_view_6 : decode cX11_view 6 = .ok (.invokevirtual 940, 3) := by decide +kernel
theorem dX11_view_9 : decode cX11_view 9 = .ok (.istore_n 1, 1) := by decide +kernel
theorem dX11_view_10 : decode cX11_view 10 = .ok (.iload_n 1, 1) := by decide +kernel
theorem dX11_view_11 : decode cX11_view 11 = .ok (.iconst (-1), 1) := by decide +kernel
theorem dX11_view_12 : decode cX11_view 12 = .ok (.if_icmp .ne 5, 3) := by decide +kernel
theorem dX11_view_15 : decode cX11_view 15 = .ok (.iconst (-1), 1) := by decide +kernel
theorem dX11_view_16 : decode cX11_view 16 = .ok (.ireturn, 1) := by decide +kernel
theorem dX11_into_0 : decode cX11_into 0 = .ok (.aload_n 0, 1) := by decide +kernel
theorem dX11_into_1 : decode cX11_into 1 = .ok (.getfield 925, 3) := by decide +kernel
theorem dX11_into_4 : decode cX11_into 4 = .ok (.ifCond .eq 31, 3) := by decide +kernel
theorem dX11_into_35 : decode cX11_into 35 = .ok (.iconst (-1), 1) := by decide +kernel
theorem dX11_into_36 : decode cX11_into 36 = .ok (.ireturn, 1) := by decide +kernel
theorem dX11_back_0 : decode cX11_back 0 = .ok (.aload_n 0, 1) := by decide +kernel
theorem dX11_back_1 : decode cX11_back 1 = .ok (.getfield 925, 3) := by decide +kernel
theorem dX11_back_4 : decode cX11_back 4 = .ok (.iconst 2, 1) := by decide +kernel
theorem dX11_back_5 : decode cX11_back 5 = .ok (.if_icmp .ge 5, 3) := by decide +kernel
theorem dX11_back_8 : decode cX11_back 8 = .ok (.iconst (-1), 1) := by decide +kernel
theorem dX11_back_9 : decode cX11_back 9 = .ok (.ireturn, 1) := by decide +kernel
theorem dX11_about_0 : decode cX11_about 0 = .ok (.aload_n 0, 1) := by decide +kernel
theorem dX11_about_1 : decode cX11_about 1 = .ok (.getfield 925, 3) := by decide +kernel
theorem dX11_about_4 : decode cX11_about 4 = .ok (.ifCond .ne 5, 3) := by decide +kernel
theorem dX11_about_7 : decode cX11_about 7 = .ok (.iconst (-1), 1) := by decide +kernel
theorem dX11_about_8 : decode cX11_about 8 = .ok (.ireturn, 1) := by decide +kernel
theorem dX11_extent__0 : decode cX11_extent_ 0 = .ok (.aload_n 0, 1) := by decide +kernel
theorem dX11_extent__1 : decode cX11_extent_ 1 = .ok (.getfield 925, 3) := by decide +kernel
theorem dX11_extent__4 : decode cX11_extent_ 4 = .ok (.ifCond .eq 19, 3) := by decide +kernel
theorem dX11_extent__23 : decode cX11_extent_ 23 = .ok (.iconst (-1), 1) := by decide +kernel
theorem dX11_extent__24 : decode cX11_extent_ 24 = .ok (.goto 12, 3) := by decide +kernel
theorem dX11_extent__36 : decode cX11_extent_ 36 = .ok (.ireturn, 1) := by decide +kernel
theorem dX11_viewed_0 : decode cX11_viewed 0 = .ok (.aload_n 0, 1) := by decide +kernel
theorem dX11_viewed_1 : decode cX11_viewed 1 = .ok (.getfield 925, 3) := by decide +kernel
theorem dX11_viewed_4 : decode cX11_viewed 4 = .ok (.ifCond .eq 20, 3) := by decide +kernel
theorem dX11_viewed_24 : decode cX11_viewed 24 = .ok (.iconst 0, 1) := by decide +kernel
theorem dX11_viewed_25 : decode cX11_viewed 25 = .ok (.ireturn, 1) := by decide +kernel
theorem dX11_kind_0 : decode cX11_kind 0 = .ok (.aload_n 0, 1) := by decide +kernel
theorem dX11_kind_1 : decode cX11_kind 1 = .ok (.iload_n 1, 1) := by decide +kernel
theorem dX11_kind_2 : decode cX11_kind 2 = .ok (.invokevirtual 949, 3) := by decide +kernel
theorem dX11_kind_5 : decode cX11_kind 5 = .ok (.ifCond .ne 5, 3) := by decide +kernel
theorem dX11_kind_8 : decode cX11_kind 8 = .ok (.iconst (-1), 1) := by decide +kernel
theorem dX11_kind_9 : decode cX11_kind 9 = .ok (.ireturn, 1) := by decide +kernel
theorem dX11_number__0 : decode cX11_number_ 0 = .ok (.aload_n 0, 1) := by decide +kernel
theorem dX11_number__1 : decode cX11_number_ 1 = .ok (.iload_n 1, 1) := by decide +kernel
theorem dX11_number__2 : decode cX11_number_ 2 = .ok (.invokevirtual 949, 3) := by decide +kernel
theorem dX11_number__5 : decode cX11_number_ 5 = .ok (.ifCond .eq 10, 3) := by decide +kernel
theorem dX11_number__15 : decode cX11_number_ 15 = .ok (.iconst 0, 1) := by decide +kernel
theorem dX11_number__16 : decode cX11_number_ 16 = .ok (.ireturn, 1) := by decide +kernel
theorem dX11_told_0 : decode cX11_told 0 = .ok (.iconst 0, 1) := by decide +kernel
theorem dX11_told_1 : decode cX11_told 1 = .ok (.istore_n 2, 1) := by decide +kernel
theorem dX11_told_2 : decode cX11_told 2 = .ok (.iconst 0, 1) := by decide +kernel
theorem dX11_told_3 : decode cX11_told 3 = .ok (.istore_n 3, 1) := by decide +kernel
theorem dX11_told_4 : decode cX11_told 4 = .ok (.iconst 0, 1) := by decide +kernel
theorem dX11_told_5 : decode cX11_told 5 = .ok (.istore 4, 2) := by decide +kernel
theorem dX11_told_7 : decode cX11_told 7 = .ok (.iconst 0, 1) := by decide +kernel
theorem dX11_told_8 : decode cX11_told 8 = .ok (.istore 5, 2) := by decide +kernel
theorem dX11_told_10 : decode cX11_told 10 = .ok (.iload 5, 2) := by decide +kernel
theorem dX11_told_12 : decode cX11_told 12 = .ok (.bipush 60, 2) := by decide +kernel
theorem dX11_told_14 : decode cX11_told 14 = .ok (.if_icmp .ge 78, 3) := by decide +kernel
theorem dX11_told_17 : decode cX11_told 17 = .ok (.iload_n 2, 1) := by decide +kernel
theorem dX11_told_18 : decode cX11_told 18 = .ok (.aload_n 0, 1) := by decide +kernel
theorem dX11_told_19 : decode cX11_told 19 = .ok (.getfield 653, 3) := by decide +kernel
theorem dX11_told_22 : decode cX11_told 22 = .ok (.iload 5, 2) := by decide +kernel
theorem dX11_told_24 : decode cX11_told 24 = .ok (.iaload, 1) := by decide +kernel
theorem dX11_told_25 : decode cX11_told 25 = .ok (.iconst 1, 1) := by decide +kernel
theorem dX11_told_26 : decode cX11_told 26 = .ok (.if_icmp .ne 7, 3) := by decide +kernel
theorem dX11_told_33 : decode cX11_told 33 = .ok (.iconst 0, 1) := by decide +kernel
theorem dX11_told_34 : decode cX11_told 34 = .ok (.iadd, 1) := by decide +kernel
theorem dX11_told_35 : decode cX11_told 35 = .ok (.istore_n 2, 1) := by decide +kernel
theorem dX11_told_36 : decode cX11_told 36 = .ok (.iload_n 3, 1) := by decide +kernel
theorem dX11_told_37 : decode cX11_told 37 = .ok (.aload_n 0, 1) := by decide +kernel
theorem dX11_told_38 : decode cX11_told 38 = .ok (.getfield 653, 3) := by decide +kernel
theorem dX11_told_41 : decode cX11_told 41 = .ok (.iload 5, 2) := by decide +kernel
theorem dX11_told_43 : decode cX11_told 43 = .ok (.iaload, 1) := by decide +kernel
theorem dX11_told_44 : decode cX11_told 44 = .ok (.iconst 2, 1) := by decide +kernel
theorem dX11_told_45 : decode cX11_told 45 = .ok (.if_icmp .ne 7, 3) := by decide +kernel
theorem dX11_told_52 : decode cX11_told 52 = .ok (.iconst 0, 1) := by decide +kernel
theorem dX11_told_53 : decode cX11_told 53 = .ok (.iadd, 1) := by decide +kernel
theorem dX11_told_54 : decode cX11_told 54 = .ok (.istore_n 3, 1) := by decide +kernel
theorem dX11_told_55 : decode cX11_told 55 = .ok (.iload 4, 2) := by decide +kernel
theorem dX11_told_57 : decode cX11_told 57 = .ok (.aload_n 0, 1) := by decide +kernel
theorem dX11_told_58 : decode cX11_told 58 = .ok (.getfield 653, 3) := by decide +kernel
theorem dX11_told_61 : decode cX11_told 61 = .ok (.iload 5, 2) := by decide +kernel
theorem dX11_told_63 : decode cX11_told 63 = .ok (.iaload, 1) := by decide +kernel
theorem dX11_told_64 : decode cX11_told 64 = .ok (.iconst 1, 1) := by decide +kernel
theorem dX11_told_65 : decode cX11_told 65 = .ok (.if_icmp .ne 17, 3) := by decide +kernel
theorem dX11_told_82 : decode cX11_told 82 = .ok (.iconst 0, 1) := by decide +kernel
theorem dX11_told_83 : decode cX11_told 83 = .ok (.iadd, 1) := by decide +kernel
theorem dX11_told_84 : decode cX11_told 84 = .ok (.istore 4, 2) := by decide +kernel
theorem dX11_told_86 : decode cX11_told 86 = .ok (.iinc 5 1, 3) := by decide +kernel
theorem dX11_told_89 : decode cX11_told 89 = .ok (.goto (-79), 3) := by decide +kernel
theorem dX11_told_92 : decode cX11_told 92 = .ok (.iload_n 1, 1) := by decide +kernel
theorem dX11_told_93 : decode cX11_told 93 = .ok (.tableswitch 79 0 7 #[47, 51, 53, 55, 60, 63, 68, 74], 47) := by decide +kernel
theorem dX11_told_140 : decode cX11_told 140 = .ok (.iload_n 2, 1) := by decide +kernel
theorem dX11_told_141 : decode cX11_told 141 = .ok (.iload_n 3, 1) := by decide +kernel
theorem dX11_told_142 : decode cX11_told 142 = .ok (.iadd, 1) := by decide +kernel
theorem dX11_told_143 : decode cX11_told 143 = .ok (.ireturn, 1) := by decide +kernel
theorem dX11_told_144 : decode cX11_told 144 = .ok (.iload_n 2, 1) := by decide +kernel
theorem dX11_told_145 : decode cX11_told 145 = .ok (.ireturn, 1) := by decide +kernel
theorem dX11_told_146 : decode cX11_told 146 = .ok (.iload_n 3, 1) := by decide +kernel
theorem dX11_told_147 : decode cX11_told 147 = .ok (.ireturn, 1) := by decide +kernel
theorem dX11_told_148 : decode cX11_told 148 = .ok (.aload_n 0, 1) := by decide +kernel
theorem dX11_told_149 : decode cX11_told 149 = .ok (.getfield 674, 3) := by decide +kernel
theorem dX11_told_152 : decode cX11_told 152 = .ok (.ireturn, 1) := by decide +kernel
theorem dX11_told_153 : decode cX11_told 153 = .ok (.iload 4, 2) := by decide +kernel
theorem dX11_told_155 : decode cX11_told 155 = .ok (.ireturn, 1) := by decide +kernel
theorem dX11_told_156 : decode cX11_told 156 = .ok (.aload_n 0, 1) := by decide +kernel
theorem dX11_told_157 : decode cX11_told 157 = .ok (.getfield 177, 3) := by decide +kernel
theorem dX11_told_160 : decode cX11_told 160 = .ok (.ireturn, 1) := by decide +kernel
theorem dX11_told_161 : decode cX11_told 161 = .ok (.aload_n 0, 1) := by decide +kernel
theorem dX11_told_162 : decode cX11_told 162 = .ok (.getfield 151, 3) := by decide +kernel
theorem dX11_told_165 : decode cX11_told 165 = .ok (.l2i, 1) := by decide +kernel
theorem dX11_told_166 : decode cX11_told 166 = .ok (.ireturn, 1) := by decide +kernel
theorem dX11_told_167 : decode cX11_told 167 = .ok (.aload_n 0, 1) := by decide +kernel
theorem dX11_told_168 : decode cX11_told 168 = .ok (.getfield 922, 3) := by decide +kernel
theorem dX11_told_171 : decode cX11_told 171 = .ok (.ireturn, 1) := by decide +kernel
theorem dX11_told_172 : decode cX11_told 172 = .ok (.iconst (-1), 1) := by decide +kernel
theorem dX11_told_173 : decode cX11_told 173 = .ok (.ireturn, 1) := by decide +kernel
theorem dX11_forget_0 : decode cX11_forget 0 = .ok (.aload_n 0, 1) := by decide +kernel
theorem dX11_forget_1 : decode cX11_forget 1 = .ok (.invokevirtual 940, 3) := by decide +kernel
theorem dX11_forget_4 : decode cX11_forget 4 = .ok (.istore_n 1, 1) := by decide +kernel
theorem dX11_forget_5 : decode cX11_forget 5 = .ok (.iload_n 1, 1) := by decide +kernel
theorem dX11_forget_6 : decode cX11_forget 6 = .ok (.iconst (-1), 1) := by decide +kernel
theorem dX11_forget_7 : decode cX11_forget 7 = .ok (.if_icmp .ne 5, 3) := by decide +kernel
theorem dX11_forget_10 : decode cX11_forget 10 = .ok (.iconst (-1), 1) := by decide +kernel
theorem dX11_forget_11 : decode cX11_forget 11 = .ok (.ireturn, 1) := by decide +kernel
theorem dX11_set__0 : decode cX11_set_ 0 = .ok (.iload_n 1, 1) := by decide +kernel
theorem dX11_set__1 : decode cX11_set_ 1 = .ok (.ifCond .ne 10, 3) := by decide +kernel
theorem dX11_set__4 : decode cX11_set_ 4 = .ok (.aload_n 0, 1) := by decide +kernel
theorem dX11_set__5 : decode cX11_set_ 5 = .ok (.getfield 177, 3) := by decide +kernel
theorem dX11_set__8 : decode cX11_set_ 8 = .ok (.goto 8, 3) := by decide +kernel
theorem dX11_set__11 : decode cX11_set_ 11 = .ok (.aload_n 0, 1) := by decide +kernel
theorem dX11_set__12 : decode cX11_set_ 12 = .ok (.getfield 151, 3) := by decide +kernel
theorem dX11_set__15 : decode cX11_set_ 15 = .ok (.l2i, 1) := by decide +kernel
theorem dX11_set__16 : decode cX11_set_ 16 = .ok (.istore_n 3, 1) := by decide +kernel
theorem dX11_set__17 : decode cX11_set_ 17 = .ok (.iload_n 1, 1) := by decide +kernel
theorem dX11_set__18 : decode cX11_set_ 18 = .ok (.ifCond .ne 20, 3) := by decide +kernel
theorem dX11_set__21 : decode cX11_set_ 21 = .ok (.iload_n 2, 1) := by decide +kernel
theorem dX11_set__22 : decode cX11_set_ 22 = .ok (.ifCond .lt 16, 3) := by decide +kernel
theorem dX11_set__25 : decode cX11_set_ 25 = .ok (.iload_n 2, 1) := by decide +kernel
theorem dX11_set__26 : decode cX11_set_ 26 = .ok (.iconst 1, 1) := by decide +kernel
theorem dX11_set__27 : decode cX11_set_ 27 = .ok (.if_icmp .gt 11, 3) := by decide +kernel
theorem dX11_set__30 : decode cX11_set_ 30 = .ok (.aload_n 0, 1) := by decide +kernel
theorem dX11_set__31 : decode cX11_set_ 31 = .ok (.iload_n 2, 1) := by decide +kernel
theorem dX11_set__32 : decode cX11_set_ 32 = .ok (.putfield 177, 3) := by decide +kernel
theorem dX11_set__35 : decode cX11_set_ 35 = .ok (.goto 33, 3) := by decide +kernel
theorem dX11_set__38 : decode cX11_set_ 38 = .ok (.iload_n 1, 1) := by decide +kernel
theorem dX11_set__39 : decode cX11_set_ 39 = .ok (.iconst 1, 1) := by decide +kernel
theorem dX11_set__40 : decode cX11_set_ 40 = .ok (.if_icmp .ne 26, 3) := by decide +kernel
theorem dX11_set__43 : decode cX11_set_ 43 = .ok (.iload_n 2, 1) := by decide +kernel
theorem dX11_set__44 : decode cX11_set_ 44 = .ok (.iconst 1, 1) := by decide +kernel
theorem dX11_set__45 : decode cX11_set_ 45 = .ok (.if_icmp .lt 21, 3) := by decide +kernel
theorem dX11_set__48 : decode cX11_set_ 48 = .ok (.iload_n 2, 1) := by decide +kernel
theorem dX11_set__49 : decode cX11_set_ 49 = .ok (.i2l, 1) := by decide +kernel
theorem dX11_set__50 : decode cX11_set_ 50 = .ok (.ldc2_w 155, 3) := by decide +kernel
theorem dX11_set__53 : decode cX11_set_ 53 = .ok (.lcmp, 1) := by decide +kernel
theorem dX11_set__54 : decode cX11_set_ 54 = .ok (.ifCond .ge 12, 3) := by decide +kernel
theorem dX11_set__57 : decode cX11_set_ 57 = .ok (.aload_n 0, 1) := by decide +kernel
theorem dX11_set__58 : decode cX11_set_ 58 = .ok (.iload_n 2, 1) := by decide +kernel
theorem dX11_set__59 : decode cX11_set_ 59 = .ok (.i2l, 1) := by decide +kernel
theorem dX11_set__60 : decode cX11_set_ 60 = .ok (.putfield 151, 3) := by decide +kernel
theorem dX11_set__63 : decode cX11_set_ 63 = .ok (.goto 5, 3) := by decide +kernel
theorem dX11_set__66 : decode cX11_set_ 66 = .ok (.iconst (-1), 1) := by decide +kernel
theorem dX11_set__67 : decode cX11_set_ 67 = .ok (.ireturn, 1) := by decide +kernel
theorem dX11_set__68 : decode cX11_set_ 68 = .ok (.iload_n 3, 1) := by decide +kernel
theorem dX11_set__69 : decode cX11_set_ 69 = .ok (.ireturn, 1) := by decide +kernel
theorem dL_law_0 : decode cL_law 0 = .ok (.new 7, 3) := by decide +kernel
theorem dL_law_3 : decode cL_law 3 = .ok (.dup, 1) := by decide +kernel
theorem dL_law_4 : decode cL_law 4 = .ok (.invokespecial 9, 3) := by decide +kernel
theorem dL_law_7 : decode cL_law 7 = .ok (.astore_n 1, 1) := by decide +kernel
theorem dL_law_8 : decode cL_law 8 = .ok (.new 10, 3) := by decide +kernel
theorem dL_law_11 : decode cL_law 11 = .ok (.dup, 1) := by decide +kernel
theorem dL_law_12 : decode cL_law 12 = .ok (.invokespecial 12, 3) := by decide +kernel
theorem dL_law_15 : decode cL_law 15 = .ok (.astore_n 2, 1) := by decide +kernel
theorem dL_law_16 : decode cL_law 16 = .ok (.iconst 0, 1) := by decide +kernel
theorem dL_law_17 : decode cL_law 17 = .ok (.istore_n 3, 1) := by decide +kernel
theorem dL_law_18 : decode cL_law 18 = .ok (.iload_n 3, 1) := by decide +kernel
theorem dL_law_19 : decode cL_law 19 = .ok (.aload_n 0, 1) := by decide +kernel
theorem dL_law_20 : decode cL_law 20 = .ok (.arraylength, 1) := by decide +kernel
theorem dL_law_21 : decode cL_law 21 = .ok (.bipush 6, 2) := by decide +kernel
theorem dL_law_23 : decode cL_law 23 = .ok (.isub, 1) := by decide +kernel
theorem dL_law_24 : decode cL_law 24 = .ok (.if_icmp .gt 495, 3) := by decide +kernel
theorem dL_law_27 : decode cL_law 27 = .ok (.aload_n 0, 1) := by decide +kernel
theorem dL_law_28 : decode cL_law 28 = .ok (.iload_n 3, 1) := by decide +kernel
theorem dL_law_29 : decode cL_law 29 = .ok (.iaload, 1) := by decide +kernel
theorem dL_law_30 : decode cL_law 30 = .ok (.bipush 31, 2) := by decide +kernel
theorem dL_law_32 : decode cL_law 32 = .ok (.iand, 1) := by decide +kernel
theorem dL_law_33 : decode cL_law 33 = .ok (.tableswitch 480 0 16 #[83, 146, 169, 182, 195, 208, 221, 244, 257, 280, 293, 316, 339, 362, 411, 434, 447], 83) := by decide +kernel
theorem dL_law_116 : decode cL_law 116 = .ok (.aload_n 1, 1) := by decide +kernel
theorem dL_law_117 : decode cL_law 117 = .ok (.aload_n 0, 1) := by decide +kernel
theorem dL_law_118 : decode cL_law 118 = .ok (.iload_n 3, 1) := by decide +kernel
theorem dL_law_119 : decode cL_law 119 = .ok (.iconst 1, 1) := by decide +kernel
theorem dL_law_120 : decode cL_law 120 = .ok (.iadd, 1) := by decide +kernel
theorem dL_law_121 : decode cL_law 121 = .ok (.iaload, 1) := by decide +kernel
theorem dL_law_122 : decode cL_law 122 = .ok (.aload_n 0, 1) := by decide +kernel
theorem dL_law_123 : decode cL_law 123 = .ok (.iload_n 3, 1) := by decide +kernel
theorem dL_law_124 : decode cL_law 124 = .ok (.iconst 2, 1) := by decide +kernel
theorem dL_law_125 : decode cL_law 125 = .ok (.iadd, 1) := by decide +kernel
theorem dL_law_126 : decode cL_law 126 = .ok (.iaload, 1) := by decide +kernel
theorem dL_law_127 : decode cL_law 127 = .ok (.aload_n 0, 1) := by decide +kernel
theorem dL_law_128 : decode cL_law 128 = .ok (.iload_n 3, 1) := by decide +kernel
theorem dL_law_129 : decode cL_law 129 = .ok (.iconst 3, 1) := by decide +kernel
theorem dL_law_130 : decode cL_law 130 = .ok (.iadd, 1) := by decide +kernel
theorem dL_law_131 : decode cL_law 131 = .ok (.iaload, 1) := by decide +kernel
theorem dL_law_132 : decode cL_law 132 = .ok (.aload_n 0, 1) := by decide +kernel
theorem dL_law_133 : decode cL_law 133 = .ok (.iload_n 3, 1) := by decide +kernel
theorem dL_law_134 : decode cL_law 134 = .ok (.iconst 4, 1) := by decide +kernel
theorem dL_law_135 : decode cL_law 135 = .ok (.iadd, 1) := by decide +kernel
theorem dL_law_136 : decode cL_law 136 = .ok (.iaload, 1) := by decide +kernel
theorem dL_law_137 : decode cL_law 137 = .ok (.aload_n 0, 1) := by decide +kernel
theorem dL_law_138 : decode cL_law 138 = .ok (.iload_n 3, 1) := by decide +kernel
theorem dL_law_139 : decode cL_law 139 = .ok (.iconst 5, 1) := by decide +kernel
theorem dL_law_140 : decode cL_law 140 = .ok (.iadd, 1) := by decide +kernel
theorem dL_law_141 : decode cL_law 141 = .ok (.iaload, 1) := by decide +kernel
theorem dL_law_142 : decode cL_law 142 = .ok (.invokevirtual 13, 3) := by decide +kernel
theorem dL_law_145 : decode cL_law 145 = .ok (.aload_n 2, 1) := by decide +kernel
theorem dL_law_146 : decode cL_law 146 = .ok (.aload_n 0, 1) := by decide +kernel
theorem dL_law_147 : decode cL_law 147 = .ok (.iload_n 3, 1) := by decide +kernel
theorem dL_law_148 : decode cL_law 148 = .ok (.iconst 1, 1) := by decide +kernel
theorem dL_law_149 : decode cL_law 149 = .ok (.iadd, 1) := by decide +kernel
theorem dL_law_150 : decode cL_law 150 = .ok (.iaload, 1) := by decide +kernel
theorem dL_law_151 : decode cL_law 151 = .ok (.aload_n 0, 1) := by decide +kernel
theorem dL_law_152 : decode cL_law 152 = .ok (.iload_n 3, 1) := by decide +kernel
theorem dL_law_153 : decode cL_law 153 = .ok (.iconst 2, 1) := by decide +kernel
theorem dL_law_154 : decode cL_law 154 = .ok (.iadd, 1) := by decide +kernel
theorem dL_law_155 : decode cL_law 155 = .ok (.iaload, 1) := by decide +kernel
theorem dL_law_156 : decode cL_law 156 = .ok (.aload_n 0, 1) := by decide +kernel
theorem dL_law_157 : decode cL_law 157 = .ok (.iload_n 3, 1) := by decide +kernel
theorem dL_law_158 : decode cL_law 158 = .ok (.iconst 3, 1) := by decide +kernel
theorem dL_law_159 : decode cL_law 159 = .ok (.iadd, 1) := by decide +kernel
theorem dL_law_160 : decode cL_law 160 = .ok (.iaload, 1) := by decide +kernel
theorem dL_law_161 : decode cL_law 161 = .ok (.aload_n 0, 1) := by decide +kernel
theorem dL_law_162 : decode cL_law 162 = .ok (.iload_n 3, 1) := by decide +kernel
theorem dL_law_163 : decode cL_law 163 = .ok (.iconst 4, 1) := by decide +kernel
theorem dL_law_164 : decode cL_law 164 = .ok (.iadd, 1) := by decide +kernel
theorem dL_law_165 : decode cL_law 165 = .ok (.iaload, 1) := by decide +kernel
theorem dL_law_166 : decode cL_law 166 = .ok (.aload_n 0, 1) := by decide +kernel
theorem dL_law_167 : decode cL_law 167 = .ok (.iload_n 3, 1) := by decide +kernel
theorem dL_law_168 : decode cL_law 168 = .ok (.iconst 5, 1) := by decide +kernel
theorem dL_law_169 : decode cL_law 169 = .ok (.iadd, 1) := by decide +kernel
theorem dL_law_170 : decode cL_law 170 = .ok (.iaload, 1) := by decide +kernel
theorem dL_law_171 : decode cL_law 171 = .ok (.invokevirtual 17, 3) := by decide +kernel
theorem dL_law_174 : decode cL_law 174 = .ok (.if_icmp .eq 339, 3) := by decide +kernel
theorem dL_law_179 : decode cL_law 179 = .ok (.aload_n 1, 1) := by decide +kernel
theorem dL_law_180 : decode cL_law 180 = .ok (.aload_n 0, 1) := by decide +kernel
theorem dL_law_181 : decode cL_law 181 = .ok (.iload_n 3, 1) := by decide +kernel
theorem dL_law_182 : decode cL_law 182 = .ok (.iconst 1, 1) := by decide +kernel
theorem dL_law_183 : decode cL_law 183 = .ok (.iadd, 1) := by decide +kernel
theorem dL_law_184 : decode cL_law 184 = .ok (.iaload, 1) := by decide +kernel
theorem dL_law_185 : decode cL_law 185 = .ok (.invokevirtual 18, 3) := by decide +kernel
theorem dL_law_188 : decode cL_law 188 = .ok (.aload_n 2, 1) := by decide +kernel
theorem dL_law_189 : decode cL_law 189 = .ok (.aload_n 0, 1) := by decide +kernel
theorem dL_law_190 : decode cL_law 190 = .ok (.iload_n 3, 1) := by decide +kernel
theorem dL_law_191 : decode cL_law 191 = .ok (.iconst 1, 1) := by decide +kernel
theorem dL_law_192 : decode cL_law 192 = .ok (.iadd, 1) := by decide +kernel
theorem dL_law_193 : decode cL_law 193 = .ok (.iaload, 1) := by decide +kernel
theorem dL_law_194 : decode cL_law 194 = .ok (.invokevirtual 22, 3) := by decide +kernel
theorem dL_law_197 : decode cL_law 197 = .ok (.if_icmp .eq 316, 3) := by decide +kernel
theorem dL_law_202 : decode cL_law 202 = .ok (.aload_n 1, 1) := by decide +kernel
theorem dL_law_203 : decode cL_law 203 = .ok (.invokevirtual 23, 3) := by decide +kernel
theorem dL_law_206 : decode cL_law 206 = .ok (.aload_n 2, 1) := by decide +kernel
theorem dL_law_207 : decode cL_law 207 = .ok (.invokevirtual 27, 3) := by decide +kernel
theorem dL_law_210 : decode cL_law 210 = .ok (.if_icmp .eq 303, 3) := by decide +kernel
theorem dL_law_215 : decode cL_law 215 = .ok (.aload_n 1, 1) := by decide +kernel
theorem dL_law_216 : decode cL_law 216 = .ok (.invokevirtual 28, 3) := by decide +kernel
theorem dL_law_219 : decode cL_law 219 = .ok (.aload_n 2, 1) := by decide +kernel
theorem dL_law_220 : decode cL_law 220 = .ok (.invokevirtual 31, 3) := by decide +kernel
theorem dL_law_223 : decode cL_law 223 = .ok (.if_icmp .eq 290, 3) := by decide +kernel
theorem dL_law_228 : decode cL_law 228 = .ok (.aload_n 1, 1) := by decide +kernel
theorem dL_law_229 : decode cL_law 229 = .ok (.invokevirtual 32, 3) := by decide +kernel
theorem dL_law_232 : decode cL_law 232 = .ok (.aload_n 2, 1) := by decide +kernel
theorem dL_law_233 : decode cL_law 233 = .ok (.invokevirtual 35, 3) := by decide +kernel
theorem dL_law_236 : decode cL_law 236 = .ok (.if_icmp .eq 277, 3) := by decide +kernel
theorem dL_law_241 : decode cL_law 241 = .ok (.aload_n 1, 1) := by decide +kernel
theorem dL_law_242 : decode cL_law 242 = .ok (.invokevirtual 36, 3) := by decide +kernel
theorem dL_law_245 : decode cL_law 245 = .ok (.aload_n 2, 1) := by decide +kernel
theorem dL_law_246 : decode cL_law 246 = .ok (.invokevirtual 39, 3) := by decide +kernel
theorem dL_law_249 : decode cL_law 249 = .ok (.if_icmp .eq 264, 3) := by decide +kernel
theorem dL_law_254 : decode cL_law 254 = .ok (.aload_n 1, 1) := by decide +kernel
theorem dL_law_255 : decode cL_law 255 = .ok (.aload_n 0, 1) := by decide +kernel
theorem dL_law_256 : decode cL_law 256 = .ok (.iload_n 3, 1) := by decide +kernel
theorem dL_law_257 : decode cL_law 257 = .ok (.iconst 1, 1) := by decide +kernel
theorem dL_law_258 : decode cL_law 258 = .ok (.iadd, 1) := by decide +kernel
theorem dL_law_259 : decode cL_law 259 = .ok (.iaload, 1) := by decide +kernel
theorem dL_law_260 : decode cL_law 260 = .ok (.invokevirtual 40, 3) := by decide +kernel
theorem dL_law_263 : decode cL_law 263 = .ok (.aload_n 2, 1) := by decide +kernel
theorem dL_law_264 : decode cL_law 264 = .ok (.aload_n 0, 1) := by decide +kernel
theorem dL_law_265 : decode cL_law 265 = .ok (.iload_n 3, 1) := by decide +kernel
theorem dL_law_266 : decode cL_law 266 = .ok (.iconst 1, 1) := by decide +kernel
theorem dL_law_267 : decode cL_law 267 = .ok (.iadd, 1) := by decide +kernel
theorem dL_law_268 : decode cL_law 268 = .ok (.iaload, 1) := by decide +kernel
theorem dL_law_269 : decode cL_law 269 = .ok (.invokevirtual 43, 3) := by decide +kernel
theorem dL_law_272 : decode cL_law 272 = .ok (.if_icmp .eq 241, 3) := by decide +kernel
theorem dL_law_277 : decode cL_law 277 = .ok (.aload_n 1, 1) := by decide +kernel
theorem dL_law_278 : decode cL_law 278 = .ok (.invokevirtual 44, 3) := by decide +kernel
theorem dL_law_281 : decode cL_law 281 = .ok (.aload_n 2, 1) := by decide +kernel
theorem dL_law_282 : decode cL_law 282 = .ok (.invokevirtual 47, 3) := by decide +kernel
theorem dL_law_285 : decode cL_law 285 = .ok (.if_icmp .eq 228, 3) := by decide +kernel
theorem dL_law_290 : decode cL_law 290 = .ok (.aload_n 1, 1) := by decide +kernel
theorem dL_law_291 : decode cL_law 291 = .ok (.aload_n 0, 1) := by decide +kernel
theorem dL_law_292 : decode cL_law 292 = .ok (.iload_n 3, 1) := by decide +kernel
theorem dL_law_293 : decode cL_law 293 = .ok (.iconst 1, 1) := by decide +kernel
theorem dL_law_294 : decode cL_law 294 = .ok (.iadd, 1) := by decide +kernel
theorem dL_law_295 : decode cL_law 295 = .ok (.iaload, 1) := by decide +kernel
theorem dL_law_296 : decode cL_law 296 = .ok (.invokevirtual 48, 3) := by decide +kernel
theorem dL_law_299 : decode cL_law 299 = .ok (.aload_n 2, 1) := by decide +kernel
theorem dL_law_300 : decode cL_law 300 = .ok (.aload_n 0, 1) := by decide +kernel
theorem dL_law_301 : decode cL_law 301 = .ok (.iload_n 3, 1) := by decide +kernel
theorem dL_law_302 : decode cL_law 302 = .ok (.iconst 1, 1) := by decide +kernel
theorem dL_law_303 : decode cL_law 303 = .ok (.iadd, 1) := by decide +kernel
theorem dL_law_304 : decode cL_law 304 = .ok (.iaload, 1) := by decide +kernel
theorem dL_law_305 : decode cL_law 305 = .ok (.invokevirtual 51, 3) := by decide +kernel
theorem dL_law_308 : decode cL_law 308 = .ok (.if_icmp .eq 205, 3) := by decide +kernel
theorem dL_law_313 : decode cL_law 313 = .ok (.aload_n 1, 1) := by decide +kernel
theorem dL_law_314 : decode cL_law 314 = .ok (.invokevirtual 52, 3) := by decide +kernel
theorem dL_law_317 : decode cL_law 317 = .ok (.aload_n 2, 1) := by decide +kernel
theorem dL_law_318 : decode cL_law 318 = .ok (.invokevirtual 55, 3) := by decide +kernel
theorem dL_law_321 : decode cL_law 321 = .ok (.if_icmp .eq 192, 3) := by decide +kernel
theorem dL_law_326 : decode cL_law 326 = .ok (.aload_n 1, 1) := by decide +kernel
theorem dL_law_327 : decode cL_law 327 = .ok (.aload_n 0, 1) := by decide +kernel
theorem dL_law_328 : decode cL_law 328 = .ok (.iload_n 3, 1) := by decide +kernel
theorem dL_law_329 : decode cL_law 329 = .ok (.iconst 1, 1) := by decide +kernel
theorem dL_law_330 : decode cL_law 330 = .ok (.iadd, 1) := by decide +kernel
theorem dL_law_331 : decode cL_law 331 = .ok (.iaload, 1) := by decide +kernel
theorem dL_law_332 : decode cL_law 332 = .ok (.invokevirtual 56, 3) := by decide +kernel
theorem dL_law_335 : decode cL_law 335 = .ok (.aload_n 2, 1) := by decide +kernel
theorem dL_law_336 : decode cL_law 336 = .ok (.aload_n 0, 1) := by decide +kernel
theorem dL_law_337 : decode cL_law 337 = .ok (.iload_n 3, 1) := by decide +kernel
theorem dL_law_338 : decode cL_law 338 = .ok (.iconst 1, 1) := by decide +kernel
theorem dL_law_339 : decode cL_law 339 = .ok (.iadd, 1) := by decide +kernel
theorem dL_law_340 : decode cL_law 340 = .ok (.iaload, 1) := by decide +kernel
theorem dL_law_341 : decode cL_law 341 = .ok (.invokevirtual 59, 3) := by decide +kernel
theorem dL_law_344 : decode cL_law 344 = .ok (.if_icmp .eq 169, 3) := by decide +kernel
theorem dL_law_349 : decode cL_law 349 = .ok (.aload_n 1, 1) := by decide +kernel
theorem dL_law_350 : decode cL_law 350 = .ok (.aload_n 0, 1) := by decide +kernel
theorem dL_law_351 : decode cL_law 351 = .ok (.iload_n 3, 1) := by decide +kernel
theorem dL_law_352 : decode cL_law 352 = .ok (.iconst 1, 1) := by decide +kernel
theorem dL_law_353 : decode cL_law 353 = .ok (.iadd, 1) := by decide +kernel
theorem dL_law_354 : decode cL_law 354 = .ok (.iaload, 1) := by decide +kernel
theorem dL_law_355 : decode cL_law 355 = .ok (.invokevirtual 60, 3) := by decide +kernel
theorem dL_law_358 : decode cL_law 358 = .ok (.aload_n 2, 1) := by decide +kernel
theorem dL_law_359 : decode cL_law 359 = .ok (.aload_n 0, 1) := by decide +kernel
theorem dL_law_360 : decode cL_law 360 = .ok (.iload_n 3, 1) := by decide +kernel
theorem dL_law_361 : decode cL_law 361 = .ok (.iconst 1, 1) := by decide +kernel
theorem dL_law_362 : decode cL_law 362 = .ok (.iadd, 1) := by decide +kernel
theorem dL_law_363 : decode cL_law 363 = .ok (.iaload, 1) := by decide +kernel
theorem dL_law_364 : decode cL_law 364 = .ok (.invokevirtual 63, 3) := by decide +kernel
theorem dL_law_367 : decode cL_law 367 = .ok (.if_icmp .eq 146, 3) := by decide +kernel
theorem dL_law_372 : decode cL_law 372 = .ok (.aload_n 1, 1) := by decide +kernel
theorem dL_law_373 : decode cL_law 373 = .ok (.aload_n 0, 1) := by decide +kernel
theorem dL_law_374 : decode cL_law 374 = .ok (.iload_n 3, 1) := by decide +kernel
theorem dL_law_375 : decode cL_law 375 = .ok (.iconst 1, 1) := by decide +kernel
theorem dL_law_376 : decode cL_law 376 = .ok (.iadd, 1) := by decide +kernel
theorem dL_law_377 : decode cL_law 377 = .ok (.iaload, 1) := by decide +kernel
theorem dL_law_378 : decode cL_law 378 = .ok (.invokevirtual 64, 3) := by decide +kernel
theorem dL_law_381 : decode cL_law 381 = .ok (.aload_n 2, 1) := by decide +kernel
theorem dL_law_382 : decode cL_law 382 = .ok (.aload_n 0, 1) := by decide +kernel
theorem dL_law_383 : decode cL_law 383 = .ok (.iload_n 3, 1) := by decide +kernel
theorem dL_law_384 : decode cL_law 384 = .ok (.iconst 1, 1) := by decide +kernel
theorem dL_law_385 : decode cL_law 385 = .ok (.iadd, 1) := by decide +kernel
theorem dL_law_386 : decode cL_law 386 = .ok (.iaload, 1) := by decide +kernel
theorem dL_law_387 : decode cL_law 387 = .ok (.invokevirtual 67, 3) := by decide +kernel
theorem dL_law_390 : decode cL_law 390 = .ok (.if_icmp .eq 123, 3) := by decide +kernel
theorem dL_law_395 : decode cL_law 395 = .ok (.aload_n 1, 1) := by decide +kernel
theorem dL_law_396 : decode cL_law 396 = .ok (.aload_n 0, 1) := by decide +kernel
theorem dL_law_397 : decode cL_law 397 = .ok (.iload_n 3, 1) := by decide +kernel
theorem dL_law_398 : decode cL_law 398 = .ok (.iconst 1, 1) := by decide +kernel
theorem dL_law_399 : decode cL_law 399 = .ok (.iadd, 1) := by decide +kernel
theorem dL_law_400 : decode cL_law 400 = .ok (.iaload, 1) := by decide +kernel
theorem dL_law_401 : decode cL_law 401 = .ok (.aload_n 0, 1) := by decide +kernel
theorem dL_law_402 : decode cL_law 402 = .ok (.iload_n 3, 1) := by decide +kernel
theorem dL_law_403 : decode cL_law 403 = .ok (.iconst 2, 1) := by decide +kernel
theorem dL_law_404 : decode cL_law 404 = .ok (.iadd, 1) := by decide +kernel
theorem dL_law_405 : decode cL_law 405 = .ok (.iaload, 1) := by decide +kernel
theorem dL_law_406 : decode cL_law 406 = .ok (.ifCond .eq 7, 3) := by decide +kernel
theorem dL_law_409 : decode cL_law 409 = .ok (.iconst 1, 1) := by decide +kernel
theorem dL_law_410 : decode cL_law 410 = .ok (.goto 4, 3) := by decide +kernel
theorem dL_law_413 : decode cL_law 413 = .ok (.iconst 0, 1) := by decide +kernel
theorem dL_law_414 : decode cL_law 414 = .ok (.invokevirtual 68, 3) := by decide +kernel
theorem dL_law_417 : decode cL_law 417 = .ok (.aload_n 2, 1) := by decide +kernel
theorem dL_law_418 : decode cL_law 418 = .ok (.aload_n 0, 1) := by decide +kernel
theorem dL_law_419 : decode cL_law 419 = .ok (.iload_n 3, 1) := by decide +kernel
theorem dL_law_420 : decode cL_law 420 = .ok (.iconst 1, 1) := by decide +kernel
theorem dL_law_421 : decode cL_law 421 = .ok (.iadd, 1) := by decide +kernel
theorem dL_law_422 : decode cL_law 422 = .ok (.iaload, 1) := by decide +kernel
theorem dL_law_423 : decode cL_law 423 = .ok (.aload_n 0, 1) := by decide +kernel
theorem dL_law_424 : decode cL_law 424 = .ok (.iload_n 3, 1) := by decide +kernel
theorem dL_law_425 : decode cL_law 425 = .ok (.iconst 2, 1) := by decide +kernel
theorem dL_law_426 : decode cL_law 426 = .ok (.iadd, 1) := by decide +kernel
theorem dL_law_427 : decode cL_law 427 = .ok (.iaload, 1) := by decide +kernel
theorem dL_law_428 : decode cL_law 428 = .ok (.ifCond .eq 7, 3) := by decide +kernel
theorem dL_law_431 : decode cL_law 431 = .ok (.iconst 1, 1) := by decide +kernel
theorem dL_law_432 : decode cL_law 432 = .ok (.goto 4, 3) := by decide +kernel
theorem dL_law_435 : decode cL_law 435 = .ok (.iconst 0, 1) := by decide +kernel
theorem dL_law_436 : decode cL_law 436 = .ok (.invokevirtual 72, 3) := by decide +kernel
theorem dL_law_439 : decode cL_law 439 = .ok (.if_icmp .eq 74, 3) := by decide +kernel
theorem dL_law_444 : decode cL_law 444 = .ok (.aload_n 1, 1) := by decide +kernel
theorem dL_law_445 : decode cL_law 445 = .ok (.aload_n 0, 1) := by decide +kernel
theorem dL_law_446 : decode cL_law 446 = .ok (.iload_n 3, 1) := by decide +kernel
theorem dL_law_447 : decode cL_law 447 = .ok (.iconst 1, 1) := by decide +kernel
theorem dL_law_448 : decode cL_law 448 = .ok (.iadd, 1) := by decide +kernel
theorem dL_law_449 : decode cL_law 449 = .ok (.iaload, 1) := by decide +kernel
theorem dL_law_450 : decode cL_law 450 = .ok (.invokevirtual 73, 3) := by decide +kernel
theorem dL_law_453 : decode cL_law 453 = .ok (.aload_n 2, 1) := by decide +kernel
theorem dL_law_454 : decode cL_law 454 = .ok (.aload_n 0, 1) := by decide +kernel
theorem dL_law_455 : decode cL_law 455 = .ok (.iload_n 3, 1) := by decide +kernel
theorem dL_law_456 : decode cL_law 456 = .ok (.iconst 1, 1) := by decide +kernel
theorem dL_law_457 : decode cL_law 457 = .ok (.iadd, 1) := by decide +kernel
theorem dL_law_458 : decode cL_law 458 = .ok (.iaload, 1) := by decide +kernel
theorem dL_law_459 : decode cL_law 459 = .ok (.invokevirtual 76, 3) := by decide +kernel
theorem dL_law_462 : decode cL_law 462 = .ok (.if_icmp .eq 51, 3) := by decide +kernel
theorem dL_law_467 : decode cL_law 467 = .ok (.aload_n 1, 1) := by decide +kernel
theorem dL_law_468 : decode cL_law 468 = .ok (.invokevirtual 77, 3) := by decide +kernel
theorem dL_law_471 : decode cL_law 471 = .ok (.aload_n 2, 1) := by decide +kernel
theorem dL_law_472 : decode cL_law 472 = .ok (.invokevirtual 80, 3) := by decide +kernel
theorem dL_law_475 : decode cL_law 475 = .ok (.if_icmp .eq 38, 3) := by decide +kernel
theorem dL_law_480 : decode cL_law 480 = .ok (.aload_n 1, 1) := by decide +kernel
theorem dL_law_481 : decode cL_law 481 = .ok (.aload_n 0, 1) := by decide +kernel
theorem dL_law_482 : decode cL_law 482 = .ok (.iload_n 3, 1) := by decide +kernel
theorem dL_law_483 : decode cL_law 483 = .ok (.iconst 1, 1) := by decide +kernel
theorem dL_law_484 : decode cL_law 484 = .ok (.iadd, 1) := by decide +kernel
theorem dL_law_485 : decode cL_law 485 = .ok (.iaload, 1) := by decide +kernel
theorem dL_law_486 : decode cL_law 486 = .ok (.aload_n 0, 1) := by decide +kernel
theorem dL_law_487 : decode cL_law 487 = .ok (.iload_n 3, 1) := by decide +kernel
theorem dL_law_488 : decode cL_law 488 = .ok (.iconst 2, 1) := by decide +kernel
theorem dL_law_489 : decode cL_law 489 = .ok (.iadd, 1) := by decide +kernel
theorem dL_law_490 : decode cL_law 490 = .ok (.iaload, 1) := by decide +kernel
theorem dL_law_491 : decode cL_law 491 = .ok (.invokevirtual 81, 3) := by decide +kernel
theorem dL_law_494 : decode cL_law 494 = .ok (.aload_n 2, 1) := by decide +kernel
theorem dL_law_495 : decode cL_law 495 = .ok (.aload_n 0, 1) := by decide +kernel
theorem dL_law_496 : decode cL_law 496 = .ok (.iload_n 3, 1) := by decide +kernel
theorem dL_law_497 : decode cL_law 497 = .ok (.iconst 1, 1) := by decide +kernel
theorem dL_law_498 : decode cL_law 498 = .ok (.iadd, 1) := by decide +kernel
theorem dL_law_499 : decode cL_law 499 = .ok (.iaload, 1) := by decide +kernel
theorem dL_law_500 : decode cL_law 500 = .ok (.aload_n 0, 1) := by decide +kernel
theorem dL_law_501 : decode cL_law 501 = .ok (.iload_n 3, 1) := by decide +kernel
theorem dL_law_502 : decode cL_law 502 = .ok (.iconst 2, 1) := by decide +kernel
theorem dL_law_503 : decode cL_law 503 = .ok (.iadd, 1) := by decide +kernel
theorem dL_law_504 : decode cL_law 504 = .ok (.iaload, 1) := by decide +kernel
theorem dL_law_505 : decode cL_law 505 = .ok (.invokevirtual 85, 3) := by decide +kernel
theorem dL_law_508 : decode cL_law 508 = .ok (.if_icmp .eq 5, 3) := by decide +kernel
theorem dL_law_513 : decode cL_law 513 = .ok (.iinc 3 6, 3) := by decide +kernel
theorem dL_law_516 : decode cL_law 516 = .ok (.goto (-498), 3) := by decide +kernel
theorem dL_law_519 : decode cL_law 519 = .ok (.iconst 1, 1) := by decide +kernel
theorem dL_law_520 : decode cL_law 520 = .ok (.ireturn, 1) := by decide +kernel
abbrev vwCl : List vw_C := [(RX0, TX0, 6), (RX1, TX1, 9), (RX2, TX2, 5), (RX3, TX3, 16), (RX4, TX4, 13), (RX5, TX5, 4), (RX6, TX6, 5), (RX7, TX7, 5), (RX8, TX8, 8), (RX9, TX9, 4), (RX10, TX10, 11), (RX11, TX11, 76)]
end
section
def WB : List Cond := [.classLink RL 7 RX10, .instantiable RX10 11, .initialized RX10, .methodLink RX10 1 Lib.objectInit, .instanceMethod Lib.objectInit, .code Lib.objectInit ⟨#[0xb1]⟩ 1 none, .classLink RX10 7 RX7, .instantiable RX7 5, .initialized RX7, .methodLink RX7 3 Lib.objectInit, .fieldLink RX7 9 "ArrayHouse$State" "origin" "I", .fieldLink RX7 15 "ArrayHouse$State" "link" "I", .code yX7_init cX7_init 1 none, .instanceMethod yX7_init, .fieldLink RX10 10 "ArrayHouse" "state" "LArrayHouse$State;", .classLink RX10 16 RX1, .instantiable RX1 9, .initialized RX1, .methodLink RX1 3 Lib.objectInit, .arrayClass .int, .fieldLink RX1 9 "ArrayHouse$Heap" "shape" "[I", .fieldLink RX1 15 "ArrayHouse$Heap" "words" "[I", .fieldLink RX1 18 "ArrayHouse$Heap" "spare" "[I", .fieldLink RX1 21 "ArrayHouse$Heap" "top" "I", .fieldLink RX1 25 "ArrayHouse$Heap" "base" "I", .fieldLink RX1 28 "ArrayHouse$Heap" "fillD" "I", .fieldLink RX1 31 "ArrayHouse$Heap" "state" "LArrayHouse$State;", .code yX1_init cX1_init 2 none, .instanceMethod yX1_init, .fieldLink RX10 21 "ArrayHouse" "heap" "LArrayHouse$Heap;", .classLink RX10 25 RX8, .instantiable RX8 8, .initialized RX8, .methodLink RX8 3 Lib.objectInit, .arrayClass .byte, .fieldLink RX8 9 "ArrayHouse$Text" "kept" "[B", .fieldLink RX8 15 "ArrayHouse$Text" "bytes" "[B", .fieldLink RX8 18 "ArrayHouse$Text" "tokens" "[I", .fieldLink RX8 22 "ArrayHouse$Text" "lastMade" "I", .code yX8_init cX8_init 1 none, .instanceMethod yX8_init, .fieldLink RX10 28 "ArrayHouse" "text" "LArrayHouse$Text;", .classLink RX10 32 RX3, .instantiable RX3 16, .initialized RX3, .methodLink RX3 3 Lib.objectInit, .fieldLink RX3 11 "ArrayHouse$Places" "nameA" "[I", .fieldLink RX3 15 "ArrayHouse$Places" "nameB" "[I", .fieldLink RX3 18 "ArrayHouse$Places" "means" "[I", .fieldLink RX3 21 "ArrayHouse$Places" "from" "[I", .fieldLink RX3 24 "ArrayHouse$Places" "to" "[I", .fieldLink RX3 27 "ArrayHouse$Places" "used" "[I", .fieldLink RX3 30 "ArrayHouse$Places" "around" "[I", .fieldLink RX3 33 "ArrayHouse$Places" "left" "[I", .fieldLink RX3 36 "ArrayHouse$Places" "right" "[I", .fieldLink RX3 39 "ArrayHouse$Places" "self" "[I", .fieldLink RX3 42 "ArrayHouse$Places" "guards" "[I", .fieldLink RX3 45 "ArrayHouse$Places" "state" "LArrayHouse$State;", .fieldLink RX3 49 "ArrayHouse$Places" "heap" "LArrayHouse$Heap;", .fieldLink RX3 53 "ArrayHouse$Places" "text" "LArrayHouse$Text;", .code yX3_init cX3_init 4 none, .instanceMethod yX3_init, .fieldLink RX10 37 "ArrayHouse" "places" "LArrayHouse$Places;", .classLink RX10 41 RX9, .instantiable RX9 4, .initialized RX9, .methodLink RX9 3 Lib.objectInit, .fieldLink RX9 9 "ArrayHouse$Writer" "heap" "LArrayHouse$Heap;", .methodLink RX9 15 Lib.Math.max.name, .static Lib.Math.max.name, .initialized "java/lang/Math", .code Lib.Math.max.name Lib.Math.max.code 2 (some .int), .fieldLink RX9 21 "ArrayHouse$Writer" "row" "[B", .code yX9_init cX9_init 3 none, .instanceMethod yX9_init, .fieldLink RX10 46 "ArrayHouse" "screen" "LArrayHouse$Writer;", .fieldLink RX10 50 "ArrayHouse" "tape" "[B", .fieldLink RX10 54 "ArrayHouse" "path" "[I", .fieldLink RX10 58 "ArrayHouse" "eventAt" "I", .classLink RX10 62 RX6, .instantiable RX6 5, .initialized RX6, .methodLink RX6 3 Lib.objectInit, .fieldLink RX6 9 "ArrayHouse$Shapes" "rows" "[I", .fieldLink RX6 15 "ArrayHouse$Shapes" "turn" "[I", .fieldLink RX6 18 "ArrayHouse$Shapes" "place" "[I", .fieldLink RX6 21 "ArrayHouse$Shapes" "state" "LArrayHouse$State;", .fieldLink RX6 25 "ArrayHouse$Shapes" "heap" "LArrayHouse$Heap;", .code yX6_init cX6_init 3 none, .instanceMethod yX6_init, .classLink RX10 67 RX2, .instantiable RX2 5, .initialized RX2, .methodLink RX2 3 Lib.objectInit, .fieldLink RX2 9 "ArrayHouse$Operators" "state" "LArrayHouse$State;", .fieldLink RX2 15 "ArrayHouse$Operators" "heap" "LArrayHouse$Heap;", .fieldLink RX2 19 "ArrayHouse$Operators" "places" "LArrayHouse$Places;", .fieldLink RX2 23 "ArrayHouse$Operators" "shapes" "LArrayHouse$Shapes;", .code yX2_init cX2_init 5 none, .instanceMethod yX2_init, .classLink RX10 72 RX4, .instantiable RX4 13, .initialized RX4, .methodLink RX4 3 Lib.objectInit, .fieldLink RX4 9 "ArrayHouse$Reader" "rows" "[I", .fieldLink RX4 15 "ArrayHouse$Reader" "state" "LArrayHouse$State;", .fieldLink RX4 19 "ArrayHouse$Reader" "heap" "LArrayHouse$Heap;", .fieldLink RX4 23 "ArrayHouse$Reader" "text" "LArrayHouse$Text;", .fieldLink RX4 27 "ArrayHouse$Reader" "places" "LArrayHouse$Places;", .fieldLink RX4 31 "ArrayHouse$Reader" "shapes" "LArrayHouse$Shapes;", .fieldLink RX4 35 "ArrayHouse$Reader" "operators" "LArrayHouse$Operators;", .classLink RX4 39 RX5, .instantiable RX5 4, .initialized RX5, .methodLink RX5 3 Lib.objectInit, .fieldLink RX5 9 "ArrayHouse$Scalars" "state" "LArrayHouse$State;", .fieldLink RX5 15 "ArrayHouse$Scalars" "heap" "LArrayHouse$Heap;", .code yX5_init cX5_init 3 none, .instanceMethod yX5_init, .fieldLink RX4 44 "ArrayHouse$Reader" "scalars" "LArrayHouse$Scalars;", .classLink RX4 48 RX0, .instantiable RX0 6, .initialized RX0, .methodLink RX0 3 Lib.objectInit, .fieldLink RX0 9 "ArrayHouse$Finds" "rows" "[I", .fieldLink RX0 15 "ArrayHouse$Finds" "other" "[I", .fieldLink RX0 18 "ArrayHouse$Finds" "state" "LArrayHouse$State;", .fieldLink RX0 22 "ArrayHouse$Finds" "heap" "LArrayHouse$Heap;", .fieldLink RX0 26 "ArrayHouse$Finds" "scalars" "LArrayHouse$Scalars;", .classLink RX0 30 RX9, .fieldLink RX0 35 "ArrayHouse$Finds" "writer" "LArrayHouse$Writer;", .code yX0_init cX0_init 4 none, .instanceMethod yX0_init, .fieldLink RX4 53 "ArrayHouse$Reader" "finds" "LArrayHouse$Finds;", .code yX4_init cX4_init 7 none, .instanceMethod yX4_init, .fieldLink RX10 77 "ArrayHouse" "reader" "LArrayHouse$Reader;", .code yX10_init cX10_init 3 none, .methodLink RL 9 yX10_init, .instanceMethod yX10_init, .classLink RL 10 RX11, .instantiable RX11 76, .initialized RX11, .methodLink RX11 900 Lib.objectInit, .fieldLink RX11 177 "ArrayHouseModel" "origin" "I", .fieldLink RX11 151 "ArrayHouseModel" "link" "J", .constant RX11 906 2200000, .fieldLink RX11 11 "ArrayHouseModel" "mem" "[I", .constant RX11 907 1000000, .fieldLink RX11 908 "ArrayHouseModel" "kept" "[I", .fieldLink RX11 35 "ArrayHouseModel" "top" "I", .fieldLink RX11 52 "ArrayHouseModel" "shape" "[I", .fieldLink RX11 22 "ArrayHouseModel" "itemD" "I", .fieldLink RX11 286 "ArrayHouseModel" "spots" "[I", .fieldLink RX11 304 "ArrayHouseModel" "spotsToo" "[I", .fieldLink RX11 96 "ArrayHouseModel" "fills" "[I", .fieldLink RX11 333 "ArrayHouseModel" "said" "[B", .fieldLink RX11 340 "ArrayHouseModel" "spoken" "[B", .constant RX11 911 130000, .fieldLink RX11 530 "ArrayHouseModel" "wait" "[I", .constant RX11 912 60000, .fieldLink RX11 556 "ArrayHouseModel" "bytes" "[B", .fieldLink RX11 559 "ArrayHouseModel" "kind" "[I", .fieldLink RX11 565 "ArrayHouseModel" "low" "[I", .fieldLink RX11 568 "ArrayHouseModel" "high" "[I", .fieldLink RX11 571 "ArrayHouseModel" "from" "[I", .fieldLink RX11 574 "ArrayHouseModel" "to" "[I", .fieldLink RX11 580 "ArrayHouseModel" "partner" "[I", .fieldLink RX11 583 "ArrayHouseModel" "literal" "[I", .fieldLink RX11 653 "ArrayHouseModel" "meant" "[I", .fieldLink RX11 656 "ArrayHouseModel" "nameLow" "[I", .fieldLink RX11 659 "ArrayHouseModel" "nameHigh" "[I", .fieldLink RX11 683 "ArrayHouseModel" "meaning" "[I", .fieldLink RX11 689 "ArrayHouseModel" "funcFrom" "[I", .fieldLink RX11 692 "ArrayHouseModel" "funcTo" "[I", .fieldLink RX11 668 "ArrayHouseModel" "textFrom" "[I", .fieldLink RX11 671 "ArrayHouseModel" "textMany" "[I", .fieldLink RX11 677 "ArrayHouseModel" "texts" "[B", .fieldLink RX11 665 "ArrayHouseModel" "frameAround" "[I", .fieldLink RX11 774 "ArrayHouseModel" "frameLeft" "[I", .fieldLink RX11 777 "ArrayHouseModel" "frameRight" "[I", .fieldLink RX11 837 "ArrayHouseModel" "frameSelf" "[I", .fieldLink RX11 786 "ArrayHouseModel" "chosenAt" "I", .fieldLink RX11 795 "ArrayHouseModel" "chosenName" "[I", .fieldLink RX11 801 "ArrayHouseModel" "chosenOwn" "[I", .fieldLink RX11 891 "ArrayHouseModel" "guardMask" "[I", .fieldLink RX11 885 "ArrayHouseModel" "guardFrom" "[I", .fieldLink RX11 888 "ArrayHouseModel" "guardTo" "[I", .fieldLink RX11 913 "ArrayHouseModel" "tape" "[B", .fieldLink RX11 916 "ArrayHouseModel" "atStatement" "I", .fieldLink RX11 919 "ArrayHouseModel" "view" "[I", .code yX11_init cX11_init 1 none, .methodLink RL 12 yX11_init, .instanceMethod yX11_init, .fieldLink RX10 82 "ArrayHouse" "tapeLength" "I", .code yX10_append cX10_append 3 none, .methodLink RX10 85 yX10_append, .instanceMethod yX10_append, .selects RX10 yX10_append yX10_append, .code yX10_feed cX10_feed 6 (some .int), .methodLink RL 13 yX10_feed, .instanceMethod yX10_feed, .selects RX10 yX10_feed yX10_feed, .fieldLink RX11 922 "ArrayHouseModel" "taped" "I", .code yX11_feed cX11_feed 8 (some .int), .methodLink RL 17 yX11_feed, .instanceMethod yX11_feed, .selects RX11 yX11_feed yX11_feed, .code yX10_trim cX10_trim 2 (some .int), .methodLink RL 18 yX10_trim, .instanceMethod yX10_trim, .selects RX10 yX10_trim yX10_trim, .code yX11_trim cX11_trim 2 (some .int), .methodLink RL 22 yX11_trim, .instanceMethod yX11_trim, .selects RX11 yX11_trim yX11_trim, .fieldLink RX10 92 "ArrayHouse" "pathLength" "I", .fieldLink RX7 18 "ArrayHouse$State" "event" "I", .fieldLink RX7 21 "ArrayHouse$State" "spent" "I", .fieldLink RX7 24 "ArrayHouse$State" "open" "I", .code yX7_begin cX7_begin 1 none, .instanceMethod yX7_begin, .selects RX7 yX7_begin yX7_begin, .methodLink RX1 47 Lib.Math.max.name, .fieldLink RX1 182 "ArrayHouse$Heap" "spareTop" "I", .code yX1_unsettle cX1_unsettle 2 none, .instanceMethod yX1_unsettle, .selects RX1 yX1_unsettle yX1_unsettle, .code yX1_moved cX1_moved 9 (some .int), .instanceMethod yX1_moved, .selects RX1 yX1_moved yX1_moved, .fieldLink RX3 76 "ArrayHouse$Places" "deepest" "I", .code yX3_firstSlot cX3_firstSlot 2 (some .int), .methodLink RX3 61 yX3_firstSlot, .instanceMethod yX3_firstSlot, .selects RX3 yX3_firstSlot yX3_firstSlot, .code yX10_peek cX10_peek 2 (some .int), .static yX10_peek, .fieldLink RX8 35 "ArrayHouse$Text" "count" "I", .code yX8_unmake cX8_unmake 4 none, .instanceMethod yX8_unmake, .selects RX8 yX8_unmake yX8_unmake, .methodLink RX1 185 arraycopyName, .native arraycopyName, .static arraycopyName, .initialized "java/lang/System", .code yX1_settle cX1_settle 1 none, .instanceMethod yX1_settle, .selects RX1 yX1_settle yX1_settle, .code yX3_pack cX3_pack 8 (some .int), .instanceMethod yX3_pack, .selects RX3 yX3_pack yX3_pack, .code yX3_meansAt cX3_meansAt 2 (some .int), .instanceMethod yX3_meansAt, .selects RX3 yX3_meansAt yX3_meansAt, .code yX10_keepHouse cX10_keepHouse 4 none, .methodLink RX10 98 yX10_keepHouse, .instanceMethod yX10_keepHouse, .selects RX10 yX10_keepHouse yX10_keepHouse, .fieldLink RX8 49 "ArrayHouse$Text" "innermost" "I", .fieldLink RX8 26 "ArrayHouse$Text" "length" "I", .code yX8_scan cX8_scan 5 (some .int), .instanceMethod yX8_scan, .selects RX8 yX8_scan yX8_scan, .code yX8_firstOf cX8_firstOf 7 (some .int), .methodLink RX8 151 yX8_firstOf, .instanceMethod yX8_firstOf, .selects RX8 yX8_firstOf yX8_firstOf, .code yX8_statementEnd cX8_statementEnd 3 (some .int), .instanceMethod yX8_statementEnd, .selects RX8 yX8_statementEnd yX8_statementEnd, .code yX1_size cX1_size 2 (some .int), .instanceMethod yX1_size, .selects RX1 yX1_size yX1_size, .code yX3_keep cX3_keep 3 (some .int), .instanceMethod yX3_keep, .selects RX3 yX3_keep yX3_keep, .code yX10_statements cX10_statements 8 none, .methodLink RX10 112 yX10_statements, .instanceMethod yX10_statements, .selects RX10 yX10_statements yX10_statements, .code yX10_run cX10_run 4 (some .int), .methodLink RL 23 yX10_run, .instanceMethod yX10_run, .selects RX10 yX10_run yX10_run, .fieldLink RX11 1 "ArrayHouseModel" "event" "I", .fieldLink RX11 7 "ArrayHouseModel" "steps" "I", .fieldLink RX11 439 "ArrayHouseModel" "open" "I", .fieldLink RX11 527 "ArrayHouseModel" "waits" "I", .fieldLink RX11 873 "ArrayHouseModel" "guards" "I", .fieldLink RX11 798 "ArrayHouseModel" "choosing" "I", .fieldLink RX11 562 "ArrayHouseModel" "tokens" "I", .fieldLink RX11 330 "ArrayHouseModel" "saidMany" "I", .fieldLink RX11 925 "ArrayHouseModel" "views" "I", .fieldLink RX11 695 "ArrayHouseModel" "byteTop" "I", .fieldLink RX11 577 "ArrayHouseModel" "at" "I", .fieldLink RX11 553 "ArrayHouseModel" "end" "I", .fieldLink RX11 586 "ArrayHouseModel" "fault" "I", .code yX11_byteOf cX11_byteOf 2 (some .int), .methodLink RX11 589 yX11_byteOf, .instanceMethod yX11_byteOf, .selects RX11 yX11_byteOf yX11_byteOf, .code yX11_scan cX11_scan 7 (some .int), .methodLink RX11 698 yX11_scan, .instanceMethod yX11_scan, .selects RX11 yX11_scan yX11_scan, .code yX11_statementEnd cX11_statementEnd 4 (some .int), .methodLink RX11 897 yX11_statementEnd, .instanceMethod yX11_statementEnd, .selects RX11 yX11_statementEnd yX11_statementEnd, .fieldLink RX11 870 "ArrayHouseModel" "frames" "I", .code yX11_unframe cX11_unframe 3 none, .methodLink RX11 882 yX11_unframe, .instanceMethod yX11_unframe, .selects RX11 yX11_unframe yX11_unframe, .fieldLink RX11 934 "ArrayHouseModel" "keepTop" "I", .code yX11_settle cX11_settle 2 none, .methodLink RX11 931 yX11_settle, .instanceMethod yX11_settle, .selects RX11 yX11_settle yX11_settle, .code yX11_run cX11_run 5 (some .int), .methodLink RL 27 yX11_run, .instanceMethod yX11_run, .selects RX11 yX11_run yX11_run, .code yX10_at cX10_at 1 (some .int), .methodLink RL 28 yX10_at, .instanceMethod yX10_at, .selects RX10 yX10_at yX10_at, .code yX11_at cX11_at 1 (some .int), .methodLink RL 31 yX11_at, .instanceMethod yX11_at, .selects RX11 yX11_at yX11_at, .code yX10_steps cX10_steps 1 (some .int), .methodLink RL 32 yX10_steps, .instanceMethod yX10_steps, .selects RX10 yX10_steps yX10_steps, .code yX11_steps cX11_steps 1 (some .int), .methodLink RL 35 yX11_steps, .instanceMethod yX11_steps, .selects RX11 yX11_steps yX11_steps, .code yX10_shown cX10_shown 1 (some .int), .methodLink RL 36 yX10_shown, .instanceMethod yX10_shown, .selects RX10 yX10_shown yX10_shown, .code yX11_shown cX11_shown 1 (some .int), .methodLink RL 39 yX11_shown, .instanceMethod yX11_shown, .selects RX11 yX11_shown yX11_shown, .code yX10_byteAt cX10_byteAt 2 (some .int), .methodLink RL 40 yX10_byteAt, .instanceMethod yX10_byteAt, .selects RX10 yX10_byteAt yX10_byteAt, .code yX11_byteAt cX11_byteAt 2 (some .int), .methodLink RL 43 yX11_byteAt, .instanceMethod yX11_byteAt, .selects RX11 yX11_byteAt yX11_byteAt, .code yX10_nameOnTape cX10_nameOnTape 3 (some .int), .methodLink RX10 193 yX10_nameOnTape, .instanceMethod yX10_nameOnTape, .selects RX10 yX10_nameOnTape yX10_nameOnTape, .code yX10_view cX10_view 2 (some .int), .methodLink RL 44 yX10_view, .instanceMethod yX10_view, .selects RX10 yX10_view yX10_view, .code yX11_taken_ cX11_taken_ 4 (some .int), .methodLink RX11 940 yX11_taken_, .instanceMethod yX11_taken_, .selects RX11 yX11_taken_ yX11_taken_, .code yX11_view cX11_view 2 (some .int), .methodLink RL 47 yX11_view, .instanceMethod yX11_view, .selects RX11 yX11_view yX11_view, .code yX10_viewed cX10_viewed 1 (some .int), .methodLink RX10 213 yX10_viewed, .instanceMethod yX10_viewed, .selects RX10 yX10_viewed yX10_viewed, .code yX10_into cX10_into 3 (some .int), .methodLink RL 48 yX10_into, .instanceMethod yX10_into, .selects RX10 yX10_into yX10_into, .code yX11_into cX11_into 2 (some .int), .methodLink RL 51 yX11_into, .instanceMethod yX11_into, .selects RX11 yX11_into yX11_into, .code yX10_back cX10_back 1 (some .int), .methodLink RL 52 yX10_back, .instanceMethod yX10_back, .selects RX10 yX10_back yX10_back, .code yX11_back cX11_back 1 (some .int), .methodLink RL 55 yX11_back, .instanceMethod yX11_back, .selects RX11 yX11_back yX11_back, .code yX10_about cX10_about 3 (some .int), .methodLink RL 56 yX10_about, .instanceMethod yX10_about, .selects RX10 yX10_about yX10_about, .code yX11_about cX11_about 2 (some .int), .methodLink RL 59 yX11_about, .instanceMethod yX11_about, .selects RX11 yX11_about yX11_about, .code yX10_extent cX10_extent 3 (some .int), .methodLink RL 60 yX10_extent, .instanceMethod yX10_extent, .selects RX10 yX10_extent yX10_extent, .code yX11_extent_ cX11_extent_ 2 (some .int), .methodLink RL 63 yX11_extent_, .instanceMethod yX11_extent_, .selects RX11 yX11_extent_ yX11_extent_, .code yX10_kind cX10_kind 4 (some .int), .methodLink RL 64 yX10_kind, .instanceMethod yX10_kind, .selects RX10 yX10_kind yX10_kind, .code yX11_viewed cX11_viewed 2 (some .boolean), .methodLink RX11 949 yX11_viewed, .instanceMethod yX11_viewed, .selects RX11 yX11_viewed yX11_viewed, .code yX11_kind cX11_kind 2 (some .int), .methodLink RL 67 yX11_kind, .instanceMethod yX11_kind, .selects RX11 yX11_kind yX11_kind, .code yX10_number cX10_number 7 (some .int), .methodLink RL 68 yX10_number, .instanceMethod yX10_number, .selects RX10 yX10_number yX10_number, .code yX11_number_ cX11_number_ 3 (some .int), .methodLink RL 72 yX11_number_, .instanceMethod yX11_number_, .selects RX11 yX11_number_ yX11_number_, .code yX10_meaning cX10_meaning 4 (some .int), .methodLink RX10 241 yX10_meaning, .instanceMethod yX10_meaning, .selects RX10 yX10_meaning yX10_meaning, .code yX4_houseBytes cX4_houseBytes 3 (some .int), .instanceMethod yX4_houseBytes, .selects RX4 yX4_houseBytes yX4_houseBytes, .code yX10_sizes cX10_sizes 3 (some .int), .methodLink RX10 247 yX10_sizes, .instanceMethod yX10_sizes, .selects RX10 yX10_sizes yX10_sizes, .code yX10_told cX10_told 2 (some .int), .methodLink RL 73 yX10_told, .instanceMethod yX10_told, .selects RX10 yX10_told yX10_told, .fieldLink RX11 674 "ArrayHouseModel" "textTop" "I", .code yX11_told cX11_told 6 (some .int), .methodLink RL 76 yX11_told, .instanceMethod yX11_told, .selects RX11 yX11_told yX11_told, .code yX10_forget cX10_forget 3 (some .int), .methodLink RL 77 yX10_forget, .instanceMethod yX10_forget, .selects RX10 yX10_forget yX10_forget, .code yX11_forget cX11_forget 3 (some .int), .methodLink RL 80 yX11_forget, .instanceMethod yX11_forget, .selects RX11 yX11_forget yX11_forget, .constant RX10 259 2147483646, .code yX10_set cX10_set 4 (some .int), .methodLink RL 81 yX10_set, .instanceMethod yX10_set, .selects RX10 yX10_set yX10_set, .constantLong RX11 155 2147483647, .code yX11_set_ cX11_set_ 4 (some .int), .methodLink RL 85 yX11_set_, .instanceMethod yX11_set_, .selects RX11 yX11_set_ yX11_set_]
def WU : List Cond := wsX00 ++ (wsX10 ++ (wsX20 ++ (wsX30 ++ (wsX40 ++ (wsX50 ++ (wsX60 ++ (wsX70 ++ (wsX80 ++ (wsX90 ++ (wsX100 ++ (wsX110)))))))))))
def WA : List Cond := WB ++ WU
set_option maxRecDepth 100000 in
set_option maxHeartbeats 4000000 in
theorem WA_good : GoodIn lw_tbl WA := goodIn_p WA [452, 457, 494, 539, 576, 647, 643, 670, 692, 721, 742, 715, 449, 2243, 848, 844, 2481, 852, 2485, 860, 872, 877, 921, 913, 931, 944, 868, 926, 864, 979, 1178, 1174, 1263, 1288, 1170, 856, 2497, 2493, 2559, 3188, 3284, 2489, 2148, 3292, 2152, 3296, 2156, 3300, 2160, 3304, 2168, 2164, 3312, 3308, 2181, 2177, 3316, 2188, 3324, 2192, 3328, 2206, 3337, 2211, 3345, 3341, 2216, 3349, 2224, 1449, 2229, 2220, 3353, 2233, 3357, 2237, 3361] rfl (by decide +kernel)
theorem WA_g {w : Cond} (h : w ∈ WA) := (WA_good w h).2
set_option maxRecDepth 100000 in
theorem mw_0 : (.classLink RL 7 RX10 : Cond) ∈ WA := List.mem_append_left _ (List.mem_of_getElem? (i := 0) rfl)
set_option maxRecDepth 100000 in
theorem mw_1 : (.instantiable RX10 11 : Cond) ∈ WA := List.mem_append_left _ (List.mem_of_getElem? (i := 1) rfl)
set_option maxRecDepth 100000 in
theorem mw_2 : (.initialized RX10 : Cond) ∈ WA := List.mem_append_left _ (List.mem_of_getElem? (i := 2) rfl)
set_option maxRecDepth 100000 in
theorem mw_3 : (.methodLink RX10 1 Lib.objectInit : Cond) ∈ WA := List.mem_append_left _ (List.mem_of_getElem? (i := 3) rfl)
set_option maxRecDepth 100000 in
theorem mw_4 : (.instanceMethod Lib.objectInit : Cond) ∈ WA := List.mem_append_left _ (List.mem_of_getElem? (i := 4) rfl)
set_option maxRecDepth 100000 in
theorem mw_5 : (.code Lib.objectInit ⟨#[0xb1]⟩ 1 none : Cond) ∈ WA := List.mem_append_left _ (List.mem_of_getElem? (i := 5) rfl)
set_option maxRecDepth 100000 in
theorem mw_6 : (.classLink RX10 7 RX7 : Cond) ∈ WA := List.mem_append_left _ (List.mem_of_getElem? (i := 6) rfl)
set_option maxRecDepth 100000 in
theorem mw_7 : (.instantiable RX7 5 : Cond) ∈ WA := List.mem_append_left _ (List.mem_of_getElem? (i := 7) rfl)
set_option maxRecDepth 100000 in
theorem mw_8 : (.initialized RX7 : Cond) ∈ WA := List.mem_append_left _ (List.mem_of_getElem? (i := 8) rfl)
set_option maxRecDepth 100000 in
theorem mw_9 : (.methodLink RX7 3 Lib.objectInit : Cond) ∈ WA := List.mem_append_left _ (List.mem_of_getElem? (i := 9) rfl)
set_option maxRecDepth 100000 in
theorem mw_10 : (.fieldLink RX7 9 "ArrayHouse$State" "origin" "I" : Cond) ∈ WA := List.mem_append_left _ (List.mem_of_getElem? (i := 10) rfl)
set_option maxRecDepth 100000 in
theorem mw_11 : (.fieldLink RX7 15 "ArrayHouse$State" "link" "I" : Cond) ∈ WA := List.mem_append_left _ (List.mem_of_getElem? (i := 11) rfl)
set_option maxRecDepth 100000 in
theorem mw_12 : (.code yX7_init cX7_init 1 none : Cond) ∈ WA := List.mem_append_left _ (List.mem_of_getElem? (i := 12) rfl)
set_option maxRecDepth 100000 in
theorem mw_13 : (.instanceMethod yX7_init : Cond) ∈ WA := List.mem_append_left _ (List.mem_of_getElem? (i := 13) rfl)
set_option maxRecDepth 100000 in
theorem mw_14 : (.fieldLink RX10 10 "ArrayHouse" "state" "LArrayHouse$State;" : Cond) ∈ WA := List.mem_append_left _ (List.mem_of_getElem? (i := 14) rfl)
set_option maxRecDepth 100000 in
theorem mw_15 : (.classLink RX10 16 RX1 : Cond) ∈ WA := List.mem_append_left _ (List.mem_of_getElem? (i := 15) rfl)
set_option maxRecDepth 100000 in
theorem mw_16 : (.instantiable RX1 9 : Cond) ∈ WA := List.mem_append_left _ (List.mem_of_getElem? (i := 16) rfl)
set_option maxRecDepth 100000 in
theorem mw_17 : (.initialized RX1 : Cond) ∈ WA := List.mem_append_left _ (List.mem_of_getElem? (i := 17) rfl)
set_option maxRecDepth 100000 in
theorem mw_18 : (.methodLink RX1 3 Lib.objectInit : Cond) ∈ WA := List.mem_append_left _ (List.mem_of_getElem? (i := 18) rfl)
set_option maxRecDepth 100000 in
theorem mw_19 : (.arrayClass .int : Cond) ∈ WA := List.mem_append_left _ (List.mem_of_getElem? (i := 19) rfl)
set_option maxRecDepth 100000 in
theorem mw_20 : (.fieldLink RX1 9 "ArrayHouse$Heap" "shape" "[I" : Cond) ∈ WA := List.mem_append_left _ (List.mem_of_getElem? (i := 20) rfl)
set_option maxRecDepth 100000 in
theorem mw_21 : (.fieldLink RX1 15 "ArrayHouse$Heap" "words" "[I" : Cond) ∈ WA := List.mem_append_left _ (List.mem_of_getElem? (i := 21) rfl)
set_option maxRecDepth 100000 in
theorem mw_22 : (.fieldLink RX1 18 "ArrayHouse$Heap" "spare" "[I" : Cond) ∈ WA := List.mem_append_left _ (List.mem_of_getElem? (i := 22) rfl)
set_option maxRecDepth 100000 in
theorem mw_23 : (.fieldLink RX1 21 "ArrayHouse$Heap" "top" "I" : Cond) ∈ WA := List.mem_append_left _ (List.mem_of_getElem? (i := 23) rfl)
set_option maxRecDepth 100000 in
theorem mw_24 : (.fieldLink RX1 25 "ArrayHouse$Heap" "base" "I" : Cond) ∈ WA := List.mem_append_left _ (List.mem_of_getElem? (i := 24) rfl)
set_option maxRecDepth 100000 in
theorem mw_25 : (.fieldLink RX1 28 "ArrayHouse$Heap" "fillD" "I" : Cond) ∈ WA := List.mem_append_left _ (List.mem_of_getElem? (i := 25) rfl)
set_option maxRecDepth 100000 in
theorem mw_26 : (.fieldLink RX1 31 "ArrayHouse$Heap" "state" "LArrayHouse$State;" : Cond) ∈ WA := List.mem_append_left _ (List.mem_of_getElem? (i := 26) rfl)
set_option maxRecDepth 100000 in
theorem mw_27 : (.code yX1_init cX1_init 2 none : Cond) ∈ WA := List.mem_append_left _ (List.mem_of_getElem? (i := 27) rfl)
set_option maxRecDepth 100000 in
theorem mw_28 : (.instanceMethod yX1_init : Cond) ∈ WA := List.mem_append_left _ (List.mem_of_getElem? (i := 28) rfl)
set_option maxRecDepth 100000 in
theorem mw_29 : (.fieldLink RX10 21 "ArrayHouse" "heap" "LArrayHouse$Heap;" : Cond) ∈ WA := List.mem_append_left _ (List.mem_of_getElem? (i := 29) rfl)
set_option maxRecDepth 100000 in
theorem mw_30 : (.classLink RX10 25 RX8 : Cond) ∈ WA := List.mem_append_left _ (List.mem_of_getElem? (i := 30) rfl)
set_option maxRecDepth 100000 in
theorem mw_31 : (.instantiable RX8 8 : Cond) ∈ WA := List.mem_append_left _ (List.mem_of_getElem? (i := 31) rfl)
set_option maxRecDepth 100000 in
theorem mw_32 : (.initialized RX8 : Cond) ∈ WA := List.mem_append_left _ (List.mem_of_getElem? (i := 32) rfl)
set_option maxRecDepth 100000 in
theorem mw_33 : (.methodLink RX8 3 Lib.objectInit : Cond) ∈ WA := List.mem_append_left _ (List.mem_of_getElem? (i := 33) rfl)
set_option maxRecDepth 100000 in
theorem mw_34 : (.arrayClass .byte : Cond) ∈ WA := List.mem_append_left _ (List.mem_of_getElem? (i := 34) rfl)
set_option maxRecDepth 100000 in
theorem mw_35 : (.fieldLink RX8 9 "ArrayHouse$Text" "kept" "[B" : Cond) ∈ WA := List.mem_append_left _ (List.mem_of_getElem? (i := 35) rfl)
set_option maxRecDepth 100000 in
theorem mw_36 : (.fieldLink RX8 15 "ArrayHouse$Text" "bytes" "[B" : Cond) ∈ WA := List.mem_append_left _ (List.mem_of_getElem? (i := 36) rfl)
set_option maxRecDepth 100000 in
theorem mw_37 : (.fieldLink RX8 18 "ArrayHouse$Text" "tokens" "[I" : Cond) ∈ WA := List.mem_append_left _ (List.mem_of_getElem? (i := 37) rfl)
set_option maxRecDepth 100000 in
theorem mw_38 : (.fieldLink RX8 22 "ArrayHouse$Text" "lastMade" "I" : Cond) ∈ WA := List.mem_append_left _ (List.mem_of_getElem? (i := 38) rfl)
set_option maxRecDepth 100000 in
theorem mw_39 : (.code yX8_init cX8_init 1 none : Cond) ∈ WA := List.mem_append_left _ (List.mem_of_getElem? (i := 39) rfl)
set_option maxRecDepth 100000 in
theorem mw_40 : (.instanceMethod yX8_init : Cond) ∈ WA := List.mem_append_left _ (List.mem_of_getElem? (i := 40) rfl)
set_option maxRecDepth 100000 in
theorem mw_41 : (.fieldLink RX10 28 "ArrayHouse" "text" "LArrayHouse$Text;" : Cond) ∈ WA := List.mem_append_left _ (List.mem_of_getElem? (i := 41) rfl)
set_option maxRecDepth 100000 in
theorem mw_42 : (.classLink RX10 32 RX3 : Cond) ∈ WA := List.mem_append_left _ (List.mem_of_getElem? (i := 42) rfl)
set_option maxRecDepth 100000 in
theorem mw_43 : (.instantiable RX3 16 : Cond) ∈ WA := List.mem_append_left _ (List.mem_of_getElem? (i := 43) rfl)
set_option maxRecDepth 100000 in
theorem mw_44 : (.initialized RX3 : Cond) ∈ WA := List.mem_append_left _ (List.mem_of_getElem? (i := 44) rfl)
set_option maxRecDepth 100000 in
theorem mw_45 : (.methodLink RX3 3 Lib.objectInit : Cond) ∈ WA := List.mem_append_left _ (List.mem_of_getElem? (i := 45) rfl)
set_option maxRecDepth 100000 in
theorem mw_46 : (.fieldLink RX3 11 "ArrayHouse$Places" "nameA" "[I" : Cond) ∈ WA := List.mem_append_left _ (List.mem_of_getElem? (i := 46) rfl)
set_option maxRecDepth 100000 in
theorem mw_47 : (.fieldLink RX3 15 "ArrayHouse$Places" "nameB" "[I" : Cond) ∈ WA := List.mem_append_left _ (List.mem_of_getElem? (i := 47) rfl)
set_option maxRecDepth 100000 in
theorem mw_48 : (.fieldLink RX3 18 "ArrayHouse$Places" "means" "[I" : Cond) ∈ WA := List.mem_append_left _ (List.mem_of_getElem? (i := 48) rfl)
set_option maxRecDepth 100000 in
theorem mw_49 : (.fieldLink RX3 21 "ArrayHouse$Places" "from" "[I" : Cond) ∈ WA := List.mem_append_left _ (List.mem_of_getElem? (i := 49) rfl)
set_option maxRecDepth 100000 in
theorem mw_50 : (.fieldLink RX3 24 "ArrayHouse$Places" "to" "[I" : Cond) ∈ WA := List.mem_append_left _ (List.mem_of_getElem? (i := 50) rfl)
set_option maxRecDepth 100000 in
theorem mw_51 : (.fieldLink RX3 27 "ArrayHouse$Places" "used" "[I" : Cond) ∈ WA := List.mem_append_left _ (List.mem_of_getElem? (i := 51) rfl)
set_option maxRecDepth 100000 in
theorem mw_52 : (.fieldLink RX3 30 "ArrayHouse$Places" "around" "[I" : Cond) ∈ WA := List.mem_append_left _ (List.mem_of_getElem? (i := 52) rfl)
set_option maxRecDepth 100000 in
theorem mw_53 : (.fieldLink RX3 33 "ArrayHouse$Places" "left" "[I" : Cond) ∈ WA := List.mem_append_left _ (List.mem_of_getElem? (i := 53) rfl)
set_option maxRecDepth 100000 in
theorem mw_54 : (.fieldLink RX3 36 "ArrayHouse$Places" "right" "[I" : Cond) ∈ WA := List.mem_append_left _ (List.mem_of_getElem? (i := 54) rfl)
set_option maxRecDepth 100000 in
theorem mw_55 : (.fieldLink RX3 39 "ArrayHouse$Places" "self" "[I" : Cond) ∈ WA := List.mem_append_left _ (List.mem_of_getElem? (i := 55) rfl)
set_option maxRecDepth 100000 in
theorem mw_56 : (.fieldLink RX3 42 "ArrayHouse$Places" "guards" "[I" : Cond) ∈ WA := List.mem_append_left _ (List.mem_of_getElem? (i := 56) rfl)
set_option maxRecDepth 100000 in
theorem mw_57 : (.fieldLink RX3 45 "ArrayHouse$Places" "state" "LArrayHouse$State;" : Cond) ∈ WA := List.mem_append_left _ (List.mem_of_getElem? (i := 57) rfl)
set_option maxRecDepth 100000 in
theorem mw_58 : (.fieldLink RX3 49 "ArrayHouse$Places" "heap" "LArrayHouse$Heap;" : Cond) ∈ WA := List.mem_append_left _ (List.mem_of_getElem? (i := 58) rfl)
set_option maxRecDepth 100000 in
theorem mw_59 : (.fieldLink RX3 53 "ArrayHouse$Places" "text" "LArrayHouse$Text;" : Cond) ∈ WA := List.mem_append_left _ (List.mem_of_getElem? (i := 59) rfl)
set_option maxRecDepth 100000 in
theorem mw_60 : (.code yX3_init cX3_init 4 none : Cond) ∈ WA := List.mem_append_left _ (List.mem_of_getElem? (i := 60) rfl)
set_option maxRecDepth 100000 in
theorem mw_61 : (.instanceMethod yX3_init : Cond) ∈ WA := List.mem_append_left _ (List.mem_of_getElem? (i := 61) rfl)
set_option maxRecDepth 100000 in
theorem mw_62 : (.fieldLink RX10 37 "ArrayHouse" "places" "LArrayHouse$Places;" : Cond) ∈ WA := List.mem_append_left _ (List.mem_of_getElem? (i := 62) rfl)
set_option maxRecDepth 100000 in
theorem mw_63 : (.classLink RX10 41 RX9 : Cond) ∈ WA := List.mem_append_left _ (List.mem_of_getElem? (i := 63) rfl)
set_option maxRecDepth 100000 in
theorem mw_64 : (.instantiable RX9 4 : Cond) ∈ WA := List.mem_append_left _ (List.mem_of_getElem? (i := 64) rfl)
set_option maxRecDepth 100000 in
theorem mw_65 : (.initialized RX9 : Cond) ∈ WA := List.mem_append_left _ (List.mem_of_getElem? (i := 65) rfl)
set_option maxRecDepth 100000 in
theorem mw_66 : (.methodLink RX9 3 Lib.objectInit : Cond) ∈ WA := List.mem_append_left _ (List.mem_of_getElem? (i := 66) rfl)
set_option maxRecDepth 100000 in
theorem mw_67 : (.fieldLink RX9 9 "ArrayHouse$Writer" "heap" "LArrayHouse$Heap;" : Cond) ∈ WA := List.mem_append_left _ (List.mem_of_getElem? (i := 67) rfl)
set_option maxRecDepth 100000 in
theorem mw_68 : (.methodLink RX9 15 Lib.Math.max.name : Cond) ∈ WA := List.mem_append_left _ (List.mem_of_getElem? (i := 68) rfl)
set_option maxRecDepth 100000 in
theorem mw_69 : (.static Lib.Math.max.name : Cond) ∈ WA := List.mem_append_left _ (List.mem_of_getElem? (i := 69) rfl)
set_option maxRecDepth 100000 in
theorem mw_70 : (.initialized "java/lang/Math" : Cond) ∈ WA := List.mem_append_left _ (List.mem_of_getElem? (i := 70) rfl)
set_option maxRecDepth 100000 in
theorem mw_71 : (.code Lib.Math.max.name Lib.Math.max.code 2 (some .int) : Cond) ∈ WA := List.mem_append_left _ (List.mem_of_getElem? (i := 71) rfl)
set_option maxRecDepth 100000 in
theorem mw_72 : (.fieldLink RX9 21 "ArrayHouse$Writer" "row" "[B" : Cond) ∈ WA := List.mem_append_left _ (List.mem_of_getElem? (i := 72) rfl)
set_option maxRecDepth 100000 in
theorem mw_73 : (.code yX9_init cX9_init 3 none : Cond) ∈ WA := List.mem_append_left _ (List.mem_of_getElem? (i := 73) rfl)
set_option maxRecDepth 100000 in
theorem mw_74 : (.instanceMethod yX9_init : Cond) ∈ WA := List.mem_append_left _ (List.mem_of_getElem? (i := 74) rfl)
set_option maxRecDepth 100000 in
theorem mw_75 : (.fieldLink RX10 46 "ArrayHouse" "screen" "LArrayHouse$Writer;" : Cond) ∈ WA := List.mem_append_left _ (List.mem_of_getElem? (i := 75) rfl)
set_option maxRecDepth 100000 in
theorem mw_76 : (.fieldLink RX10 50 "ArrayHouse" "tape" "[B" : Cond) ∈ WA := List.mem_append_left _ (List.mem_of_getElem? (i := 76) rfl)
set_option maxRecDepth 100000 in
theorem mw_77 : (.fieldLink RX10 54 "ArrayHouse" "path" "[I" : Cond) ∈ WA := List.mem_append_left _ (List.mem_of_getElem? (i := 77) rfl)
set_option maxRecDepth 100000 in
theorem mw_78 : (.fieldLink RX10 58 "ArrayHouse" "eventAt" "I" : Cond) ∈ WA := List.mem_append_left _ (List.mem_of_getElem? (i := 78) rfl)
set_option maxRecDepth 100000 in
theorem mw_79 : (.classLink RX10 62 RX6 : Cond) ∈ WA := List.mem_append_left _ (List.mem_of_getElem? (i := 79) rfl)
set_option maxRecDepth 100000 in
theorem mw_80 : (.instantiable RX6 5 : Cond) ∈ WA := List.mem_append_left _ (List.mem_of_getElem? (i := 80) rfl)
set_option maxRecDepth 100000 in
theorem mw_81 : (.initialized RX6 : Cond) ∈ WA := List.mem_append_left _ (List.mem_of_getElem? (i := 81) rfl)
set_option maxRecDepth 100000 in
theorem mw_82 : (.methodLink RX6 3 Lib.objectInit : Cond) ∈ WA := List.mem_append_left _ (List.mem_of_getElem? (i := 82) rfl)
set_option maxRecDepth 100000 in
theorem mw_83 : (.fieldLink RX6 9 "ArrayHouse$Shapes" "rows" "[I" : Cond) ∈ WA := List.mem_append_left _ (List.mem_of_getElem? (i := 83) rfl)
set_option maxRecDepth 100000 in
theorem mw_84 : (.fieldLink RX6 15 "ArrayHouse$Shapes" "turn" "[I" : Cond) ∈ WA := List.mem_append_left _ (List.mem_of_getElem? (i := 84) rfl)
set_option maxRecDepth 100000 in
theorem mw_85 : (.fieldLink RX6 18 "ArrayHouse$Shapes" "place" "[I" : Cond) ∈ WA := List.mem_append_left _ (List.mem_of_getElem? (i := 85) rfl)
set_option maxRecDepth 100000 in
theorem mw_86 : (.fieldLink RX6 21 "ArrayHouse$Shapes" "state" "LArrayHouse$State;" : Cond) ∈ WA := List.mem_append_left _ (List.mem_of_getElem? (i := 86) rfl)
set_option maxRecDepth 100000 in
theorem mw_87 : (.fieldLink RX6 25 "ArrayHouse$Shapes" "heap" "LArrayHouse$Heap;" : Cond) ∈ WA := List.mem_append_left _ (List.mem_of_getElem? (i := 87) rfl)
set_option maxRecDepth 100000 in
theorem mw_88 : (.code yX6_init cX6_init 3 none : Cond) ∈ WA := List.mem_append_left _ (List.mem_of_getElem? (i := 88) rfl)
set_option maxRecDepth 100000 in
theorem mw_89 : (.instanceMethod yX6_init : Cond) ∈ WA := List.mem_append_left _ (List.mem_of_getElem? (i := 89) rfl)
set_option maxRecDepth 100000 in
theorem mw_90 : (.classLink RX10 67 RX2 : Cond) ∈ WA := List.mem_append_left _ (List.mem_of_getElem? (i := 90) rfl)
set_option maxRecDepth 100000 in
theorem mw_91 : (.instantiable RX2 5 : Cond) ∈ WA := List.mem_append_left _ (List.mem_of_getElem? (i := 91) rfl)
set_option maxRecDepth 100000 in
theorem mw_92 : (.initialized RX2 : Cond) ∈ WA := List.mem_append_left _ (List.mem_of_getElem? (i := 92) rfl)
set_option maxRecDepth 100000 in
theorem mw_93 : (.methodLink RX2 3 Lib.objectInit : Cond) ∈ WA := List.mem_append_left _ (List.mem_of_getElem? (i := 93) rfl)
set_option maxRecDepth 100000 in
theorem mw_94 : (.fieldLink RX2 9 "ArrayHouse$Operators" "state" "LArrayHouse$State;" : Cond) ∈ WA := List.mem_append_left _ (List.mem_of_getElem? (i := 94) rfl)
set_option maxRecDepth 100000 in
theorem mw_95 : (.fieldLink RX2 15 "ArrayHouse$Operators" "heap" "LArrayHouse$Heap;" : Cond) ∈ WA := List.mem_append_left _ (List.mem_of_getElem? (i := 95) rfl)
set_option maxRecDepth 100000 in
theorem mw_96 : (.fieldLink RX2 19 "ArrayHouse$Operators" "places" "LArrayHouse$Places;" : Cond) ∈ WA := List.mem_append_left _ (List.mem_of_getElem? (i := 96) rfl)
set_option maxRecDepth 100000 in
theorem mw_97 : (.fieldLink RX2 23 "ArrayHouse$Operators" "shapes" "LArrayHouse$Shapes;" : Cond) ∈ WA := List.mem_append_left _ (List.mem_of_getElem? (i := 97) rfl)
set_option maxRecDepth 100000 in
theorem mw_98 : (.code yX2_init cX2_init 5 none : Cond) ∈ WA := List.mem_append_left _ (List.mem_of_getElem? (i := 98) rfl)
set_option maxRecDepth 100000 in
theorem mw_99 : (.instanceMethod yX2_init : Cond) ∈ WA := List.mem_append_left _ (List.mem_of_getElem? (i := 99) rfl)
set_option maxRecDepth 100000 in
theorem mw_100 : (.classLink RX10 72 RX4 : Cond) ∈ WA := List.mem_append_left _ (List.mem_of_getElem? (i := 100) rfl)
set_option maxRecDepth 100000 in
theorem mw_101 : (.instantiable RX4 13 : Cond) ∈ WA := List.mem_append_left _ (List.mem_of_getElem? (i := 101) rfl)
set_option maxRecDepth 100000 in
theorem mw_102 : (.initialized RX4 : Cond) ∈ WA := List.mem_append_left _ (List.mem_of_getElem? (i := 102) rfl)
set_option maxRecDepth 100000 in
theorem mw_103 : (.methodLink RX4 3 Lib.objectInit : Cond) ∈ WA := List.mem_append_left _ (List.mem_of_getElem? (i := 103) rfl)
set_option maxRecDepth 100000 in
theorem mw_104 : (.fieldLink RX4 9 "ArrayHouse$Reader" "rows" "[I" : Cond) ∈ WA := List.mem_append_left _ (List.mem_of_getElem? (i := 104) rfl)
set_option maxRecDepth 100000 in
theorem mw_105 : (.fieldLink RX4 15 "ArrayHouse$Reader" "state" "LArrayHouse$State;" : Cond) ∈ WA := List.mem_append_left _ (List.mem_of_getElem? (i := 105) rfl)
set_option maxRecDepth 100000 in
theorem mw_106 : (.fieldLink RX4 19 "ArrayHouse$Reader" "heap" "LArrayHouse$Heap;" : Cond) ∈ WA := List.mem_append_left _ (List.mem_of_getElem? (i := 106) rfl)
set_option maxRecDepth 100000 in
theorem mw_107 : (.fieldLink RX4 23 "ArrayHouse$Reader" "text" "LArrayHouse$Text;" : Cond) ∈ WA := List.mem_append_left _ (List.mem_of_getElem? (i := 107) rfl)
set_option maxRecDepth 100000 in
theorem mw_108 : (.fieldLink RX4 27 "ArrayHouse$Reader" "places" "LArrayHouse$Places;" : Cond) ∈ WA := List.mem_append_left _ (List.mem_of_getElem? (i := 108) rfl)
set_option maxRecDepth 100000 in
theorem mw_109 : (.fieldLink RX4 31 "ArrayHouse$Reader" "shapes" "LArrayHouse$Shapes;" : Cond) ∈ WA := List.mem_append_left _ (List.mem_of_getElem? (i := 109) rfl)
set_option maxRecDepth 100000 in
theorem mw_110 : (.fieldLink RX4 35 "ArrayHouse$Reader" "operators" "LArrayHouse$Operators;" : Cond) ∈ WA := List.mem_append_left _ (List.mem_of_getElem? (i := 110) rfl)
set_option maxRecDepth 100000 in
theorem mw_111 : (.classLink RX4 39 RX5 : Cond) ∈ WA := List.mem_append_left _ (List.mem_of_getElem? (i := 111) rfl)
set_option maxRecDepth 100000 in
theorem mw_112 : (.instantiable RX5 4 : Cond) ∈ WA := List.mem_append_left _ (List.mem_of_getElem? (i := 112) rfl)
set_option maxRecDepth 100000 in
theorem mw_113 : (.initialized RX5 : Cond) ∈ WA := List.mem_append_left _ (List.mem_of_getElem? (i := 113) rfl)
set_option maxRecDepth 100000 in
theorem mw_114 : (.methodLink RX5 3 Lib.objectInit : Cond) ∈ WA := List.mem_append_left _ (List.mem_of_getElem? (i := 114) rfl)
set_option maxRecDepth 100000 in
theorem mw_115 : (.fieldLink RX5 9 "ArrayHouse$Scalars" "state" "LArrayHouse$State;" : Cond) ∈ WA := List.mem_append_left _ (List.mem_of_getElem? (i := 115) rfl)
set_option maxRecDepth 100000 in
theorem mw_116 : (.fieldLink RX5 15 "ArrayHouse$Scalars" "heap" "LArrayHouse$Heap;" : Cond) ∈ WA := List.mem_append_left _ (List.mem_of_getElem? (i := 116) rfl)
set_option maxRecDepth 100000 in
theorem mw_117 : (.code yX5_init cX5_init 3 none : Cond) ∈ WA := List.mem_append_left _ (List.mem_of_getElem? (i := 117) rfl)
set_option maxRecDepth 100000 in
theorem mw_118 : (.instanceMethod yX5_init : Cond) ∈ WA := List.mem_append_left _ (List.mem_of_getElem? (i := 118) rfl)
set_option maxRecDepth 100000 in
theorem mw_119 : (.fieldLink RX4 44 "ArrayHouse$Reader" "scalars" "LArrayHouse$Scalars;" : Cond) ∈ WA := List.mem_append_left _ (List.mem_of_getElem? (i := 119) rfl)
set_option maxRecDepth 100000 in
theorem mw_120 : (.classLink RX4 48 RX0 : Cond) ∈ WA := List.mem_append_left _ (List.mem_of_getElem? (i := 120) rfl)
set_option maxRecDepth 100000 in
theorem mw_121 : (.instantiable RX0 6 : Cond) ∈ WA := List.mem_append_left _ (List.mem_of_getElem? (i := 121) rfl)
set_option maxRecDepth 100000 in
theorem mw_122 : (.initialized RX0 : Cond) ∈ WA := List.mem_append_left _ (List.mem_of_getElem? (i := 122) rfl)
set_option maxRecDepth 100000 in
theorem mw_123 : (.methodLink RX0 3 Lib.objectInit : Cond) ∈ WA := List.mem_append_left _ (List.mem_of_getElem? (i := 123) rfl)
set_option maxRecDepth 100000 in
theorem mw_124 : (.fieldLink RX0 9 "ArrayHouse$Finds" "rows" "[I" : Cond) ∈ WA := List.mem_append_left _ (List.mem_of_getElem? (i := 124) rfl)
set_option maxRecDepth 100000 in
theorem mw_125 : (.fieldLink RX0 15 "ArrayHouse$Finds" "other" "[I" : Cond) ∈ WA := List.mem_append_left _ (List.mem_of_getElem? (i := 125) rfl)
set_option maxRecDepth 100000 in
theorem mw_126 : (.fieldLink RX0 18 "ArrayHouse$Finds" "state" "LArrayHouse$State;" : Cond) ∈ WA := List.mem_append_left _ (List.mem_of_getElem? (i := 126) rfl)
set_option maxRecDepth 100000 in
theorem mw_127 : (.fieldLink RX0 22 "ArrayHouse$Finds" "heap" "LArrayHouse$Heap;" : Cond) ∈ WA := List.mem_append_left _ (List.mem_of_getElem? (i := 127) rfl)
set_option maxRecDepth 100000 in
theorem mw_128 : (.fieldLink RX0 26 "ArrayHouse$Finds" "scalars" "LArrayHouse$Scalars;" : Cond) ∈ WA := List.mem_append_left _ (List.mem_of_getElem? (i := 128) rfl)
set_option maxRecDepth 100000 in
theorem mw_129 : (.classLink RX0 30 RX9 : Cond) ∈ WA := List.mem_append_left _ (List.mem_of_getElem? (i := 129) rfl)
set_option maxRecDepth 100000 in
theorem mw_130 : (.fieldLink RX0 35 "ArrayHouse$Finds" "writer" "LArrayHouse$Writer;" : Cond) ∈ WA := List.mem_append_left _ (List.mem_of_getElem? (i := 130) rfl)
set_option maxRecDepth 100000 in
theorem mw_131 : (.code yX0_init cX0_init 4 none : Cond) ∈ WA := List.mem_append_left _ (List.mem_of_getElem? (i := 131) rfl)
set_option maxRecDepth 100000 in
theorem mw_132 : (.instanceMethod yX0_init : Cond) ∈ WA := List.mem_append_left _ (List.mem_of_getElem? (i := 132) rfl)
set_option maxRecDepth 100000 in
theorem mw_133 : (.fieldLink RX4 53 "ArrayHouse$Reader" "finds" "LArrayHouse$Finds;" : Cond) ∈ WA := List.mem_append_left _ (List.mem_of_getElem? (i := 133) rfl)
set_option maxRecDepth 100000 in
theorem mw_134 : (.code yX4_init cX4_init 7 none : Cond) ∈ WA := List.mem_append_left _ (List.mem_of_getElem? (i := 134) rfl)
set_option maxRecDepth 100000 in
theorem mw_135 : (.instanceMethod yX4_init : Cond) ∈ WA := List.mem_append_left _ (List.mem_of_getElem? (i := 135) rfl)
set_option maxRecDepth 100000 in
theorem mw_136 : (.fieldLink RX10 77 "ArrayHouse" "reader" "LArrayHouse$Reader;" : Cond) ∈ WA := List.mem_append_left _ (List.mem_of_getElem? (i := 136) rfl)
set_option maxRecDepth 100000 in
theorem mw_137 : (.code yX10_init cX10_init 3 none : Cond) ∈ WA := List.mem_append_left _ (List.mem_of_getElem? (i := 137) rfl)
set_option maxRecDepth 100000 in
theorem mw_138 : (.methodLink RL 9 yX10_init : Cond) ∈ WA := List.mem_append_left _ (List.mem_of_getElem? (i := 138) rfl)
set_option maxRecDepth 100000 in
theorem mw_139 : (.instanceMethod yX10_init : Cond) ∈ WA := List.mem_append_left _ (List.mem_of_getElem? (i := 139) rfl)
set_option maxRecDepth 100000 in
theorem mw_140 : (.classLink RL 10 RX11 : Cond) ∈ WA := List.mem_append_left _ (List.mem_of_getElem? (i := 140) rfl)
set_option maxRecDepth 100000 in
theorem mw_141 : (.instantiable RX11 76 : Cond) ∈ WA := List.mem_append_left _ (List.mem_of_getElem? (i := 141) rfl)
set_option maxRecDepth 100000 in
theorem mw_142 : (.initialized RX11 : Cond) ∈ WA := List.mem_append_left _ (List.mem_of_getElem? (i := 142) rfl)
set_option maxRecDepth 100000 in
theorem mw_143 : (.methodLink RX11 900 Lib.objectInit : Cond) ∈ WA := List.mem_append_left _ (List.mem_of_getElem? (i := 143) rfl)
set_option maxRecDepth 100000 in
theorem mw_144 : (.fieldLink RX11 177 "ArrayHouseModel" "origin" "I" : Cond) ∈ WA := List.mem_append_left _ (List.mem_of_getElem? (i := 144) rfl)
set_option maxRecDepth 100000 in
theorem mw_145 : (.fieldLink RX11 151 "ArrayHouseModel" "link" "J" : Cond) ∈ WA := List.mem_append_left _ (List.mem_of_getElem? (i := 145) rfl)
set_option maxRecDepth 100000 in
theorem mw_146 : (.constant RX11 906 2200000 : Cond) ∈ WA := List.mem_append_left _ (List.mem_of_getElem? (i := 146) rfl)
set_option maxRecDepth 100000 in
theorem mw_147 : (.fieldLink RX11 11 "ArrayHouseModel" "mem" "[I" : Cond) ∈ WA := List.mem_append_left _ (List.mem_of_getElem? (i := 147) rfl)
set_option maxRecDepth 100000 in
theorem mw_148 : (.constant RX11 907 1000000 : Cond) ∈ WA := List.mem_append_left _ (List.mem_of_getElem? (i := 148) rfl)
set_option maxRecDepth 100000 in
theorem mw_149 : (.fieldLink RX11 908 "ArrayHouseModel" "kept" "[I" : Cond) ∈ WA := List.mem_append_left _ (List.mem_of_getElem? (i := 149) rfl)
set_option maxRecDepth 100000 in
theorem mw_150 : (.fieldLink RX11 35 "ArrayHouseModel" "top" "I" : Cond) ∈ WA := List.mem_append_left _ (List.mem_of_getElem? (i := 150) rfl)
set_option maxRecDepth 100000 in
theorem mw_151 : (.fieldLink RX11 52 "ArrayHouseModel" "shape" "[I" : Cond) ∈ WA := List.mem_append_left _ (List.mem_of_getElem? (i := 151) rfl)
set_option maxRecDepth 100000 in
theorem mw_152 : (.fieldLink RX11 22 "ArrayHouseModel" "itemD" "I" : Cond) ∈ WA := List.mem_append_left _ (List.mem_of_getElem? (i := 152) rfl)
set_option maxRecDepth 100000 in
theorem mw_153 : (.fieldLink RX11 286 "ArrayHouseModel" "spots" "[I" : Cond) ∈ WA := List.mem_append_left _ (List.mem_of_getElem? (i := 153) rfl)
set_option maxRecDepth 100000 in
theorem mw_154 : (.fieldLink RX11 304 "ArrayHouseModel" "spotsToo" "[I" : Cond) ∈ WA := List.mem_append_left _ (List.mem_of_getElem? (i := 154) rfl)
set_option maxRecDepth 100000 in
theorem mw_155 : (.fieldLink RX11 96 "ArrayHouseModel" "fills" "[I" : Cond) ∈ WA := List.mem_append_left _ (List.mem_of_getElem? (i := 155) rfl)
set_option maxRecDepth 100000 in
theorem mw_156 : (.fieldLink RX11 333 "ArrayHouseModel" "said" "[B" : Cond) ∈ WA := List.mem_append_left _ (List.mem_of_getElem? (i := 156) rfl)
set_option maxRecDepth 100000 in
theorem mw_157 : (.fieldLink RX11 340 "ArrayHouseModel" "spoken" "[B" : Cond) ∈ WA := List.mem_append_left _ (List.mem_of_getElem? (i := 157) rfl)
set_option maxRecDepth 100000 in
theorem mw_158 : (.constant RX11 911 130000 : Cond) ∈ WA := List.mem_append_left _ (List.mem_of_getElem? (i := 158) rfl)
set_option maxRecDepth 100000 in
theorem mw_159 : (.fieldLink RX11 530 "ArrayHouseModel" "wait" "[I" : Cond) ∈ WA := List.mem_append_left _ (List.mem_of_getElem? (i := 159) rfl)
set_option maxRecDepth 100000 in
theorem mw_160 : (.constant RX11 912 60000 : Cond) ∈ WA := List.mem_append_left _ (List.mem_of_getElem? (i := 160) rfl)
set_option maxRecDepth 100000 in
theorem mw_161 : (.fieldLink RX11 556 "ArrayHouseModel" "bytes" "[B" : Cond) ∈ WA := List.mem_append_left _ (List.mem_of_getElem? (i := 161) rfl)
set_option maxRecDepth 100000 in
theorem mw_162 : (.fieldLink RX11 559 "ArrayHouseModel" "kind" "[I" : Cond) ∈ WA := List.mem_append_left _ (List.mem_of_getElem? (i := 162) rfl)
set_option maxRecDepth 100000 in
theorem mw_163 : (.fieldLink RX11 565 "ArrayHouseModel" "low" "[I" : Cond) ∈ WA := List.mem_append_left _ (List.mem_of_getElem? (i := 163) rfl)
set_option maxRecDepth 100000 in
theorem mw_164 : (.fieldLink RX11 568 "ArrayHouseModel" "high" "[I" : Cond) ∈ WA := List.mem_append_left _ (List.mem_of_getElem? (i := 164) rfl)
set_option maxRecDepth 100000 in
theorem mw_165 : (.fieldLink RX11 571 "ArrayHouseModel" "from" "[I" : Cond) ∈ WA := List.mem_append_left _ (List.mem_of_getElem? (i := 165) rfl)
set_option maxRecDepth 100000 in
theorem mw_166 : (.fieldLink RX11 574 "ArrayHouseModel" "to" "[I" : Cond) ∈ WA := List.mem_append_left _ (List.mem_of_getElem? (i := 166) rfl)
set_option maxRecDepth 100000 in
theorem mw_167 : (.fieldLink RX11 580 "ArrayHouseModel" "partner" "[I" : Cond) ∈ WA := List.mem_append_left _ (List.mem_of_getElem? (i := 167) rfl)
set_option maxRecDepth 100000 in
theorem mw_168 : (.fieldLink RX11 583 "ArrayHouseModel" "literal" "[I" : Cond) ∈ WA := List.mem_append_left _ (List.mem_of_getElem? (i := 168) rfl)
set_option maxRecDepth 100000 in
theorem mw_169 : (.fieldLink RX11 653 "ArrayHouseModel" "meant" "[I" : Cond) ∈ WA := List.mem_append_left _ (List.mem_of_getElem? (i := 169) rfl)
set_option maxRecDepth 100000 in
theorem mw_170 : (.fieldLink RX11 656 "ArrayHouseModel" "nameLow" "[I" : Cond) ∈ WA := List.mem_append_left _ (List.mem_of_getElem? (i := 170) rfl)
set_option maxRecDepth 100000 in
theorem mw_171 : (.fieldLink RX11 659 "ArrayHouseModel" "nameHigh" "[I" : Cond) ∈ WA := List.mem_append_left _ (List.mem_of_getElem? (i := 171) rfl)
set_option maxRecDepth 100000 in
theorem mw_172 : (.fieldLink RX11 683 "ArrayHouseModel" "meaning" "[I" : Cond) ∈ WA := List.mem_append_left _ (List.mem_of_getElem? (i := 172) rfl)
set_option maxRecDepth 100000 in
theorem mw_173 : (.fieldLink RX11 689 "ArrayHouseModel" "funcFrom" "[I" : Cond) ∈ WA := List.mem_append_left _ (List.mem_of_getElem? (i := 173) rfl)
set_option maxRecDepth 100000 in
theorem mw_174 : (.fieldLink RX11 692 "ArrayHouseModel" "funcTo" "[I" : Cond) ∈ WA := List.mem_append_left _ (List.mem_of_getElem? (i := 174) rfl)
set_option maxRecDepth 100000 in
theorem mw_175 : (.fieldLink RX11 668 "ArrayHouseModel" "textFrom" "[I" : Cond) ∈ WA := List.mem_append_left _ (List.mem_of_getElem? (i := 175) rfl)
set_option maxRecDepth 100000 in
theorem mw_176 : (.fieldLink RX11 671 "ArrayHouseModel" "textMany" "[I" : Cond) ∈ WA := List.mem_append_left _ (List.mem_of_getElem? (i := 176) rfl)
set_option maxRecDepth 100000 in
theorem mw_177 : (.fieldLink RX11 677 "ArrayHouseModel" "texts" "[B" : Cond) ∈ WA := List.mem_append_left _ (List.mem_of_getElem? (i := 177) rfl)
set_option maxRecDepth 100000 in
theorem mw_178 : (.fieldLink RX11 665 "ArrayHouseModel" "frameAround" "[I" : Cond) ∈ WA := List.mem_append_left _ (List.mem_of_getElem? (i := 178) rfl)
set_option maxRecDepth 100000 in
theorem mw_179 : (.fieldLink RX11 774 "ArrayHouseModel" "frameLeft" "[I" : Cond) ∈ WA := List.mem_append_left _ (List.mem_of_getElem? (i := 179) rfl)
set_option maxRecDepth 100000 in
theorem mw_180 : (.fieldLink RX11 777 "ArrayHouseModel" "frameRight" "[I" : Cond) ∈ WA := List.mem_append_left _ (List.mem_of_getElem? (i := 180) rfl)
set_option maxRecDepth 100000 in
theorem mw_181 : (.fieldLink RX11 837 "ArrayHouseModel" "frameSelf" "[I" : Cond) ∈ WA := List.mem_append_left _ (List.mem_of_getElem? (i := 181) rfl)
set_option maxRecDepth 100000 in
theorem mw_182 : (.fieldLink RX11 786 "ArrayHouseModel" "chosenAt" "I" : Cond) ∈ WA := List.mem_append_left _ (List.mem_of_getElem? (i := 182) rfl)
set_option maxRecDepth 100000 in
theorem mw_183 : (.fieldLink RX11 795 "ArrayHouseModel" "chosenName" "[I" : Cond) ∈ WA := List.mem_append_left _ (List.mem_of_getElem? (i := 183) rfl)
set_option maxRecDepth 100000 in
theorem mw_184 : (.fieldLink RX11 801 "ArrayHouseModel" "chosenOwn" "[I" : Cond) ∈ WA := List.mem_append_left _ (List.mem_of_getElem? (i := 184) rfl)
set_option maxRecDepth 100000 in
theorem mw_185 : (.fieldLink RX11 891 "ArrayHouseModel" "guardMask" "[I" : Cond) ∈ WA := List.mem_append_left _ (List.mem_of_getElem? (i := 185) rfl)
set_option maxRecDepth 100000 in
theorem mw_186 : (.fieldLink RX11 885 "ArrayHouseModel" "guardFrom" "[I" : Cond) ∈ WA := List.mem_append_left _ (List.mem_of_getElem? (i := 186) rfl)
set_option maxRecDepth 100000 in
theorem mw_187 : (.fieldLink RX11 888 "ArrayHouseModel" "guardTo" "[I" : Cond) ∈ WA := List.mem_append_left _ (List.mem_of_getElem? (i := 187) rfl)
set_option maxRecDepth 100000 in
theorem mw_188 : (.fieldLink RX11 913 "ArrayHouseModel" "tape" "[B" : Cond) ∈ WA := List.mem_append_left _ (List.mem_of_getElem? (i := 188) rfl)
set_option maxRecDepth 100000 in
theorem mw_189 : (.fieldLink RX11 916 "ArrayHouseModel" "atStatement" "I" : Cond) ∈ WA := List.mem_append_left _ (List.mem_of_getElem? (i := 189) rfl)
set_option maxRecDepth 100000 in
theorem mw_190 : (.fieldLink RX11 919 "ArrayHouseModel" "view" "[I" : Cond) ∈ WA := List.mem_append_left _ (List.mem_of_getElem? (i := 190) rfl)
set_option maxRecDepth 100000 in
theorem mw_191 : (.code yX11_init cX11_init 1 none : Cond) ∈ WA := List.mem_append_left _ (List.mem_of_getElem? (i := 191) rfl)
set_option maxRecDepth 100000 in
theorem mw_192 : (.methodLink RL 12 yX11_init : Cond) ∈ WA := List.mem_append_left _ (List.mem_of_getElem? (i := 192) rfl)
set_option maxRecDepth 100000 in
theorem mw_193 : (.instanceMethod yX11_init : Cond) ∈ WA := List.mem_append_left _ (List.mem_of_getElem? (i := 193) rfl)
set_option maxRecDepth 100000 in
theorem mw_194 : (.fieldLink RX10 82 "ArrayHouse" "tapeLength" "I" : Cond) ∈ WA := List.mem_append_left _ (List.mem_of_getElem? (i := 194) rfl)
set_option maxRecDepth 100000 in
theorem mw_195 : (.code yX10_append cX10_append 3 none : Cond) ∈ WA := List.mem_append_left _ (List.mem_of_getElem? (i := 195) rfl)
set_option maxRecDepth 100000 in
theorem mw_196 : (.methodLink RX10 85 yX10_append : Cond) ∈ WA := List.mem_append_left _ (List.mem_of_getElem? (i := 196) rfl)
set_option maxRecDepth 100000 in
theorem mw_197 : (.instanceMethod yX10_append : Cond) ∈ WA := List.mem_append_left _ (List.mem_of_getElem? (i := 197) rfl)
set_option maxRecDepth 100000 in
theorem mw_198 : (.selects RX10 yX10_append yX10_append : Cond) ∈ WA := List.mem_append_left _ (List.mem_of_getElem? (i := 198) rfl)
set_option maxRecDepth 100000 in
theorem mw_199 : (.code yX10_feed cX10_feed 6 (some .int) : Cond) ∈ WA := List.mem_append_left _ (List.mem_of_getElem? (i := 199) rfl)
set_option maxRecDepth 100000 in
theorem mw_200 : (.methodLink RL 13 yX10_feed : Cond) ∈ WA := List.mem_append_left _ (List.mem_of_getElem? (i := 200) rfl)
set_option maxRecDepth 100000 in
theorem mw_201 : (.instanceMethod yX10_feed : Cond) ∈ WA := List.mem_append_left _ (List.mem_of_getElem? (i := 201) rfl)
set_option maxRecDepth 100000 in
theorem mw_202 : (.selects RX10 yX10_feed yX10_feed : Cond) ∈ WA := List.mem_append_left _ (List.mem_of_getElem? (i := 202) rfl)
set_option maxRecDepth 100000 in
theorem mw_203 : (.fieldLink RX11 922 "ArrayHouseModel" "taped" "I" : Cond) ∈ WA := List.mem_append_left _ (List.mem_of_getElem? (i := 203) rfl)
set_option maxRecDepth 100000 in
theorem mw_204 : (.code yX11_feed cX11_feed 8 (some .int) : Cond) ∈ WA := List.mem_append_left _ (List.mem_of_getElem? (i := 204) rfl)
set_option maxRecDepth 100000 in
theorem mw_205 : (.methodLink RL 17 yX11_feed : Cond) ∈ WA := List.mem_append_left _ (List.mem_of_getElem? (i := 205) rfl)
set_option maxRecDepth 100000 in
theorem mw_206 : (.instanceMethod yX11_feed : Cond) ∈ WA := List.mem_append_left _ (List.mem_of_getElem? (i := 206) rfl)
set_option maxRecDepth 100000 in
theorem mw_207 : (.selects RX11 yX11_feed yX11_feed : Cond) ∈ WA := List.mem_append_left _ (List.mem_of_getElem? (i := 207) rfl)
set_option maxRecDepth 100000 in
theorem mw_208 : (.code yX10_trim cX10_trim 2 (some .int) : Cond) ∈ WA := List.mem_append_left _ (List.mem_of_getElem? (i := 208) rfl)
set_option maxRecDepth 100000 in
theorem mw_209 : (.methodLink RL 18 yX10_trim : Cond) ∈ WA := List.mem_append_left _ (List.mem_of_getElem? (i := 209) rfl)
set_option maxRecDepth 100000 in
theorem mw_210 : (.instanceMethod yX10_trim : Cond) ∈ WA := List.mem_append_left _ (List.mem_of_getElem? (i := 210) rfl)
set_option maxRecDepth 100000 in
theorem mw_211 : (.selects RX10 yX10_trim yX10_trim : Cond) ∈ WA := List.mem_append_left _ (List.mem_of_getElem? (i := 211) rfl)
set_option maxRecDepth 100000 in
theorem mw_212 : (.code yX11_trim cX11_trim 2 (some .int) : Cond) ∈ WA := List.mem_append_left _ (List.mem_of_getElem? (i := 212) rfl)
set_option maxRecDepth 100000 in
theorem mw_213 : (.methodLink RL 22 yX11_trim : Cond) ∈ WA := List.mem_append_left _ (List.mem_of_getElem? (i := 213) rfl)
set_option maxRecDepth 100000 in
theorem mw_214 : (.instanceMethod yX11_trim : Cond) ∈ WA := List.mem_append_left _ (List.mem_of_getElem? (i := 214) rfl)
set_option maxRecDepth 100000 in
theorem mw_215 : (.selects RX11 yX11_trim yX11_trim : Cond) ∈ WA := List.mem_append_left _ (List.mem_of_getElem? (i := 215) rfl)
set_option maxRecDepth 100000 in
theorem mw_216 : (.fieldLink RX10 92 "ArrayHouse" "pathLength" "I" : Cond) ∈ WA := List.mem_append_left _ (List.mem_of_getElem? (i := 216) rfl)
set_option maxRecDepth 100000 in
theorem mw_217 : (.fieldLink RX7 18 "ArrayHouse$State" "event" "I" : Cond) ∈ WA := List.mem_append_left _ (List.mem_of_getElem? (i := 217) rfl)
set_option maxRecDepth 100000 in
theorem mw_218 : (.fieldLink RX7 21 "ArrayHouse$State" "spent" "I" : Cond) ∈ WA := List.mem_append_left _ (List.mem_of_getElem? (i := 218) rfl)
set_option maxRecDepth 100000 in
theorem mw_219 : (.fieldLink RX7 24 "ArrayHouse$State" "open" "I" : Cond) ∈ WA := List.mem_append_left _ (List.mem_of_getElem? (i := 219) rfl)
set_option maxRecDepth 100000 in
theorem mw_220 : (.code yX7_begin cX7_begin 1 none : Cond) ∈ WA := List.mem_append_left _ (List.mem_of_getElem? (i := 220) rfl)
set_option maxRecDepth 100000 in
theorem mw_221 : (.instanceMethod yX7_begin : Cond) ∈ WA := List.mem_append_left _ (List.mem_of_getElem? (i := 221) rfl)
set_option maxRecDepth 100000 in
theorem mw_222 : (.selects RX7 yX7_begin yX7_begin : Cond) ∈ WA := List.mem_append_left _ (List.mem_of_getElem? (i := 222) rfl)
set_option maxRecDepth 100000 in
theorem mw_223 : (.methodLink RX1 47 Lib.Math.max.name : Cond) ∈ WA := List.mem_append_left _ (List.mem_of_getElem? (i := 223) rfl)
set_option maxRecDepth 100000 in
theorem mw_224 : (.fieldLink RX1 182 "ArrayHouse$Heap" "spareTop" "I" : Cond) ∈ WA := List.mem_append_left _ (List.mem_of_getElem? (i := 224) rfl)
set_option maxRecDepth 100000 in
theorem mw_225 : (.code yX1_unsettle cX1_unsettle 2 none : Cond) ∈ WA := List.mem_append_left _ (List.mem_of_getElem? (i := 225) rfl)
set_option maxRecDepth 100000 in
theorem mw_226 : (.instanceMethod yX1_unsettle : Cond) ∈ WA := List.mem_append_left _ (List.mem_of_getElem? (i := 226) rfl)
set_option maxRecDepth 100000 in
theorem mw_227 : (.selects RX1 yX1_unsettle yX1_unsettle : Cond) ∈ WA := List.mem_append_left _ (List.mem_of_getElem? (i := 227) rfl)
set_option maxRecDepth 100000 in
theorem mw_228 : (.code yX1_moved cX1_moved 9 (some .int) : Cond) ∈ WA := List.mem_append_left _ (List.mem_of_getElem? (i := 228) rfl)
set_option maxRecDepth 100000 in
theorem mw_229 : (.instanceMethod yX1_moved : Cond) ∈ WA := List.mem_append_left _ (List.mem_of_getElem? (i := 229) rfl)
set_option maxRecDepth 100000 in
theorem mw_230 : (.selects RX1 yX1_moved yX1_moved : Cond) ∈ WA := List.mem_append_left _ (List.mem_of_getElem? (i := 230) rfl)
set_option maxRecDepth 100000 in
theorem mw_231 : (.fieldLink RX3 76 "ArrayHouse$Places" "deepest" "I" : Cond) ∈ WA := List.mem_append_left _ (List.mem_of_getElem? (i := 231) rfl)
set_option maxRecDepth 100000 in
theorem mw_232 : (.code yX3_firstSlot cX3_firstSlot 2 (some .int) : Cond) ∈ WA := List.mem_append_left _ (List.mem_of_getElem? (i := 232) rfl)
set_option maxRecDepth 100000 in
theorem mw_233 : (.methodLink RX3 61 yX3_firstSlot : Cond) ∈ WA := List.mem_append_left _ (List.mem_of_getElem? (i := 233) rfl)
set_option maxRecDepth 100000 in
theorem mw_234 : (.instanceMethod yX3_firstSlot : Cond) ∈ WA := List.mem_append_left _ (List.mem_of_getElem? (i := 234) rfl)
set_option maxRecDepth 100000 in
theorem mw_235 : (.selects RX3 yX3_firstSlot yX3_firstSlot : Cond) ∈ WA := List.mem_append_left _ (List.mem_of_getElem? (i := 235) rfl)
set_option maxRecDepth 100000 in
theorem mw_236 : (.code yX10_peek cX10_peek 2 (some .int) : Cond) ∈ WA := List.mem_append_left _ (List.mem_of_getElem? (i := 236) rfl)
set_option maxRecDepth 100000 in
theorem mw_237 : (.static yX10_peek : Cond) ∈ WA := List.mem_append_left _ (List.mem_of_getElem? (i := 237) rfl)
set_option maxRecDepth 100000 in
theorem mw_238 : (.fieldLink RX8 35 "ArrayHouse$Text" "count" "I" : Cond) ∈ WA := List.mem_append_left _ (List.mem_of_getElem? (i := 238) rfl)
set_option maxRecDepth 100000 in
theorem mw_239 : (.code yX8_unmake cX8_unmake 4 none : Cond) ∈ WA := List.mem_append_left _ (List.mem_of_getElem? (i := 239) rfl)
set_option maxRecDepth 100000 in
theorem mw_240 : (.instanceMethod yX8_unmake : Cond) ∈ WA := List.mem_append_left _ (List.mem_of_getElem? (i := 240) rfl)
set_option maxRecDepth 100000 in
theorem mw_241 : (.selects RX8 yX8_unmake yX8_unmake : Cond) ∈ WA := List.mem_append_left _ (List.mem_of_getElem? (i := 241) rfl)
set_option maxRecDepth 100000 in
theorem mw_242 : (.methodLink RX1 185 arraycopyName : Cond) ∈ WA := List.mem_append_left _ (List.mem_of_getElem? (i := 242) rfl)
set_option maxRecDepth 100000 in
theorem mw_243 : (.native arraycopyName : Cond) ∈ WA := List.mem_append_left _ (List.mem_of_getElem? (i := 243) rfl)
set_option maxRecDepth 100000 in
theorem mw_244 : (.static arraycopyName : Cond) ∈ WA := List.mem_append_left _ (List.mem_of_getElem? (i := 244) rfl)
set_option maxRecDepth 100000 in
theorem mw_245 : (.initialized "java/lang/System" : Cond) ∈ WA := List.mem_append_left _ (List.mem_of_getElem? (i := 245) rfl)
set_option maxRecDepth 100000 in
theorem mw_246 : (.code yX1_settle cX1_settle 1 none : Cond) ∈ WA := List.mem_append_left _ (List.mem_of_getElem? (i := 246) rfl)
set_option maxRecDepth 100000 in
theorem mw_247 : (.instanceMethod yX1_settle : Cond) ∈ WA := List.mem_append_left _ (List.mem_of_getElem? (i := 247) rfl)
set_option maxRecDepth 100000 in
theorem mw_248 : (.selects RX1 yX1_settle yX1_settle : Cond) ∈ WA := List.mem_append_left _ (List.mem_of_getElem? (i := 248) rfl)
set_option maxRecDepth 100000 in
theorem mw_249 : (.code yX3_pack cX3_pack 8 (some .int) : Cond) ∈ WA := List.mem_append_left _ (List.mem_of_getElem? (i := 249) rfl)
set_option maxRecDepth 100000 in
theorem mw_250 : (.instanceMethod yX3_pack : Cond) ∈ WA := List.mem_append_left _ (List.mem_of_getElem? (i := 250) rfl)
set_option maxRecDepth 100000 in
theorem mw_251 : (.selects RX3 yX3_pack yX3_pack : Cond) ∈ WA := List.mem_append_left _ (List.mem_of_getElem? (i := 251) rfl)
set_option maxRecDepth 100000 in
theorem mw_252 : (.code yX3_meansAt cX3_meansAt 2 (some .int) : Cond) ∈ WA := List.mem_append_left _ (List.mem_of_getElem? (i := 252) rfl)
set_option maxRecDepth 100000 in
theorem mw_253 : (.instanceMethod yX3_meansAt : Cond) ∈ WA := List.mem_append_left _ (List.mem_of_getElem? (i := 253) rfl)
set_option maxRecDepth 100000 in
theorem mw_254 : (.selects RX3 yX3_meansAt yX3_meansAt : Cond) ∈ WA := List.mem_append_left _ (List.mem_of_getElem? (i := 254) rfl)
set_option maxRecDepth 100000 in
theorem mw_255 : (.code yX10_keepHouse cX10_keepHouse 4 none : Cond) ∈ WA := List.mem_append_left _ (List.mem_of_getElem? (i := 255) rfl)
set_option maxRecDepth 100000 in
theorem mw_256 : (.methodLink RX10 98 yX10_keepHouse : Cond) ∈ WA := List.mem_append_left _ (List.mem_of_getElem? (i := 256) rfl)
set_option maxRecDepth 100000 in
theorem mw_257 : (.instanceMethod yX10_keepHouse : Cond) ∈ WA := List.mem_append_left _ (List.mem_of_getElem? (i := 257) rfl)
set_option maxRecDepth 100000 in
theorem mw_258 : (.selects RX10 yX10_keepHouse yX10_keepHouse : Cond) ∈ WA := List.mem_append_left _ (List.mem_of_getElem? (i := 258) rfl)
set_option maxRecDepth 100000 in
theorem mw_259 : (.fieldLink RX8 49 "ArrayHouse$Text" "innermost" "I" : Cond) ∈ WA := List.mem_append_left _ (List.mem_of_getElem? (i := 259) rfl)
set_option maxRecDepth 100000 in
theorem mw_260 : (.fieldLink RX8 26 "ArrayHouse$Text" "length" "I" : Cond) ∈ WA := List.mem_append_left _ (List.mem_of_getElem? (i := 260) rfl)
set_option maxRecDepth 100000 in
theorem mw_261 : (.code yX8_scan cX8_scan 5 (some .int) : Cond) ∈ WA := List.mem_append_left _ (List.mem_of_getElem? (i := 261) rfl)
set_option maxRecDepth 100000 in
theorem mw_262 : (.instanceMethod yX8_scan : Cond) ∈ WA := List.mem_append_left _ (List.mem_of_getElem? (i := 262) rfl)
set_option maxRecDepth 100000 in
theorem mw_263 : (.selects RX8 yX8_scan yX8_scan : Cond) ∈ WA := List.mem_append_left _ (List.mem_of_getElem? (i := 263) rfl)
set_option maxRecDepth 100000 in
theorem mw_264 : (.code yX8_firstOf cX8_firstOf 7 (some .int) : Cond) ∈ WA := List.mem_append_left _ (List.mem_of_getElem? (i := 264) rfl)
set_option maxRecDepth 100000 in
theorem mw_265 : (.methodLink RX8 151 yX8_firstOf : Cond) ∈ WA := List.mem_append_left _ (List.mem_of_getElem? (i := 265) rfl)
set_option maxRecDepth 100000 in
theorem mw_266 : (.instanceMethod yX8_firstOf : Cond) ∈ WA := List.mem_append_left _ (List.mem_of_getElem? (i := 266) rfl)
set_option maxRecDepth 100000 in
theorem mw_267 : (.selects RX8 yX8_firstOf yX8_firstOf : Cond) ∈ WA := List.mem_append_left _ (List.mem_of_getElem? (i := 267) rfl)
set_option maxRecDepth 100000 in
theorem mw_268 : (.code yX8_statementEnd cX8_statementEnd 3 (some .int) : Cond) ∈ WA := List.mem_append_left _ (List.mem_of_getElem? (i := 268) rfl)
set_option maxRecDepth 100000 in
theorem mw_269 : (.instanceMethod yX8_statementEnd : Cond) ∈ WA := List.mem_append_left _ (List.mem_of_getElem? (i := 269) rfl)
set_option maxRecDepth 100000 in
theorem mw_270 : (.selects RX8 yX8_statementEnd yX8_statementEnd : Cond) ∈ WA := List.mem_append_left _ (List.mem_of_getElem? (i := 270) rfl)
set_option maxRecDepth 100000 in
theorem mw_271 : (.code yX1_size cX1_size 2 (some .int) : Cond) ∈ WA := List.mem_append_left _ (List.mem_of_getElem? (i := 271) rfl)
set_option maxRecDepth 100000 in
theorem mw_272 : (.instanceMethod yX1_size : Cond) ∈ WA := List.mem_append_left _ (List.mem_of_getElem? (i := 272) rfl)
set_option maxRecDepth 100000 in
theorem mw_273 : (.selects RX1 yX1_size yX1_size : Cond) ∈ WA := List.mem_append_left _ (List.mem_of_getElem? (i := 273) rfl)
set_option maxRecDepth 100000 in
theorem mw_274 : (.code yX3_keep cX3_keep 3 (some .int) : Cond) ∈ WA := List.mem_append_left _ (List.mem_of_getElem? (i := 274) rfl)
set_option maxRecDepth 100000 in
theorem mw_275 : (.instanceMethod yX3_keep : Cond) ∈ WA := List.mem_append_left _ (List.mem_of_getElem? (i := 275) rfl)
set_option maxRecDepth 100000 in
theorem mw_276 : (.selects RX3 yX3_keep yX3_keep : Cond) ∈ WA := List.mem_append_left _ (List.mem_of_getElem? (i := 276) rfl)
set_option maxRecDepth 100000 in
theorem mw_277 : (.code yX10_statements cX10_statements 8 none : Cond) ∈ WA := List.mem_append_left _ (List.mem_of_getElem? (i := 277) rfl)
set_option maxRecDepth 100000 in
theorem mw_278 : (.methodLink RX10 112 yX10_statements : Cond) ∈ WA := List.mem_append_left _ (List.mem_of_getElem? (i := 278) rfl)
set_option maxRecDepth 100000 in
theorem mw_279 : (.instanceMethod yX10_statements : Cond) ∈ WA := List.mem_append_left _ (List.mem_of_getElem? (i := 279) rfl)
set_option maxRecDepth 100000 in
theorem mw_280 : (.selects RX10 yX10_statements yX10_statements : Cond) ∈ WA := List.mem_append_left _ (List.mem_of_getElem? (i := 280) rfl)
set_option maxRecDepth 100000 in
theorem mw_281 : (.code yX10_run cX10_run 4 (some .int) : Cond) ∈ WA := List.mem_append_left _ (List.mem_of_getElem? (i := 281) rfl)
set_option maxRecDepth 100000 in
theorem mw_282 : (.methodLink RL 23 yX10_run : Cond) ∈ WA := List.mem_append_left _ (List.mem_of_getElem? (i := 282) rfl)
set_option maxRecDepth 100000 in
theorem mw_283 : (.instanceMethod yX10_run : Cond) ∈ WA := List.mem_append_left _ (List.mem_of_getElem? (i := 283) rfl)
set_option maxRecDepth 100000 in
theorem mw_284 : (.selects RX10 yX10_run yX10_run : Cond) ∈ WA := List.mem_append_left _ (List.mem_of_getElem? (i := 284) rfl)
set_option maxRecDepth 100000 in
theorem mw_285 : (.fieldLink RX11 1 "ArrayHouseModel" "event" "I" : Cond) ∈ WA := List.mem_append_left _ (List.mem_of_getElem? (i := 285) rfl)
set_option maxRecDepth 100000 in
theorem mw_286 : (.fieldLink RX11 7 "ArrayHouseModel" "steps" "I" : Cond) ∈ WA := List.mem_append_left _ (List.mem_of_getElem? (i := 286) rfl)
set_option maxRecDepth 100000 in
theorem mw_287 : (.fieldLink RX11 439 "ArrayHouseModel" "open" "I" : Cond) ∈ WA := List.mem_append_left _ (List.mem_of_getElem? (i := 287) rfl)
set_option maxRecDepth 100000 in
theorem mw_288 : (.fieldLink RX11 527 "ArrayHouseModel" "waits" "I" : Cond) ∈ WA := List.mem_append_left _ (List.mem_of_getElem? (i := 288) rfl)
set_option maxRecDepth 100000 in
theorem mw_289 : (.fieldLink RX11 873 "ArrayHouseModel" "guards" "I" : Cond) ∈ WA := List.mem_append_left _ (List.mem_of_getElem? (i := 289) rfl)
set_option maxRecDepth 100000 in
theorem mw_290 : (.fieldLink RX11 798 "ArrayHouseModel" "choosing" "I" : Cond) ∈ WA := List.mem_append_left _ (List.mem_of_getElem? (i := 290) rfl)
set_option maxRecDepth 100000 in
theorem mw_291 : (.fieldLink RX11 562 "ArrayHouseModel" "tokens" "I" : Cond) ∈ WA := List.mem_append_left _ (List.mem_of_getElem? (i := 291) rfl)
set_option maxRecDepth 100000 in
theorem mw_292 : (.fieldLink RX11 330 "ArrayHouseModel" "saidMany" "I" : Cond) ∈ WA := List.mem_append_left _ (List.mem_of_getElem? (i := 292) rfl)
set_option maxRecDepth 100000 in
theorem mw_293 : (.fieldLink RX11 925 "ArrayHouseModel" "views" "I" : Cond) ∈ WA := List.mem_append_left _ (List.mem_of_getElem? (i := 293) rfl)
set_option maxRecDepth 100000 in
theorem mw_294 : (.fieldLink RX11 695 "ArrayHouseModel" "byteTop" "I" : Cond) ∈ WA := List.mem_append_left _ (List.mem_of_getElem? (i := 294) rfl)
set_option maxRecDepth 100000 in
theorem mw_295 : (.fieldLink RX11 577 "ArrayHouseModel" "at" "I" : Cond) ∈ WA := List.mem_append_left _ (List.mem_of_getElem? (i := 295) rfl)
set_option maxRecDepth 100000 in
theorem mw_296 : (.fieldLink RX11 553 "ArrayHouseModel" "end" "I" : Cond) ∈ WA := List.mem_append_left _ (List.mem_of_getElem? (i := 296) rfl)
set_option maxRecDepth 100000 in
theorem mw_297 : (.fieldLink RX11 586 "ArrayHouseModel" "fault" "I" : Cond) ∈ WA := List.mem_append_left _ (List.mem_of_getElem? (i := 297) rfl)
set_option maxRecDepth 100000 in
theorem mw_298 : (.code yX11_byteOf cX11_byteOf 2 (some .int) : Cond) ∈ WA := List.mem_append_left _ (List.mem_of_getElem? (i := 298) rfl)
set_option maxRecDepth 100000 in
theorem mw_299 : (.methodLink RX11 589 yX11_byteOf : Cond) ∈ WA := List.mem_append_left _ (List.mem_of_getElem? (i := 299) rfl)
set_option maxRecDepth 100000 in
theorem mw_300 : (.instanceMethod yX11_byteOf : Cond) ∈ WA := List.mem_append_left _ (List.mem_of_getElem? (i := 300) rfl)
set_option maxRecDepth 100000 in
theorem mw_301 : (.selects RX11 yX11_byteOf yX11_byteOf : Cond) ∈ WA := List.mem_append_left _ (List.mem_of_getElem? (i := 301) rfl)
set_option maxRecDepth 100000 in
theorem mw_302 : (.code yX11_scan cX11_scan 7 (some .int) : Cond) ∈ WA := List.mem_append_left _ (List.mem_of_getElem? (i := 302) rfl)
set_option maxRecDepth 100000 in
theorem mw_303 : (.methodLink RX11 698 yX11_scan : Cond) ∈ WA := List.mem_append_left _ (List.mem_of_getElem? (i := 303) rfl)
set_option maxRecDepth 100000 in
theorem mw_304 : (.instanceMethod yX11_scan : Cond) ∈ WA := List.mem_append_left _ (List.mem_of_getElem? (i := 304) rfl)
set_option maxRecDepth 100000 in
theorem mw_305 : (.selects RX11 yX11_scan yX11_scan : Cond) ∈ WA := List.mem_append_left _ (List.mem_of_getElem? (i := 305) rfl)
set_option maxRecDepth 100000 in
theorem mw_306 : (.code yX11_statementEnd cX11_statementEnd 4 (some .int) : Cond) ∈ WA := List.mem_append_left _ (List.mem_of_getElem? (i := 306) rfl)
set_option maxRecDepth 100000 in
theorem mw_307 : (.methodLink RX11 897 yX11_statementEnd : Cond) ∈ WA := List.mem_append_left _ (List.mem_of_getElem? (i := 307) rfl)
set_option maxRecDepth 100000 in
theorem mw_308 : (.instanceMethod yX11_statementEnd : Cond) ∈ WA := List.mem_append_left _ (List.mem_of_getElem? (i := 308) rfl)
set_option maxRecDepth 100000 in
theorem mw_309 : (.selects RX11 yX11_statementEnd yX11_statementEnd : Cond) ∈ WA := List.mem_append_left _ (List.mem_of_getElem? (i := 309) rfl)
set_option maxRecDepth 100000 in
theorem mw_310 : (.fieldLink RX11 870 "ArrayHouseModel" "frames" "I" : Cond) ∈ WA := List.mem_append_left _ (List.mem_of_getElem? (i := 310) rfl)
set_option maxRecDepth 100000 in
theorem mw_311 : (.code yX11_unframe cX11_unframe 3 none : Cond) ∈ WA := List.mem_append_left _ (List.mem_of_getElem? (i := 311) rfl)
set_option maxRecDepth 100000 in
theorem mw_312 : (.methodLink RX11 882 yX11_unframe : Cond) ∈ WA := List.mem_append_left _ (List.mem_of_getElem? (i := 312) rfl)
set_option maxRecDepth 100000 in
theorem mw_313 : (.instanceMethod yX11_unframe : Cond) ∈ WA := List.mem_append_left _ (List.mem_of_getElem? (i := 313) rfl)
set_option maxRecDepth 100000 in
theorem mw_314 : (.selects RX11 yX11_unframe yX11_unframe : Cond) ∈ WA := List.mem_append_left _ (List.mem_of_getElem? (i := 314) rfl)
set_option maxRecDepth 100000 in
theorem mw_315 : (.fieldLink RX11 934 "ArrayHouseModel" "keepTop" "I" : Cond) ∈ WA := List.mem_append_left _ (List.mem_of_getElem? (i := 315) rfl)
set_option maxRecDepth 100000 in
theorem mw_316 : (.code yX11_settle cX11_settle 2 none : Cond) ∈ WA := List.mem_append_left _ (List.mem_of_getElem? (i := 316) rfl)
set_option maxRecDepth 100000 in
theorem mw_317 : (.methodLink RX11 931 yX11_settle : Cond) ∈ WA := List.mem_append_left _ (List.mem_of_getElem? (i := 317) rfl)
set_option maxRecDepth 100000 in
theorem mw_318 : (.instanceMethod yX11_settle : Cond) ∈ WA := List.mem_append_left _ (List.mem_of_getElem? (i := 318) rfl)
set_option maxRecDepth 100000 in
theorem mw_319 : (.selects RX11 yX11_settle yX11_settle : Cond) ∈ WA := List.mem_append_left _ (List.mem_of_getElem? (i := 319) rfl)
set_option maxRecDepth 100000 in
theorem mw_320 : (.code yX11_run cX11_run 5 (some .int) : Cond) ∈ WA := List.mem_append_left _ (List.mem_of_getElem? (i := 320) rfl)
set_option maxRecDepth 100000 in
theorem mw_321 : (.methodLink RL 27 yX11_run : Cond) ∈ WA := List.mem_append_left _ (List.mem_of_getElem? (i := 321) rfl)
set_option maxRecDepth 100000 in
theorem mw_322 : (.instanceMethod yX11_run : Cond) ∈ WA := List.mem_append_left _ (List.mem_of_getElem? (i := 322) rfl)
set_option maxRecDepth 100000 in
theorem mw_323 : (.selects RX11 yX11_run yX11_run : Cond) ∈ WA := List.mem_append_left _ (List.mem_of_getElem? (i := 323) rfl)
set_option maxRecDepth 100000 in
theorem mw_324 : (.code yX10_at cX10_at 1 (some .int) : Cond) ∈ WA := List.mem_append_left _ (List.mem_of_getElem? (i := 324) rfl)
set_option maxRecDepth 100000 in
theorem mw_325 : (.methodLink RL 28 yX10_at : Cond) ∈ WA := List.mem_append_left _ (List.mem_of_getElem? (i := 325) rfl)
set_option maxRecDepth 100000 in
theorem mw_326 : (.instanceMethod yX10_at : Cond) ∈ WA := List.mem_append_left _ (List.mem_of_getElem? (i := 326) rfl)
set_option maxRecDepth 100000 in
theorem mw_327 : (.selects RX10 yX10_at yX10_at : Cond) ∈ WA := List.mem_append_left _ (List.mem_of_getElem? (i := 327) rfl)
set_option maxRecDepth 100000 in
theorem mw_328 : (.code yX11_at cX11_at 1 (some .int) : Cond) ∈ WA := List.mem_append_left _ (List.mem_of_getElem? (i := 328) rfl)
set_option maxRecDepth 100000 in
theorem mw_329 : (.methodLink RL 31 yX11_at : Cond) ∈ WA := List.mem_append_left _ (List.mem_of_getElem? (i := 329) rfl)
set_option maxRecDepth 100000 in
theorem mw_330 : (.instanceMethod yX11_at : Cond) ∈ WA := List.mem_append_left _ (List.mem_of_getElem? (i := 330) rfl)
set_option maxRecDepth 100000 in
theorem mw_331 : (.selects RX11 yX11_at yX11_at : Cond) ∈ WA := List.mem_append_left _ (List.mem_of_getElem? (i := 331) rfl)
set_option maxRecDepth 100000 in
theorem mw_332 : (.code yX10_steps cX10_steps 1 (some .int) : Cond) ∈ WA := List.mem_append_left _ (List.mem_of_getElem? (i := 332) rfl)
set_option maxRecDepth 100000 in
theorem mw_333 : (.methodLink RL 32 yX10_steps : Cond) ∈ WA := List.mem_append_left _ (List.mem_of_getElem? (i := 333) rfl)
set_option maxRecDepth 100000 in
theorem mw_334 : (.instanceMethod yX10_steps : Cond) ∈ WA := List.mem_append_left _ (List.mem_of_getElem? (i := 334) rfl)
set_option maxRecDepth 100000 in
theorem mw_335 : (.selects RX10 yX10_steps yX10_steps : Cond) ∈ WA := List.mem_append_left _ (List.mem_of_getElem? (i := 335) rfl)
set_option maxRecDepth 100000 in
theorem mw_336 : (.code yX11_steps cX11_steps 1 (some .int) : Cond) ∈ WA := List.mem_append_left _ (List.mem_of_getElem? (i := 336) rfl)
set_option maxRecDepth 100000 in
theorem mw_337 : (.methodLink RL 35 yX11_steps : Cond) ∈ WA := List.mem_append_left _ (List.mem_of_getElem? (i := 337) rfl)
set_option maxRecDepth 100000 in
theorem mw_338 : (.instanceMethod yX11_steps : Cond) ∈ WA := List.mem_append_left _ (List.mem_of_getElem? (i := 338) rfl)
set_option maxRecDepth 100000 in
theorem mw_339 : (.selects RX11 yX11_steps yX11_steps : Cond) ∈ WA := List.mem_append_left _ (List.mem_of_getElem? (i := 339) rfl)
set_option maxRecDepth 100000 in
theorem mw_340 : (.code yX10_shown cX10_shown 1 (some .int) : Cond) ∈ WA := List.mem_append_left _ (List.mem_of_getElem? (i := 340) rfl)
set_option maxRecDepth 100000 in
theorem mw_341 : (.methodLink RL 36 yX10_shown : Cond) ∈ WA := List.mem_append_left _ (List.mem_of_getElem? (i := 341) rfl)
set_option maxRecDepth 100000 in
theorem mw_342 : (.instanceMethod yX10_shown : Cond) ∈ WA := List.mem_append_left _ (List.mem_of_getElem? (i := 342) rfl)
set_option maxRecDepth 100000 in
theorem mw_343 : (.selects RX10 yX10_shown yX10_shown : Cond) ∈ WA := List.mem_append_left _ (List.mem_of_getElem? (i := 343) rfl)
set_option maxRecDepth 100000 in
theorem mw_344 : (.code yX11_shown cX11_shown 1 (some .int) : Cond) ∈ WA := List.mem_append_left _ (List.mem_of_getElem? (i := 344) rfl)
set_option maxRecDepth 100000 in
theorem mw_345 : (.methodLink RL 39 yX11_shown : Cond) ∈ WA := List.mem_append_left _ (List.mem_of_getElem? (i := 345) rfl)
set_option maxRecDepth 100000 in
theorem mw_346 : (.instanceMethod yX11_shown : Cond) ∈ WA := List.mem_append_left _ (List.mem_of_getElem? (i := 346) rfl)
set_option maxRecDepth 100000 in
theorem mw_347 : (.selects RX11 yX11_shown yX11_shown : Cond) ∈ WA := List.mem_append_left _ (List.mem_of_getElem? (i := 347) rfl)
set_option maxRecDepth 100000 in
theorem mw_348 : (.code yX10_byteAt cX10_byteAt 2 (some .int) : Cond) ∈ WA := List.mem_append_left _ (List.mem_of_getElem? (i := 348) rfl)
set_option maxRecDepth 100000 in
theorem mw_349 : (.methodLink RL 40 yX10_byteAt : Cond) ∈ WA := List.mem_append_left _ (List.mem_of_getElem? (i := 349) rfl)
set_option maxRecDepth 100000 in
theorem mw_350 : (.instanceMethod yX10_byteAt : Cond) ∈ WA := List.mem_append_left _ (List.mem_of_getElem? (i := 350) rfl)
set_option maxRecDepth 100000 in
theorem mw_351 : (.selects RX10 yX10_byteAt yX10_byteAt : Cond) ∈ WA := List.mem_append_left _ (List.mem_of_getElem? (i := 351) rfl)
set_option maxRecDepth 100000 in
theorem mw_352 : (.code yX11_byteAt cX11_byteAt 2 (some .int) : Cond) ∈ WA := List.mem_append_left _ (List.mem_of_getElem? (i := 352) rfl)
set_option maxRecDepth 100000 in
theorem mw_353 : (.methodLink RL 43 yX11_byteAt : Cond) ∈ WA := List.mem_append_left _ (List.mem_of_getElem? (i := 353) rfl)
set_option maxRecDepth 100000 in
theorem mw_354 : (.instanceMethod yX11_byteAt : Cond) ∈ WA := List.mem_append_left _ (List.mem_of_getElem? (i := 354) rfl)
set_option maxRecDepth 100000 in
theorem mw_355 : (.selects RX11 yX11_byteAt yX11_byteAt : Cond) ∈ WA := List.mem_append_left _ (List.mem_of_getElem? (i := 355) rfl)
set_option maxRecDepth 100000 in
theorem mw_356 : (.code yX10_nameOnTape cX10_nameOnTape 3 (some .int) : Cond) ∈ WA := List.mem_append_left _ (List.mem_of_getElem? (i := 356) rfl)
set_option maxRecDepth 100000 in
theorem mw_357 : (.methodLink RX10 193 yX10_nameOnTape : Cond) ∈ WA := List.mem_append_left _ (List.mem_of_getElem? (i := 357) rfl)
set_option maxRecDepth 100000 in
theorem mw_358 : (.instanceMethod yX10_nameOnTape : Cond) ∈ WA := List.mem_append_left _ (List.mem_of_getElem? (i := 358) rfl)
set_option maxRecDepth 100000 in
theorem mw_359 : (.selects RX10 yX10_nameOnTape yX10_nameOnTape : Cond) ∈ WA := List.mem_append_left _ (List.mem_of_getElem? (i := 359) rfl)
set_option maxRecDepth 100000 in
theorem mw_360 : (.code yX10_view cX10_view 2 (some .int) : Cond) ∈ WA := List.mem_append_left _ (List.mem_of_getElem? (i := 360) rfl)
set_option maxRecDepth 100000 in
theorem mw_361 : (.methodLink RL 44 yX10_view : Cond) ∈ WA := List.mem_append_left _ (List.mem_of_getElem? (i := 361) rfl)
set_option maxRecDepth 100000 in
theorem mw_362 : (.instanceMethod yX10_view : Cond) ∈ WA := List.mem_append_left _ (List.mem_of_getElem? (i := 362) rfl)
set_option maxRecDepth 100000 in
theorem mw_363 : (.selects RX10 yX10_view yX10_view : Cond) ∈ WA := List.mem_append_left _ (List.mem_of_getElem? (i := 363) rfl)
set_option maxRecDepth 100000 in
theorem mw_364 : (.code yX11_taken_ cX11_taken_ 4 (some .int) : Cond) ∈ WA := List.mem_append_left _ (List.mem_of_getElem? (i := 364) rfl)
set_option maxRecDepth 100000 in
theorem mw_365 : (.methodLink RX11 940 yX11_taken_ : Cond) ∈ WA := List.mem_append_left _ (List.mem_of_getElem? (i := 365) rfl)
set_option maxRecDepth 100000 in
theorem mw_366 : (.instanceMethod yX11_taken_ : Cond) ∈ WA := List.mem_append_left _ (List.mem_of_getElem? (i := 366) rfl)
set_option maxRecDepth 100000 in
theorem mw_367 : (.selects RX11 yX11_taken_ yX11_taken_ : Cond) ∈ WA := List.mem_append_left _ (List.mem_of_getElem? (i := 367) rfl)
set_option maxRecDepth 100000 in
theorem mw_368 : (.code yX11_view cX11_view 2 (some .int) : Cond) ∈ WA := List.mem_append_left _ (List.mem_of_getElem? (i := 368) rfl)
set_option maxRecDepth 100000 in
theorem mw_369 : (.methodLink RL 47 yX11_view : Cond) ∈ WA := List.mem_append_left _ (List.mem_of_getElem? (i := 369) rfl)
set_option maxRecDepth 100000 in
theorem mw_370 : (.instanceMethod yX11_view : Cond) ∈ WA := List.mem_append_left _ (List.mem_of_getElem? (i := 370) rfl)
set_option maxRecDepth 100000 in
theorem mw_371 : (.selects RX11 yX11_view yX11_view : Cond) ∈ WA := List.mem_append_left _ (List.mem_of_getElem? (i := 371) rfl)
set_option maxRecDepth 100000 in
theorem mw_372 : (.code yX10_viewed cX10_viewed 1 (some .int) : Cond) ∈ WA := List.mem_append_left _ (List.mem_of_getElem? (i := 372) rfl)
set_option maxRecDepth 100000 in
theorem mw_373 : (.methodLink RX10 213 yX10_viewed : Cond) ∈ WA := List.mem_append_left _ (List.mem_of_getElem? (i := 373) rfl)
set_option maxRecDepth 100000 in
theorem mw_374 : (.instanceMethod yX10_viewed : Cond) ∈ WA := List.mem_append_left _ (List.mem_of_getElem? (i := 374) rfl)
set_option maxRecDepth 100000 in
theorem mw_375 : (.selects RX10 yX10_viewed yX10_viewed : Cond) ∈ WA := List.mem_append_left _ (List.mem_of_getElem? (i := 375) rfl)
set_option maxRecDepth 100000 in
theorem mw_376 : (.code yX10_into cX10_into 3 (some .int) : Cond) ∈ WA := List.mem_append_left _ (List.mem_of_getElem? (i := 376) rfl)
set_option maxRecDepth 100000 in
theorem mw_377 : (.methodLink RL 48 yX10_into : Cond) ∈ WA := List.mem_append_left _ (List.mem_of_getElem? (i := 377) rfl)
set_option maxRecDepth 100000 in
theorem mw_378 : (.instanceMethod yX10_into : Cond) ∈ WA := List.mem_append_left _ (List.mem_of_getElem? (i := 378) rfl)
set_option maxRecDepth 100000 in
theorem mw_379 : (.selects RX10 yX10_into yX10_into : Cond) ∈ WA := List.mem_append_left _ (List.mem_of_getElem? (i := 379) rfl)
set_option maxRecDepth 100000 in
theorem mw_380 : (.code yX11_into cX11_into 2 (some .int) : Cond) ∈ WA := List.mem_append_left _ (List.mem_of_getElem? (i := 380) rfl)
set_option maxRecDepth 100000 in
theorem mw_381 : (.methodLink RL 51 yX11_into : Cond) ∈ WA := List.mem_append_left _ (List.mem_of_getElem? (i := 381) rfl)
set_option maxRecDepth 100000 in
theorem mw_382 : (.instanceMethod yX11_into : Cond) ∈ WA := List.mem_append_left _ (List.mem_of_getElem? (i := 382) rfl)
set_option maxRecDepth 100000 in
theorem mw_383 : (.selects RX11 yX11_into yX11_into : Cond) ∈ WA := List.mem_append_left _ (List.mem_of_getElem? (i := 383) rfl)
set_option maxRecDepth 100000 in
theorem mw_384 : (.code yX10_back cX10_back 1 (some .int) : Cond) ∈ WA := List.mem_append_left _ (List.mem_of_getElem? (i := 384) rfl)
set_option maxRecDepth 100000 in
theorem mw_385 : (.methodLink RL 52 yX10_back : Cond) ∈ WA := List.mem_append_left _ (List.mem_of_getElem? (i := 385) rfl)
set_option maxRecDepth 100000 in
theorem mw_386 : (.instanceMethod yX10_back : Cond) ∈ WA := List.mem_append_left _ (List.mem_of_getElem? (i := 386) rfl)
set_option maxRecDepth 100000 in
theorem mw_387 : (.selects RX10 yX10_back yX10_back : Cond) ∈ WA := List.mem_append_left _ (List.mem_of_getElem? (i := 387) rfl)
set_option maxRecDepth 100000 in
theorem mw_388 : (.code yX11_back cX11_back 1 (some .int) : Cond) ∈ WA := List.mem_append_left _ (List.mem_of_getElem? (i := 388) rfl)
set_option maxRecDepth 100000 in
theorem mw_389 : (.methodLink RL 55 yX11_back : Cond) ∈ WA := List.mem_append_left _ (List.mem_of_getElem? (i := 389) rfl)
set_option maxRecDepth 100000 in
theorem mw_390 : (.instanceMethod yX11_back : Cond) ∈ WA := List.mem_append_left _ (List.mem_of_getElem? (i := 390) rfl)
set_option maxRecDepth 100000 in
theorem mw_391 : (.selects RX11 yX11_back yX11_back : Cond) ∈ WA := List.mem_append_left _ (List.mem_of_getElem? (i := 391) rfl)
set_option maxRecDepth 100000 in
theorem mw_392 : (.code yX10_about cX10_about 3 (some .int) : Cond) ∈ WA := List.mem_append_left _ (List.mem_of_getElem? (i := 392) rfl)
set_option maxRecDepth 100000 in
theorem mw_393 : (.methodLink RL 56 yX10_about : Cond) ∈ WA := List.mem_append_left _ (List.mem_of_getElem? (i := 393) rfl)
set_option maxRecDepth 100000 in
theorem mw_394 : (.instanceMethod yX10_about : Cond) ∈ WA := List.mem_append_left _ (List.mem_of_getElem? (i := 394) rfl)
set_option maxRecDepth 100000 in
theorem mw_395 : (.selects RX10 yX10_about yX10_about : Cond) ∈ WA := List.mem_append_left _ (List.mem_of_getElem? (i := 395) rfl)
set_option maxRecDepth 100000 in
theorem mw_396 : (.code yX11_about cX11_about 2 (some .int) : Cond) ∈ WA := List.mem_append_left _ (List.mem_of_getElem? (i := 396) rfl)
set_option maxRecDepth 100000 in
theorem mw_397 : (.methodLink RL 59 yX11_about : Cond) ∈ WA := List.mem_append_left _ (List.mem_of_getElem? (i := 397) rfl)
set_option maxRecDepth 100000 in
theorem mw_398 : (.instanceMethod yX11_about : Cond) ∈ WA := List.mem_append_left _ (List.mem_of_getElem? (i := 398) rfl)
set_option maxRecDepth 100000 in
theorem mw_399 : (.selects RX11 yX11_about yX11_about : Cond) ∈ WA := List.mem_append_left _ (List.mem_of_getElem? (i := 399) rfl)
set_option maxRecDepth 100000 in
theorem mw_400 : (.code yX10_extent cX10_extent 3 (some .int) : Cond) ∈ WA := List.mem_append_left _ (List.mem_of_getElem? (i := 400) rfl)
set_option maxRecDepth 100000 in
theorem mw_401 : (.methodLink RL 60 yX10_extent : Cond) ∈ WA := List.mem_append_left _ (List.mem_of_getElem? (i := 401) rfl)
set_option maxRecDepth 100000 in
theorem mw_402 : (.instanceMethod yX10_extent : Cond) ∈ WA := List.mem_append_left _ (List.mem_of_getElem? (i := 402) rfl)
set_option maxRecDepth 100000 in
theorem mw_403 : (.selects RX10 yX10_extent yX10_extent : Cond) ∈ WA := List.mem_append_left _ (List.mem_of_getElem? (i := 403) rfl)
set_option maxRecDepth 100000 in
theorem mw_404 : (.code yX11_extent_ cX11_extent_ 2 (some .int) : Cond) ∈ WA := List.mem_append_left _ (List.mem_of_getElem? (i := 404) rfl)
set_option maxRecDepth 100000 in
theorem mw_405 : (.methodLink RL 63 yX11_extent_ : Cond) ∈ WA := List.mem_append_left _ (List.mem_of_getElem? (i := 405) rfl)
set_option maxRecDepth 100000 in
theorem mw_406 : (.instanceMethod yX11_extent_ : Cond) ∈ WA := List.mem_append_left _ (List.mem_of_getElem? (i := 406) rfl)
set_option maxRecDepth 100000 in
theorem mw_407 : (.selects RX11 yX11_extent_ yX11_extent_ : Cond) ∈ WA := List.mem_append_left _ (List.mem_of_getElem? (i := 407) rfl)
set_option maxRecDepth 100000 in
theorem mw_408 : (.code yX10_kind cX10_kind 4 (some .int) : Cond) ∈ WA := List.mem_append_left _ (List.mem_of_getElem? (i := 408) rfl)
set_option maxRecDepth 100000 in
theorem mw_409 : (.methodLink RL 64 yX10_kind : Cond) ∈ WA := List.mem_append_left _ (List.mem_of_getElem? (i := 409) rfl)
set_option maxRecDepth 100000 in
theorem mw_410 : (.instanceMethod yX10_kind : Cond) ∈ WA := List.mem_append_left _ (List.mem_of_getElem? (i := 410) rfl)
set_option maxRecDepth 100000 in
theorem mw_411 : (.selects RX10 yX10_kind yX10_kind : Cond) ∈ WA := List.mem_append_left _ (List.mem_of_getElem? (i := 411) rfl)
set_option maxRecDepth 100000 in
theorem mw_412 : (.code yX11_viewed cX11_viewed 2 (some .boolean) : Cond) ∈ WA := List.mem_append_left _ (List.mem_of_getElem? (i := 412) rfl)
set_option maxRecDepth 100000 in
theorem mw_413 : (.methodLink RX11 949 yX11_viewed : Cond) ∈ WA := List.mem_append_left _ (List.mem_of_getElem? (i := 413) rfl)
set_option maxRecDepth 100000 in
theorem mw_414 : (.instanceMethod yX11_viewed : Cond) ∈ WA := List.mem_append_left _ (List.mem_of_getElem? (i := 414) rfl)
set_option maxRecDepth 100000 in
theorem mw_415 : (.selects RX11 yX11_viewed yX11_viewed : Cond) ∈ WA := List.mem_append_left _ (List.mem_of_getElem? (i := 415) rfl)
set_option maxRecDepth 100000 in
theorem mw_416 : (.code yX11_kind cX11_kind 2 (some .int) : Cond) ∈ WA := List.mem_append_left _ (List.mem_of_getElem? (i := 416) rfl)
set_option maxRecDepth 100000 in
theorem mw_417 : (.methodLink RL 67 yX11_kind : Cond) ∈ WA := List.mem_append_left _ (List.mem_of_getElem? (i := 417) rfl)
set_option maxRecDepth 100000 in
theorem mw_418 : (.instanceMethod yX11_kind : Cond) ∈ WA := List.mem_append_left _ (List.mem_of_getElem? (i := 418) rfl)
set_option maxRecDepth 100000 in
theorem mw_419 : (.selects RX11 yX11_kind yX11_kind : Cond) ∈ WA := List.mem_append_left _ (List.mem_of_getElem? (i := 419) rfl)
set_option maxRecDepth 100000 in
theorem mw_420 : (.code yX10_number cX10_number 7 (some .int) : Cond) ∈ WA := List.mem_append_left _ (List.mem_of_getElem? (i := 420) rfl)
set_option maxRecDepth 100000 in
theorem mw_421 : (.methodLink RL 68 yX10_number : Cond) ∈ WA := List.mem_append_left _ (List.mem_of_getElem? (i := 421) rfl)
set_option maxRecDepth 100000 in
theorem mw_422 : (.instanceMethod yX10_number : Cond) ∈ WA := List.mem_append_left _ (List.mem_of_getElem? (i := 422) rfl)
set_option maxRecDepth 100000 in
theorem mw_423 : (.selects RX10 yX10_number yX10_number : Cond) ∈ WA := List.mem_append_left _ (List.mem_of_getElem? (i := 423) rfl)
set_option maxRecDepth 100000 in
theorem mw_424 : (.code yX11_number_ cX11_number_ 3 (some .int) : Cond) ∈ WA := List.mem_append_left _ (List.mem_of_getElem? (i := 424) rfl)
set_option maxRecDepth 100000 in
theorem mw_425 : (.methodLink RL 72 yX11_number_ : Cond) ∈ WA := List.mem_append_left _ (List.mem_of_getElem? (i := 425) rfl)
set_option maxRecDepth 100000 in
theorem mw_426 : (.instanceMethod yX11_number_ : Cond) ∈ WA := List.mem_append_left _ (List.mem_of_getElem? (i := 426) rfl)
set_option maxRecDepth 100000 in
theorem mw_427 : (.selects RX11 yX11_number_ yX11_number_ : Cond) ∈ WA := List.mem_append_left _ (List.mem_of_getElem? (i := 427) rfl)
set_option maxRecDepth 100000 in
theorem mw_428 : (.code yX10_meaning cX10_meaning 4 (some .int) : Cond) ∈ WA := List.mem_append_left _ (List.mem_of_getElem? (i := 428) rfl)
set_option maxRecDepth 100000 in
theorem mw_429 : (.methodLink RX10 241 yX10_meaning : Cond) ∈ WA := List.mem_append_left _ (List.mem_of_getElem? (i := 429) rfl)
set_option maxRecDepth 100000 in
theorem mw_430 : (.instanceMethod yX10_meaning : Cond) ∈ WA := List.mem_append_left _ (List.mem_of_getElem? (i := 430) rfl)
set_option maxRecDepth 100000 in
theorem mw_431 : (.selects RX10 yX10_meaning yX10_meaning : Cond) ∈ WA := List.mem_append_left _ (List.mem_of_getElem? (i := 431) rfl)
set_option maxRecDepth 100000 in
theorem mw_432 : (.code yX4_houseBytes cX4_houseBytes 3 (some .int) : Cond) ∈ WA := List.mem_append_left _ (List.mem_of_getElem? (i := 432) rfl)
set_option maxRecDepth 100000 in
theorem mw_433 : (.instanceMethod yX4_houseBytes : Cond) ∈ WA := List.mem_append_left _ (List.mem_of_getElem? (i := 433) rfl)
set_option maxRecDepth 100000 in
theorem mw_434 : (.selects RX4 yX4_houseBytes yX4_houseBytes : Cond) ∈ WA := List.mem_append_left _ (List.mem_of_getElem? (i := 434) rfl)
set_option maxRecDepth 100000 in
theorem mw_435 : (.code yX10_sizes cX10_sizes 3 (some .int) : Cond) ∈ WA := List.mem_append_left _ (List.mem_of_getElem? (i := 435) rfl)
set_option maxRecDepth 100000 in
theorem mw_436 : (.methodLink RX10 247 yX10_sizes : Cond) ∈ WA := List.mem_append_left _ (List.mem_of_getElem? (i := 436) rfl)
set_option maxRecDepth 100000 in
theorem mw_437 : (.instanceMethod yX10_sizes : Cond) ∈ WA := List.mem_append_left _ (List.mem_of_getElem? (i := 437) rfl)
set_option maxRecDepth 100000 in
theorem mw_438 : (.selects RX10 yX10_sizes yX10_sizes : Cond) ∈ WA := List.mem_append_left _ (List.mem_of_getElem? (i := 438) rfl)
set_option maxRecDepth 100000 in
theorem mw_439 : (.code yX10_told cX10_told 2 (some .int) : Cond) ∈ WA := List.mem_append_left _ (List.mem_of_getElem? (i := 439) rfl)
set_option maxRecDepth 100000 in
theorem mw_440 : (.methodLink RL 73 yX10_told : Cond) ∈ WA := List.mem_append_left _ (List.mem_of_getElem? (i := 440) rfl)
set_option maxRecDepth 100000 in
theorem mw_441 : (.instanceMethod yX10_told : Cond) ∈ WA := List.mem_append_left _ (List.mem_of_getElem? (i := 441) rfl)
set_option maxRecDepth 100000 in
theorem mw_442 : (.selects RX10 yX10_told yX10_told : Cond) ∈ WA := List.mem_append_left _ (List.mem_of_getElem? (i := 442) rfl)
set_option maxRecDepth 100000 in
theorem mw_443 : (.fieldLink RX11 674 "ArrayHouseModel" "textTop" "I" : Cond) ∈ WA := List.mem_append_left _ (List.mem_of_getElem? (i := 443) rfl)
set_option maxRecDepth 100000 in
theorem mw_444 : (.code yX11_told cX11_told 6 (some .int) : Cond) ∈ WA := List.mem_append_left _ (List.mem_of_getElem? (i := 444) rfl)
set_option maxRecDepth 100000 in
theorem mw_445 : (.methodLink RL 76 yX11_told : Cond) ∈ WA := List.mem_append_left _ (List.mem_of_getElem? (i := 445) rfl)
set_option maxRecDepth 100000 in
theorem mw_446 : (.instanceMethod yX11_told : Cond) ∈ WA := List.mem_append_left _ (List.mem_of_getElem? (i := 446) rfl)
set_option maxRecDepth 100000 in
theorem mw_447 : (.selects RX11 yX11_told yX11_told : Cond) ∈ WA := List.mem_append_left _ (List.mem_of_getElem? (i := 447) rfl)
set_option maxRecDepth 100000 in
theorem mw_448 : (.code yX10_forget cX10_forget 3 (some .int) : Cond) ∈ WA := List.mem_append_left _ (List.mem_of_getElem? (i := 448) rfl)
set_option maxRecDepth 100000 in
theorem mw_449 : (.methodLink RL 77 yX10_forget : Cond) ∈ WA := List.mem_append_left _ (List.mem_of_getElem? (i := 449) rfl)
set_option maxRecDepth 100000 in
theorem mw_450 : (.instanceMethod yX10_forget : Cond) ∈ WA := List.mem_append_left _ (List.mem_of_getElem? (i := 450) rfl)
set_option maxRecDepth 100000 in
theorem mw_451 : (.selects RX10 yX10_forget yX10_forget : Cond) ∈ WA := List.mem_append_left _ (List.mem_of_getElem? (i := 451) rfl)
set_option maxRecDepth 100000 in
theorem mw_452 : (.code yX11_forget cX11_forget 3 (some .int) : Cond) ∈ WA := List.mem_append_left _ (List.mem_of_getElem? (i := 452) rfl)
set_option maxRecDepth 100000 in
theorem mw_453 : (.methodLink RL 80 yX11_forget : Cond) ∈ WA := List.mem_append_left _ (List.mem_of_getElem? (i := 453) rfl)
set_option maxRecDepth 100000 in
theorem mw_454 : (.instanceMethod yX11_forget : Cond) ∈ WA := List.mem_append_left _ (List.mem_of_getElem? (i := 454) rfl)
set_option maxRecDepth 100000 in
theorem mw_455 : (.selects RX11 yX11_forget yX11_forget : Cond) ∈ WA := List.mem_append_left _ (List.mem_of_getElem? (i := 455) rfl)
set_option maxRecDepth 100000 in
theorem mw_456 : (.constant RX10 259 2147483646 : Cond) ∈ WA := List.mem_append_left _ (List.mem_of_getElem? (i := 456) rfl)
set_option maxRecDepth 100000 in
theorem mw_457 : (.code yX10_set cX10_set 4 (some .int) : Cond) ∈ WA := List.mem_append_left _ (List.mem_of_getElem? (i := 457) rfl)
set_option maxRecDepth 100000 in
theorem mw_458 : (.methodLink RL 81 yX10_set : Cond) ∈ WA := List.mem_append_left _ (List.mem_of_getElem? (i := 458) rfl)
set_option maxRecDepth 100000 in
theorem mw_459 : (.instanceMethod yX10_set : Cond) ∈ WA := List.mem_append_left _ (List.mem_of_getElem? (i := 459) rfl)
set_option maxRecDepth 100000 in
theorem mw_460 : (.selects RX10 yX10_set yX10_set : Cond) ∈ WA := List.mem_append_left _ (List.mem_of_getElem? (i := 460) rfl)
set_option maxRecDepth 100000 in
theorem mw_461 : (.constantLong RX11 155 2147483647 : Cond) ∈ WA := List.mem_append_left _ (List.mem_of_getElem? (i := 461) rfl)
set_option maxRecDepth 100000 in
theorem mw_462 : (.code yX11_set_ cX11_set_ 4 (some .int) : Cond) ∈ WA := List.mem_append_left _ (List.mem_of_getElem? (i := 462) rfl)
set_option maxRecDepth 100000 in
theorem mw_463 : (.methodLink RL 85 yX11_set_ : Cond) ∈ WA := List.mem_append_left _ (List.mem_of_getElem? (i := 463) rfl)
set_option maxRecDepth 100000 in
theorem mw_464 : (.instanceMethod yX11_set_ : Cond) ∈ WA := List.mem_append_left _ (List.mem_of_getElem? (i := 464) rfl)
set_option maxRecDepth 100000 in
theorem mw_465 : (.selects RX11 yX11_set_ yX11_set_ : Cond) ∈ WA := List.mem_append_left _ (List.mem_of_getElem? (i := 465) rfl)
theorem iW_0 : ∀ w ∈ wsX00, w ∈ WA := fun w h => List.mem_append_right _ (List.mem_append_left _ h)
theorem iW_1 : ∀ w ∈ wsX10, w ∈ WA := fun w h => List.mem_append_right _ (List.mem_append_right _ (List.mem_append_left _ h))
theorem iW_2 : ∀ w ∈ wsX20, w ∈ WA := fun w h => List.mem_append_right _ (List.mem_append_right _ (List.mem_append_right _ (List.mem_append_left _ h)))
theorem iW_3 : ∀ w ∈ wsX30, w ∈ WA := fun w h => List.mem_append_right _ (List.mem_append_right _ (List.mem_append_right _ (List.mem_append_right _ (List.mem_append_left _ h))))
theorem iW_4 : ∀ w ∈ wsX40, w ∈ WA := fun w h => List.mem_append_right _ (List.mem_append_right _ (List.mem_append_right _ (List.mem_append_right _ (List.mem_append_right _ (List.mem_append_left _ h)))))
theorem iW_5 : ∀ w ∈ wsX50, w ∈ WA := fun w h => List.mem_append_right _ (List.mem_append_right _ (List.mem_append_right _ (List.mem_append_right _ (List.mem_append_right _ (List.mem_append_right _ (List.mem_append_left _ h))))))
theorem iW_6 : ∀ w ∈ wsX60, w ∈ WA := fun w h => List.mem_append_right _ (List.mem_append_right _ (List.mem_append_right _ (List.mem_append_right _ (List.mem_append_right _ (List.mem_append_right _ (List.mem_append_right _ (List.mem_append_left _ h)))))))
theorem iW_7 : ∀ w ∈ wsX70, w ∈ WA := fun w h => List.mem_append_right _ (List.mem_append_right _ (List.mem_append_right _ (List.mem_append_right _ (List.mem_append_right _ (List.mem_append_right _ (List.mem_append_right _ (List.mem_append_right _ (List.mem_append_left _ h))))))))
theorem iW_8 : ∀ w ∈ wsX80, w ∈ WA := fun w h => List.mem_append_right _ (List.mem_append_right _ (List.mem_append_right _ (List.mem_append_right _ (List.mem_append_right _ (List.mem_append_right _ (List.mem_append_right _ (List.mem_append_right _ (List.mem_append_right _ (List.mem_append_left _ h)))))))))
theorem iW_9 : ∀ w ∈ wsX90, w ∈ WA := fun w h => List.mem_append_right _ (List.mem_append_right _ (List.mem_append_right _ (List.mem_append_right _ (List.mem_append_right _ (List.mem_append_right _ (List.mem_append_right _ (List.mem_append_right _ (List.mem_append_right _ (List.mem_append_right _ (List.mem_append_left _ h))))))))))
theorem iW_10 : ∀ w ∈ wsX100, w ∈ WA := fun w h => List.mem_append_right _ (List.mem_append_right _ (List.mem_append_right _ (List.mem_append_right _ (List.mem_append_right _ (List.mem_append_right _ (List.mem_append_right _ (List.mem_append_right _ (List.mem_append_right _ (List.mem_append_right _ (List.mem_append_right _ (List.mem_append_left _ h)))))))))))
theorem iW_11 : ∀ w ∈ wsX110, w ∈ WA := fun w h => List.mem_append_right _ (List.mem_append_right _ (List.mem_append_right _ (List.mem_append_right _ (List.mem_append_right _ (List.mem_append_right _ (List.mem_append_right _ (List.mem_append_right _ (List.mem_append_right _ (List.mem_append_right _ (List.mem_append_right _ (List.mem_append_right _ (h))))))))))))
def NWL : List Cond := [.methodLinkNest RX10 9 yX7_init "ArrayHouse", .methodLinkNest RX10 18 yX1_init "ArrayHouse", .methodLinkNest RX10 27 yX8_init "ArrayHouse", .methodLinkNest RX10 34 yX3_init "ArrayHouse", .methodLinkNest RX10 43 yX9_init "ArrayHouse", .methodLinkNest RX10 64 yX6_init "ArrayHouse", .methodLinkNest RX10 69 yX2_init "ArrayHouse", .methodLinkNest RX4 41 yX5_init "ArrayHouse", .methodLinkNest RX0 32 yX9_init "ArrayHouse", .methodLinkNest RX4 50 yX0_init "ArrayHouse", .methodLinkNest RX10 74 yX4_init "ArrayHouse", .fieldLinkNest RX10 81 "ArrayHouse$Operators" "reader" "LArrayHouse$Reader;" "ArrayHouse", .fieldLinkNest RX10 89 "ArrayHouse$Writer" "length" "I" "ArrayHouse", .methodLinkNest RX10 95 yX7_begin "ArrayHouse", .fieldLinkNest RX10 119 "ArrayHouse$Reader" "place" "I" "ArrayHouse", .fieldLinkNest RX10 122 "ArrayHouse$Places" "deepest" "I" "ArrayHouse", .fieldLinkNest RX10 125 "ArrayHouse$Places" "guardCount" "I" "ArrayHouse", .methodLinkNest RX3 106 yX1_unsettle "ArrayHouse", .methodLinkNest RX3 110 yX1_moved "ArrayHouse", .methodLinkNest RX3 57 yX10_peek "ArrayHouse", .methodLinkNest RX3 113 yX8_unmake "ArrayHouse", .methodLinkNest RX3 118 yX1_settle "ArrayHouse", .methodLinkNest RX10 128 yX3_pack "ArrayHouse", .fieldLinkNest RX10 132 "ArrayHouse$Text" "keptLength" "I" "ArrayHouse", .methodLinkNest RX10 135 yX3_meansAt "ArrayHouse", .fieldLinkNest RX10 101 "ArrayHouse$Text" "length" "I" "ArrayHouse", .fieldLinkNest RX10 105 "ArrayHouse$Text" "count" "I" "ArrayHouse", .methodLinkNest RX10 108 yX8_scan "ArrayHouse", .fieldLinkNest RX10 116 "ArrayHouse$State" "event" "I" "ArrayHouse", .methodLinkNest RX10 158 yX8_statementEnd "ArrayHouse", .fieldLinkNest RX10 161 "ArrayHouse$Heap" "top" "I" "ArrayHouse", .fieldLinkNest RX3 89 "ArrayHouse$State" "event" "I" "ArrayHouse", .fieldLinkNest RX3 94 "ArrayHouse$Heap" "top" "I" "ArrayHouse", .methodLinkNest RX3 99 yX1_size "ArrayHouse", .methodLinkNest RX10 186 yX3_keep "ArrayHouse", .fieldLinkNest RX10 187 "ArrayHouse$State" "spent" "I" "ArrayHouse", .methodLinkNest RX4 215 yX3_meansAt "ArrayHouse", .methodLinkNest RX10 244 yX4_houseBytes "ArrayHouse", .fieldLinkNest RX10 250 "ArrayHouse$State" "origin" "I" "ArrayHouse", .fieldLinkNest RX10 253 "ArrayHouse$State" "link" "I" "ArrayHouse"]
theorem mn_0 : (.methodLinkNest RX10 9 yX7_init "ArrayHouse" : Cond) ∈ NWL := List.mem_of_getElem? (i := 0) rfl
set_option maxRecDepth 100000 in
theorem mt_0 : (.methodLinkNest RX10 9 yX7_init "ArrayHouse" : Cond) ∈ lw_tbl := List.mem_of_getElem? (i := 455) (by decide +kernel)
theorem mn_1 : (.methodLinkNest RX10 18 yX1_init "ArrayHouse" : Cond) ∈ NWL := List.mem_of_getElem? (i := 1) rfl
set_option maxRecDepth 100000 in
theorem mt_1 : (.methodLinkNest RX10 18 yX1_init "ArrayHouse" : Cond) ∈ lw_tbl := List.mem_of_getElem? (i := 492) (by decide +kernel)
theorem mn_2 : (.methodLinkNest RX10 27 yX8_init "ArrayHouse" : Cond) ∈ NWL := List.mem_of_getElem? (i := 2) rfl
set_option maxRecDepth 100000 in
theorem mt_2 : (.methodLinkNest RX10 27 yX8_init "ArrayHouse" : Cond) ∈ lw_tbl := List.mem_of_getElem? (i := 537) (by decide +kernel)
theorem mn_3 : (.methodLinkNest RX10 34 yX3_init "ArrayHouse" : Cond) ∈ NWL := List.mem_of_getElem? (i := 3) rfl
set_option maxRecDepth 100000 in
theorem mt_3 : (.methodLinkNest RX10 34 yX3_init "ArrayHouse" : Cond) ∈ lw_tbl := List.mem_of_getElem? (i := 574) (by decide +kernel)
theorem mn_4 : (.methodLinkNest RX10 43 yX9_init "ArrayHouse" : Cond) ∈ NWL := List.mem_of_getElem? (i := 4) rfl
set_option maxRecDepth 100000 in
theorem mt_4 : (.methodLinkNest RX10 43 yX9_init "ArrayHouse" : Cond) ∈ lw_tbl := List.mem_of_getElem? (i := 641) (by decide +kernel)
theorem mn_5 : (.methodLinkNest RX10 64 yX6_init "ArrayHouse" : Cond) ∈ NWL := List.mem_of_getElem? (i := 5) rfl
set_option maxRecDepth 100000 in
theorem mt_5 : (.methodLinkNest RX10 64 yX6_init "ArrayHouse" : Cond) ∈ lw_tbl := List.mem_of_getElem? (i := 668) (by decide +kernel)
theorem mn_6 : (.methodLinkNest RX10 69 yX2_init "ArrayHouse" : Cond) ∈ NWL := List.mem_of_getElem? (i := 6) rfl
set_option maxRecDepth 100000 in
theorem mt_6 : (.methodLinkNest RX10 69 yX2_init "ArrayHouse" : Cond) ∈ lw_tbl := List.mem_of_getElem? (i := 690) (by decide +kernel)
theorem mn_7 : (.methodLinkNest RX4 41 yX5_init "ArrayHouse" : Cond) ∈ NWL := List.mem_of_getElem? (i := 7) rfl
set_option maxRecDepth 100000 in
theorem mt_7 : (.methodLinkNest RX4 41 yX5_init "ArrayHouse" : Cond) ∈ lw_tbl := List.mem_of_getElem? (i := 719) (by decide +kernel)
theorem mn_8 : (.methodLinkNest RX0 32 yX9_init "ArrayHouse" : Cond) ∈ NWL := List.mem_of_getElem? (i := 8) rfl
set_option maxRecDepth 100000 in
theorem mt_8 : (.methodLinkNest RX0 32 yX9_init "ArrayHouse" : Cond) ∈ lw_tbl := List.mem_of_getElem? (i := 745) (by decide +kernel)
theorem mn_9 : (.methodLinkNest RX4 50 yX0_init "ArrayHouse" : Cond) ∈ NWL := List.mem_of_getElem? (i := 9) rfl
set_option maxRecDepth 100000 in
theorem mt_9 : (.methodLinkNest RX4 50 yX0_init "ArrayHouse" : Cond) ∈ lw_tbl := List.mem_of_getElem? (i := 740) (by decide +kernel)
theorem mn_10 : (.methodLinkNest RX10 74 yX4_init "ArrayHouse" : Cond) ∈ NWL := List.mem_of_getElem? (i := 10) rfl
set_option maxRecDepth 100000 in
theorem mt_10 : (.methodLinkNest RX10 74 yX4_init "ArrayHouse" : Cond) ∈ lw_tbl := List.mem_of_getElem? (i := 713) (by decide +kernel)
theorem mn_11 : (.fieldLinkNest RX10 81 "ArrayHouse$Operators" "reader" "LArrayHouse$Reader;" "ArrayHouse" : Cond) ∈ NWL := List.mem_of_getElem? (i := 11) rfl
set_option maxRecDepth 100000 in
theorem mt_11 : (.fieldLinkNest RX10 81 "ArrayHouse$Operators" "reader" "LArrayHouse$Reader;" "ArrayHouse" : Cond) ∈ lw_tbl := List.mem_of_getElem? (i := 698) (by decide +kernel)
theorem mn_12 : (.fieldLinkNest RX10 89 "ArrayHouse$Writer" "length" "I" "ArrayHouse" : Cond) ∈ NWL := List.mem_of_getElem? (i := 12) rfl
set_option maxRecDepth 100000 in
theorem mt_12 : (.fieldLinkNest RX10 89 "ArrayHouse$Writer" "length" "I" "ArrayHouse" : Cond) ∈ lw_tbl := List.mem_of_getElem? (i := 653) (by decide +kernel)
theorem mn_13 : (.methodLinkNest RX10 95 yX7_begin "ArrayHouse" : Cond) ∈ NWL := List.mem_of_getElem? (i := 13) rfl
set_option maxRecDepth 100000 in
theorem mt_13 : (.methodLinkNest RX10 95 yX7_begin "ArrayHouse" : Cond) ∈ lw_tbl := List.mem_of_getElem? (i := 857) (by decide +kernel)
theorem mn_14 : (.fieldLinkNest RX10 119 "ArrayHouse$Reader" "place" "I" "ArrayHouse" : Cond) ∈ NWL := List.mem_of_getElem? (i := 14) rfl
set_option maxRecDepth 100000 in
theorem mt_14 : (.fieldLinkNest RX10 119 "ArrayHouse$Reader" "place" "I" "ArrayHouse" : Cond) ∈ lw_tbl := List.mem_of_getElem? (i := 774) (by decide +kernel)
theorem mn_15 : (.fieldLinkNest RX10 122 "ArrayHouse$Places" "deepest" "I" "ArrayHouse" : Cond) ∈ NWL := List.mem_of_getElem? (i := 15) rfl
set_option maxRecDepth 100000 in
theorem mt_15 : (.fieldLinkNest RX10 122 "ArrayHouse$Places" "deepest" "I" "ArrayHouse" : Cond) ∈ lw_tbl := List.mem_of_getElem? (i := 603) (by decide +kernel)
theorem mn_16 : (.fieldLinkNest RX10 125 "ArrayHouse$Places" "guardCount" "I" "ArrayHouse" : Cond) ∈ NWL := List.mem_of_getElem? (i := 16) rfl
set_option maxRecDepth 100000 in
theorem mt_16 : (.fieldLinkNest RX10 125 "ArrayHouse$Places" "guardCount" "I" "ArrayHouse" : Cond) ∈ lw_tbl := List.mem_of_getElem? (i := 600) (by decide +kernel)
theorem mn_17 : (.methodLinkNest RX3 106 yX1_unsettle "ArrayHouse" : Cond) ∈ NWL := List.mem_of_getElem? (i := 17) rfl
set_option maxRecDepth 100000 in
theorem mt_17 : (.methodLinkNest RX3 106 yX1_unsettle "ArrayHouse" : Cond) ∈ lw_tbl := List.mem_of_getElem? (i := 869) (by decide +kernel)
theorem mn_18 : (.methodLinkNest RX3 110 yX1_moved "ArrayHouse" : Cond) ∈ NWL := List.mem_of_getElem? (i := 18) rfl
set_option maxRecDepth 100000 in
theorem mt_18 : (.methodLinkNest RX3 110 yX1_moved "ArrayHouse" : Cond) ∈ lw_tbl := List.mem_of_getElem? (i := 874) (by decide +kernel)
theorem mn_19 : (.methodLinkNest RX3 57 yX10_peek "ArrayHouse" : Cond) ∈ NWL := List.mem_of_getElem? (i := 19) rfl
set_option maxRecDepth 100000 in
theorem mt_19 : (.methodLinkNest RX3 57 yX10_peek "ArrayHouse" : Cond) ∈ lw_tbl := List.mem_of_getElem? (i := 922) (by decide +kernel)
theorem mn_20 : (.methodLinkNest RX3 113 yX8_unmake "ArrayHouse" : Cond) ∈ NWL := List.mem_of_getElem? (i := 20) rfl
set_option maxRecDepth 100000 in
theorem mt_20 : (.methodLinkNest RX3 113 yX8_unmake "ArrayHouse" : Cond) ∈ lw_tbl := List.mem_of_getElem? (i := 928) (by decide +kernel)
theorem mn_21 : (.methodLinkNest RX3 118 yX1_settle "ArrayHouse" : Cond) ∈ NWL := List.mem_of_getElem? (i := 21) rfl
set_option maxRecDepth 100000 in
theorem mt_21 : (.methodLinkNest RX3 118 yX1_settle "ArrayHouse" : Cond) ∈ lw_tbl := List.mem_of_getElem? (i := 941) (by decide +kernel)
theorem mn_22 : (.methodLinkNest RX10 128 yX3_pack "ArrayHouse" : Cond) ∈ NWL := List.mem_of_getElem? (i := 22) rfl
set_option maxRecDepth 100000 in
theorem mt_22 : (.methodLinkNest RX10 128 yX3_pack "ArrayHouse" : Cond) ∈ lw_tbl := List.mem_of_getElem? (i := 865) (by decide +kernel)
theorem mn_23 : (.fieldLinkNest RX10 132 "ArrayHouse$Text" "keptLength" "I" "ArrayHouse" : Cond) ∈ NWL := List.mem_of_getElem? (i := 23) rfl
set_option maxRecDepth 100000 in
theorem mt_23 : (.fieldLinkNest RX10 132 "ArrayHouse$Text" "keptLength" "I" "ArrayHouse" : Cond) ∈ lw_tbl := List.mem_of_getElem? (i := 550) (by decide +kernel)
theorem mn_24 : (.methodLinkNest RX10 135 yX3_meansAt "ArrayHouse" : Cond) ∈ NWL := List.mem_of_getElem? (i := 24) rfl
set_option maxRecDepth 100000 in
theorem mt_24 : (.methodLinkNest RX10 135 yX3_meansAt "ArrayHouse" : Cond) ∈ lw_tbl := List.mem_of_getElem? (i := 945) (by decide +kernel)
theorem mn_25 : (.fieldLinkNest RX10 101 "ArrayHouse$Text" "length" "I" "ArrayHouse" : Cond) ∈ NWL := List.mem_of_getElem? (i := 25) rfl
set_option maxRecDepth 100000 in
theorem mt_25 : (.fieldLinkNest RX10 101 "ArrayHouse$Text" "length" "I" "ArrayHouse" : Cond) ∈ lw_tbl := List.mem_of_getElem? (i := 545) (by decide +kernel)
theorem mn_26 : (.fieldLinkNest RX10 105 "ArrayHouse$Text" "count" "I" "ArrayHouse" : Cond) ∈ NWL := List.mem_of_getElem? (i := 26) rfl
set_option maxRecDepth 100000 in
theorem mt_26 : (.fieldLinkNest RX10 105 "ArrayHouse$Text" "count" "I" "ArrayHouse" : Cond) ∈ lw_tbl := List.mem_of_getElem? (i := 548) (by decide +kernel)
theorem mn_27 : (.methodLinkNest RX10 108 yX8_scan "ArrayHouse" : Cond) ∈ NWL := List.mem_of_getElem? (i := 27) rfl
set_option maxRecDepth 100000 in
theorem mt_27 : (.methodLinkNest RX10 108 yX8_scan "ArrayHouse" : Cond) ∈ lw_tbl := List.mem_of_getElem? (i := 1166) (by decide +kernel)
theorem mn_28 : (.fieldLinkNest RX10 116 "ArrayHouse$State" "event" "I" "ArrayHouse" : Cond) ∈ NWL := List.mem_of_getElem? (i := 28) rfl
set_option maxRecDepth 100000 in
theorem mt_28 : (.fieldLinkNest RX10 116 "ArrayHouse$State" "event" "I" "ArrayHouse" : Cond) ∈ lw_tbl := List.mem_of_getElem? (i := 462) (by decide +kernel)
theorem mn_29 : (.methodLinkNest RX10 158 yX8_statementEnd "ArrayHouse" : Cond) ∈ NWL := List.mem_of_getElem? (i := 29) rfl
set_option maxRecDepth 100000 in
theorem mt_29 : (.methodLinkNest RX10 158 yX8_statementEnd "ArrayHouse" : Cond) ∈ lw_tbl := List.mem_of_getElem? (i := 1171) (by decide +kernel)
theorem mn_30 : (.fieldLinkNest RX10 161 "ArrayHouse$Heap" "top" "I" "ArrayHouse" : Cond) ∈ NWL := List.mem_of_getElem? (i := 30) rfl
set_option maxRecDepth 100000 in
theorem mt_30 : (.fieldLinkNest RX10 161 "ArrayHouse$Heap" "top" "I" "ArrayHouse" : Cond) ∈ lw_tbl := List.mem_of_getElem? (i := 506) (by decide +kernel)
theorem mn_31 : (.fieldLinkNest RX3 89 "ArrayHouse$State" "event" "I" "ArrayHouse" : Cond) ∈ NWL := List.mem_of_getElem? (i := 31) rfl
set_option maxRecDepth 100000 in
theorem mt_31 : (.fieldLinkNest RX3 89 "ArrayHouse$State" "event" "I" "ArrayHouse" : Cond) ∈ lw_tbl := List.mem_of_getElem? (i := 464) (by decide +kernel)
theorem mn_32 : (.fieldLinkNest RX3 94 "ArrayHouse$Heap" "top" "I" "ArrayHouse" : Cond) ∈ NWL := List.mem_of_getElem? (i := 32) rfl
set_option maxRecDepth 100000 in
theorem mt_32 : (.fieldLinkNest RX3 94 "ArrayHouse$Heap" "top" "I" "ArrayHouse" : Cond) ∈ lw_tbl := List.mem_of_getElem? (i := 507) (by decide +kernel)
theorem mn_33 : (.methodLinkNest RX3 99 yX1_size "ArrayHouse" : Cond) ∈ NWL := List.mem_of_getElem? (i := 33) rfl
set_option maxRecDepth 100000 in
theorem mt_33 : (.methodLinkNest RX3 99 yX1_size "ArrayHouse" : Cond) ∈ lw_tbl := List.mem_of_getElem? (i := 1289) (by decide +kernel)
theorem mn_34 : (.methodLinkNest RX10 186 yX3_keep "ArrayHouse" : Cond) ∈ NWL := List.mem_of_getElem? (i := 34) rfl
set_option maxRecDepth 100000 in
theorem mt_34 : (.methodLinkNest RX10 186 yX3_keep "ArrayHouse" : Cond) ∈ lw_tbl := List.mem_of_getElem? (i := 2144) (by decide +kernel)
theorem mn_35 : (.fieldLinkNest RX10 187 "ArrayHouse$State" "spent" "I" "ArrayHouse" : Cond) ∈ NWL := List.mem_of_getElem? (i := 35) rfl
set_option maxRecDepth 100000 in
theorem mt_35 : (.fieldLinkNest RX10 187 "ArrayHouse$State" "spent" "I" "ArrayHouse" : Cond) ∈ lw_tbl := List.mem_of_getElem? (i := 467) (by decide +kernel)
theorem mn_36 : (.methodLinkNest RX4 215 yX3_meansAt "ArrayHouse" : Cond) ∈ NWL := List.mem_of_getElem? (i := 36) rfl
set_option maxRecDepth 100000 in
theorem mt_36 : (.methodLinkNest RX4 215 yX3_meansAt "ArrayHouse" : Cond) ∈ lw_tbl := List.mem_of_getElem? (i := 1357) (by decide +kernel)
theorem mn_37 : (.methodLinkNest RX10 244 yX4_houseBytes "ArrayHouse" : Cond) ∈ NWL := List.mem_of_getElem? (i := 37) rfl
set_option maxRecDepth 100000 in
theorem mt_37 : (.methodLinkNest RX10 244 yX4_houseBytes "ArrayHouse" : Cond) ∈ lw_tbl := List.mem_of_getElem? (i := 2225) (by decide +kernel)
theorem mn_38 : (.fieldLinkNest RX10 250 "ArrayHouse$State" "origin" "I" "ArrayHouse" : Cond) ∈ NWL := List.mem_of_getElem? (i := 38) rfl
set_option maxRecDepth 100000 in
theorem mt_38 : (.fieldLinkNest RX10 250 "ArrayHouse$State" "origin" "I" "ArrayHouse" : Cond) ∈ lw_tbl := List.mem_of_getElem? (i := 474) (by decide +kernel)
theorem mn_39 : (.fieldLinkNest RX10 253 "ArrayHouse$State" "link" "I" "ArrayHouse" : Cond) ∈ NWL := List.mem_of_getElem? (i := 39) rfl
set_option maxRecDepth 100000 in
theorem mt_39 : (.fieldLinkNest RX10 253 "ArrayHouse$State" "link" "I" "ArrayHouse" : Cond) ∈ lw_tbl := List.mem_of_getElem? (i := 478) (by decide +kernel)
theorem NWL_in : ∀ w ∈ NWL, w ∈ lw_tbl := List.forall_mem_cons.mpr ⟨mt_0, List.forall_mem_cons.mpr ⟨mt_1, List.forall_mem_cons.mpr ⟨mt_2, List.forall_mem_cons.mpr ⟨mt_3, List.forall_mem_cons.mpr ⟨mt_4, List.forall_mem_cons.mpr ⟨mt_5, List.forall_mem_cons.mpr ⟨mt_6, List.forall_mem_cons.mpr ⟨mt_7, List.forall_mem_cons.mpr ⟨mt_8, List.forall_mem_cons.mpr ⟨mt_9, List.forall_mem_cons.mpr ⟨mt_10, List.forall_mem_cons.mpr ⟨mt_11, List.forall_mem_cons.mpr ⟨mt_12, List.forall_mem_cons.mpr ⟨mt_13, List.forall_mem_cons.mpr ⟨mt_14, List.forall_mem_cons.mpr ⟨mt_15, List.forall_mem_cons.mpr ⟨mt_16, List.forall_mem_cons.mpr ⟨mt_17, List.forall_mem_cons.mpr ⟨mt_18, List.forall_mem_cons.mpr ⟨mt_19, List.forall_mem_cons.mpr ⟨mt_20, List.forall_mem_cons.mpr ⟨mt_21, List.forall_mem_cons.mpr ⟨mt_22, List.forall_mem_cons.mpr ⟨mt_23, List.forall_mem_cons.mpr ⟨mt_24, List.forall_mem_cons.mpr ⟨mt_25, List.forall_mem_cons.mpr ⟨mt_26, List.forall_mem_cons.mpr ⟨mt_27, List.forall_mem_cons.mpr ⟨mt_28, List.forall_mem_cons.mpr ⟨mt_29, List.forall_mem_cons.mpr ⟨mt_30, List.forall_mem_cons.mpr ⟨mt_31, List.forall_mem_cons.mpr ⟨mt_32, List.forall_mem_cons.mpr ⟨mt_33, List.forall_mem_cons.mpr ⟨mt_34, List.forall_mem_cons.mpr ⟨mt_35, List.forall_mem_cons.mpr ⟨mt_36, List.forall_mem_cons.mpr ⟨mt_37, List.forall_mem_cons.mpr ⟨mt_38, List.forall_mem_cons.mpr ⟨mt_39, fun _ h => absurd h List.not_mem_nil⟩⟩⟩⟩⟩⟩⟩⟩⟩⟩⟩⟩⟩⟩⟩⟩⟩⟩⟩⟩⟩⟩⟩⟩⟩⟩⟩⟩⟩⟩⟩⟩⟩⟩⟩⟩⟩⟩⟩⟩
end
section
/-! THE CLAIM OUT OF ONE WALK OF THE LAW'S BODY. Your part is whole_start (and what it stands on); all else here is the same for every law, but numbers. -/
def R_law : String := "ArrayHouseLaw"
def lw_P (b : Addr) (xs : List Int32) (args : Array Value) (s : State) : Prop := args = #[.ref b] ∧ s.IntsAt b xs ∧ xs.length ≤ 6 ∧ (Jvm.Cond.and given_1 narrow_1).before args s = true
def lw_Q (_ : Array Value) (s : State) (o : Outcome) (t : State) : Prop := o = .returned (some (.int 1)) ∧ Framed s o t [] 247238 8360536
def lw_Z (below : List Frame) (a : Array Value) (s : State) : State → Prop := fun t => ∃ o, t.status = .running ∧ Ended t below o ∧ lw_Q a s o t
/-- the law's own end, with 1 on the stack, nothing written that was there before, its room as the claim has it -/
theorem lw_ret {p : Program} {l : Launch} {e : Env} {s : State} {m : MethodId} {below : List Frame} {meth : Method} {c : Code} {b : Nat} (hx : p.tables.exec = Jvm.exec) (hb : c.code = code) (hr : meth.sig.returnType = ret) (hlocks : meth.locks = false) {pc : Nat} {H : Heap} {ls : Array Slot} (hdg : decode code pc = .ok (.ireturn, 1)) : W p l e room_1 s m #[Value.ref b] below meth c H [] 247238 8360536 (lw_Z below #[Value.ref b] s) (F0 m pc ls [.int 1]) := by
  intro T hT X
  obtain ⟨fs, hret, hrun, hended, hW, hframe⟩ := X.leave (v := some (.int 1)) (hlocks := hlocks) (fun h => by rw [hr] at h; cases h)
  have hmeth' : T.vm.method? m = some meth := X.method'
  refine ⟨T.setFrames fs, ?_, .returned (some (.int 1)), hrun, hended, rfl, ⟨_, rfl⟩, hW, hframe⟩
  jvm_step X.here [X.here.top, hx, hb, hdg, hmeth', hr, ret, narrow_b1]
  (try refine ⟨rfl, ?_⟩); (try refine ⟨rfl, ?_⟩)
  first | (intro acts; rw [hret _ acts rfl rfl rfl]) | rw [hret _ _ rfl rfl rfl]
  exact Steps.refl _
/-- what holds at the law's entry: the machine, the code, the tables' words (any of lw_tbl by 'hts w (by decide +kernel)'), the script of L ints xs at the cell b, what the Statement gives of the start (any of its parts by flat_of_before) -/
def lw_At (p : Program) (s : State) (m : MethodId) (meth : Method) (c : Code) (b L : Nat) (xs : Nat → Int32) : Prop :=
  p.tables.exec = Jvm.exec ∧ c.code = code ∧ meth.sig.returnType = ret ∧ c.maxLocals = 4 ∧ s.vm.findClass R_law = some m.cls ∧ (∀ w ∈ lw_tbl, w.before #[Value.ref b] s = true) ∧ va_X b L xs s s.heap ∧ b < s.heap.size ∧ meth.locks = false ∧ (Jvm.Cond.and given_1 narrow_1).before #[Value.ref b] s = true
/-! what this claim's walks stand on -/
theorem WA_g' {w : Cond} (h : w ∈ WA) : w ∈ WA ∧ ((w.onTables && w.keeps) = true ∨ ∃ ty, w = .arrayClass ty) := ⟨h, (WA_good w h).2⟩
theorem gW {b : Cond} (hb : b ∈ WA) : GoodIn WA (b :: WA) := fun w hw => by
  rcases List.mem_cons.mp hw with h | h
  · subst h; exact WA_g' hb
  · exact WA_g' h
theorem gV {own C : String} {ix : Nat} {y : MethodName} {b : Cond} (h1 : Cond.methodLink own ix y ∈ WA) (h2 : Cond.instanceMethod y ∈ WA) (h3 : Cond.selects C y y ∈ WA) (h4 : Cond.initialized C ∈ WA) (hb : b ∈ WA) : GoodIn WA (wsV own ix C y (b :: WA)) := fun w hw => by
  rcases List.mem_append.mp hw with h | h
  · simp only [List.mem_cons, List.not_mem_nil, or_false] at h
    rcases h with h | h | h | h <;> (subst h; apply WA_g'; assumption)
  · exact gW hb w h
theorem gS {own : String} {ix : Nat} {y : MethodName} {b : Cond} (h1 : Cond.methodLink own ix y ∈ WA) (h2 : Cond.static y ∈ WA) (h4 : Cond.initialized own ∈ WA) (hb : b ∈ WA) : GoodIn WA (wsS own ix y (b :: WA)) := fun w hw => by
  rcases List.mem_append.mp hw with h | h
  · simp only [List.mem_cons, List.not_mem_nil, or_false] at h
    rcases h with h | h | h <;> (subst h; apply WA_g'; assumption)
  · exact gW hb w h
def isNest : Cond → Bool
  | .fieldLinkNest .. => true
  | .methodLinkNest .. => true
  | _ => false
theorem nw_all : NWL.all isNest = true := by decide +kernel
theorem nw_is {w : Cond} (h : w ∈ NWL) : isNest w = true := List.all_eq_true.mp nw_all w h
theorem nw_ontab {w : Cond} (h : isNest w = true) : w.onTables = true := by
  cases w <;> first | rfl | (simp [isNest] at h; done)
def NW (U : State) : Prop := ∀ w ∈ NWL, va_Nw w U
theorem nw_w1 {w : Cond} (h : isNest w = true) {s U : State} (hW : s.WarmedH U.vm) (hZ : va_Nw w s) : va_Nw w U := by
  cases w <;> first | exact va_Nw.warmF hW hZ | exact va_Nw.warmM hW hZ | (simp [isNest] at h; done)
theorem NW.warm {s U : State} (hW : s.WarmedH U.vm) (h : NW s) : NW U := fun w hw => nw_w1 (nw_is hw) hW (h w hw)
theorem NW.same {u U : State} (e : u.vm = U.vm) (h : NW u) : NW U := fun w hw => va_Nw.same (nw_ontab (nw_is hw)) e (h w hw)
def PB (dC : Nat → ClassId) (dI : Nat → Nat → Nat) (cI cB : ClassId) (ws : va_W) (sz : Nat) (U : State) : Prop := U.heap.size = sz ∧ va_P (dC, dI) vwCl ws U.heap ∧ va_K (dC, dI) vwCl [(cI, .int), (cB, .byte)] U ∧ va_D (fun _ => True) ws ∧ NW U
def QB (dC : Nat → ClassId) (dI : Nat → Nat → Nat) (cI cB : ClassId) (ws : va_W) (A : Nat → Prop) (t : State) : Prop := va_P (dC, dI) vwCl ws t.heap ∧ va_K (dC, dI) vwCl [(cI, .int), (cB, .byte)] t ∧ va_D A ws
theorem PB_blind {dC : Nat → ClassId} {dI : Nat → Nat → Nat} {cI cB : ClassId} {ws : va_W} {sz : Nat} (av : List Value) : FrameBlind (va_Pc av (PB dC dI cI cB ws sz)) := fun a U g mk q => by
  obtain ⟨q0, q1, qP, qK, qD, qN⟩ := q
  exact ⟨q0, q1, qP, va_K.moved (u := U) (U := U.calling g mk a) (Vm.Alike.refl U.vm) qK, qD, NW.same rfl qN⟩
theorem PB_at {dC : Nat → ClassId} {dI : Nat → Nat → Nat} {cI cB : ClassId} {ws : va_W} {A : Nat → Prop} {s U : State} {H : Heap} (hU : U.heap = H) (hW : s.WarmedH U.vm) (hP : va_P (dC, dI) vwCl ws H) (hK : va_K (dC, dI) vwCl [(cI, .int), (cB, .byte)] s) (hD : va_D A ws) (hN : NW s) : PB dC dI cI cB ws H.size U :=
  ⟨by rw [hU], by rw [hU]; exact hP, va_K.moved hW.alike hK, hD.weaken (fun _ _ _ _ => trivial), NW.warm hW hN⟩
theorem after {dC : Nat → ClassId} {dI : Nat → Nat → Nat} {cI cB : ClassId} {A0 : Nat → Prop} {ws wc wr w1 : va_W} {H H1 : Heap} {t : State} (hP : va_P (dC, dI) vwCl ws H) (hD : va_D A0 ws) (isC isR : List Nat) (hC : isC.map (fun i => ws[i]?) = wc.map some) (hR : isR.map (fun i => ws[i]?) = wr.map some) (hn : va_nd isR = true) (hdis : ∀ i ∈ isR, i ∉ isC)
    (hk : ∀ q : Nat, q < H.size → ¬ va_A wc H.size q → H1[q]? = H[q]?) (hF : ∀ q, va_A wc H.size q → A0 q) (ht : t.heap = H1) (hq : QB dC dI cI cB w1 (va_A wc H.size) t) : va_P (dC, dI) vwCl (wr ++ w1) H1 ∧ va_D A0 (wr ++ w1) := by
  subst ht
  exact va_join hP hD isC isR hC hR hn hdis hk hF hq.1 hq.2.2
theorem after0 {dC : Nat → ClassId} {dI : Nat → Nat → Nat} {A0 : Nat → Prop} {ws wc wr : va_W} {H H1 : Heap} (hP : va_P (dC, dI) vwCl ws H) (hD : va_D A0 ws) (isC isR : List Nat) (hC : isC.map (fun i => ws[i]?) = wc.map some) (hR : isR.map (fun i => ws[i]?) = wr.map some) (hn : va_nd isR = true) (hdis : ∀ i ∈ isR, i ∉ isC)
    (hk : ∀ q : Nat, q < H.size → ¬ va_A wc H.size q → H1[q]? = H[q]?) (hF : ∀ q, va_A wc H.size q → A0 q) : va_P (dC, dI) vwCl wr H1 ∧ va_D A0 wr := by
  have h := va_join (w1 := []) hP hD isC isR hC hR hn hdis hk hF (fun k q h => by simp at h) ⟨fun i j p q h => by simp at h, fun k q h => by simp at h⟩
  rwa [List.append_nil] at h
theorem ty_int {dC : Nat → ClassId} {dI : Nat → Nat → Nat} {cI cB cA : ClassId} {U : State} (h : va_K (dC, dI) vwCl ([(cI, .int), (cB, .byte)] ++ [(cA, .int)]) U) : cI = cA := by
  have h1 : U.vm.findClass ("[" ++ FieldType.int.toString) = some cI := (h.2 0 _ rfl).2
  have h2 : U.vm.findClass ("[" ++ FieldType.int.toString) = some cA := (h.2 2 _ rfl).2
  exact Option.some.inj (h1.symm.trans h2)
theorem ty_byte {dC : Nat → ClassId} {dI : Nat → Nat → Nat} {cI cB cA : ClassId} {U : State} (h : va_K (dC, dI) vwCl ([(cI, .int), (cB, .byte)] ++ [(cA, .byte)]) U) : cB = cA := by
  have h1 : U.vm.findClass ("[" ++ FieldType.byte.toString) = some cB := (h.2 1 _ rfl).2
  have h2 : U.vm.findClass ("[" ++ FieldType.byte.toString) = some cA := (h.2 2 _ rfl).2
  exact Option.some.inj (h1.symm.trans h2)
theorem arr_known {s : State} {args : Array Value} {ty : FieldType} (h : (Cond.arrayClass ty).before args s = true) (hp : (match ty with | .object _ => false | _ => true) = true) : ∃ cA : ClassId, ArrOfT s cA ty ∧ va_RA s cA ty := by
  obtain ⟨cA, kA, comp, h1, h2, h3⟩ := Cond.arrayClass_spec h
  refine ⟨cA, fun n z => ⟨fun k h => (by cases h), kA, h2, comp, h3⟩, ?_⟩
  cases ty <;> first | exact h1 | (simp at hp; done)
section TP
variable {p : Program} {l : Launch} {e : Env} {R : Room} {s : State} {m : MethodId} {args : Array Value} {below : List Frame} {meth : Method} {c : Code} {H : Heap} {locs : List Loc} {cells slots : Nat} {Q : State → Prop} {pc : Nat} {ls : Array Slot} {rest : List Value}
theorem tp_i {x : Int32} (y : Int32) (h : x = y) (k : W p l e R s m args below meth c H locs cells slots Q (F0 m pc ls (.int y :: rest))) : W p l e R s m args below meth c H locs cells slots Q (F0 m pc ls (.int x :: rest)) := by
  subst h; exact k
theorem lp_ (N : Nat) (I : Nat → Heap → List Loc → Array Slot → Prop) (hstep : ∀ i, i < N → (∀ H locs ls, I (i + 1) H locs ls → W p l e R s m args below meth c H locs cells slots Q (F0 m pc ls [])) → ∀ H locs ls, I i H locs ls → W p l e R s m args below meth c H locs cells slots Q (F0 m pc ls [])) (hend : ∀ H locs ls, I N H locs ls → W p l e R s m args below meth c H locs cells slots Q (F0 m pc ls [])) (h0 : I 0 H locs ls) : W p l e R s m args below meth c H locs cells slots Q (F0 m pc ls []) := by
  have key : ∀ k i, i + k = N → ∀ H locs ls, I i H locs ls → W p l e R s m args below meth c H locs cells slots Q (F0 m pc ls []) := by
    intro k
    induction k with
    | zero => intro i hi H locs ls h; exact hend H locs ls (by rw [show N = i by omega]; exact h)
    | succ k ih => intro i hi H locs ls h; exact hstep i (by omega) (ih (i + 1) (by omega)) H locs ls h
  exact key N 0 (by omega) H locs ls h0
end TP
theorem cpy0 {f g : Nat → Int32} {sp dp : Nat} : va_cpy f g sp dp (0 : Int32).toNatClampNeg = g := by
  rw [sb_cl0]
  funext k
  unfold va_cpy
  rw [if_neg (by omega)]
theorem f_eq {x y : Int32} {n m : Int} (hx : x.toInt = n) (hy : y.toInt = m) (h : x = y) : n = m := by rw [← hx, ← hy, h]
theorem f_ne {x y : Int32} {n m : Int} (hx : x.toInt = n) (hy : y.toInt = m) (h : ¬ x = y) : ¬ n = m := fun e => h (Int32.toInt_inj.mp (by rw [hx, hy, e]))
theorem f_lt {x y : Int32} {n m : Int} (hx : x.toInt = n) (hy : y.toInt = m) (h : x < y) : n < m := by rw [← hx, ← hy]; exact Int32.lt_iff_toInt_lt.mp h
theorem f_nlt {x y : Int32} {n m : Int} (hx : x.toInt = n) (hy : y.toInt = m) (h : ¬ x < y) : ¬ n < m := by rw [← hx, ← hy]; exact fun q => h (Int32.lt_iff_toInt_lt.mpr q)
theorem f_le {x y : Int32} {n m : Int} (hx : x.toInt = n) (hy : y.toInt = m) (h : x ≤ y) : n ≤ m := by rw [← hx, ← hy]; exact Int32.le_iff_toInt_le.mp h
theorem f_nle {x y : Int32} {n m : Int} (hx : x.toInt = n) (hy : y.toInt = m) (h : ¬ x ≤ y) : ¬ n ≤ m := by rw [← hx, ← hy]; exact fun q => h (Int32.le_iff_toInt_le.mpr q)
theorem cmp_ge {v : Int32} (h : 0 ≤ lg_cmp v.toInt64 2147483647) : 2147483647 ≤ v.toInt := by
  have h1 := Int64.le_iff_toInt_le.mp ((lg_cmp_ge _ _).mp h)
  rw [Int32.toInt_toInt64, show (2147483647 : Int64).toInt = 2147483647 by decide] at h1
  exact h1
theorem cmp_lt {v : Int32} (h : ¬ 0 ≤ lg_cmp v.toInt64 2147483647) : v.toInt < 2147483647 := by
  apply Int.not_le.mp
  intro q
  apply h
  apply (lg_cmp_ge _ _).mpr
  apply Int64.le_iff_toInt_le.mpr
  rw [Int32.toInt_toInt64, show (2147483647 : Int64).toInt = 2147483647 by decide]
  exact q
def trimA (n : Int32) : Int32 := if n.toInt = 0 then 0 else -1
def toldA (w : Int32) : Int32 := if w.toInt = 5 ∨ w.toInt = 6 then 1 else if 0 ≤ w.toInt ∧ w.toInt ≤ 7 then 0 else -1
def setA (w v : Int32) : Int32 := if (w.toInt = 0 ∧ 0 ≤ v.toInt ∧ v.toInt ≤ 1) ∨ (w.toInt = 1 ∧ 1 ≤ v.toInt ∧ v.toInt ≤ 2147483646) then 1 else -1
theorem sw_out8 {x : Int32} (h0 : ¬ x = 0) (h1 : ¬ x = 1) (h2 : ¬ x = 2) (h3 : ¬ x = 3) (h4 : ¬ x = 4) (h5 : ¬ x = 5) (h6 : ¬ x = 6) (h7 : ¬ x = 7) : x.toInt < 0 ∨ 7 < x.toInt := by
  have k0 := f_ne (m := 0) rfl (by decide) h0
  have k1 := f_ne (m := 1) rfl (by decide) h1
  have k2 := f_ne (m := 2) rfl (by decide) h2
  have k3 := f_ne (m := 3) rfl (by decide) h3
  have k4 := f_ne (m := 4) rfl (by decide) h4
  have k5 := f_ne (m := 5) rfl (by decide) h5
  have k6 := f_ne (m := 6) rfl (by decide) h6
  have k7 := f_ne (m := 7) rfl (by decide) h7
  omega
theorem sw_out17 {x : Int32} (h0 : ¬ x = 0) (h1 : ¬ x = 1) (h2 : ¬ x = 2) (h3 : ¬ x = 3) (h4 : ¬ x = 4) (h5 : ¬ x = 5) (h6 : ¬ x = 6) (h7 : ¬ x = 7) (h8 : ¬ x = 8) (h9 : ¬ x = 9) (h10 : ¬ x = 10) (h11 : ¬ x = 11) (h12 : ¬ x = 12) (h13 : ¬ x = 13) (h14 : ¬ x = 14) (h15 : ¬ x = 15) (h16 : ¬ x = 16) : x.toInt < 0 ∨ 16 < x.toInt := by
  have k0 := f_ne (m := 0) rfl (by decide) h0
  have k1 := f_ne (m := 1) rfl (by decide) h1
  have k2 := f_ne (m := 2) rfl (by decide) h2
  have k3 := f_ne (m := 3) rfl (by decide) h3
  have k4 := f_ne (m := 4) rfl (by decide) h4
  have k5 := f_ne (m := 5) rfl (by decide) h5
  have k6 := f_ne (m := 6) rfl (by decide) h6
  have k7 := f_ne (m := 7) rfl (by decide) h7
  have k8 := f_ne (m := 8) rfl (by decide) h8
  have k9 := f_ne (m := 9) rfl (by decide) h9
  have k10 := f_ne (m := 10) rfl (by decide) h10
  have k11 := f_ne (m := 11) rfl (by decide) h11
  have k12 := f_ne (m := 12) rfl (by decide) h12
  have k13 := f_ne (m := 13) rfl (by decide) h13
  have k14 := f_ne (m := 14) rfl (by decide) h14
  have k15 := f_ne (m := 15) rfl (by decide) h15
  have k16 := f_ne (m := 16) rfl (by decide) h16
  omega
theorem df_0 : ∀ j, j < 6 → defaultValue (tyX0 j) = vp_V [.null, .null, .null, .null, .null, .null] j := by decide +kernel
theorem df_1 : ∀ j, j < 9 → defaultValue (tyX1 j) = vp_V [.null, .null, .null, .null, .int 0, .int 0, .int 0, .int 0, .int 0] j := by decide +kernel
theorem df_2 : ∀ j, j < 5 → defaultValue (tyX2 j) = vp_V [.null, .null, .null, .null, .null] j := by decide +kernel
theorem df_3 : ∀ j, j < 16 → defaultValue (tyX3 j) = vp_V [.null, .null, .null, .null, .null, .null, .null, .null, .null, .null, .null, .null, .null, .null, .int 0, .int 0] j := by decide +kernel
theorem df_4 : ∀ j, j < 13 → defaultValue (tyX4 j) = vp_V [.null, .null, .null, .null, .null, .null, .null, .null, .null, .int 0, .int 0, .int 0, .int 0] j := by decide +kernel
theorem df_5 : ∀ j, j < 4 → defaultValue (tyX5 j) = vp_V [.null, .null, .int 0, .int 0] j := by decide +kernel
theorem df_6 : ∀ j, j < 5 → defaultValue (tyX6 j) = vp_V [.null, .null, .null, .null, .null] j := by decide +kernel
theorem df_7 : ∀ j, j < 5 → defaultValue (tyX7 j) = vp_V [.int 0, .int 0, .int 0, .int 0, .int 0] j := by decide +kernel
theorem df_8 : ∀ j, j < 8 → defaultValue (tyX8 j) = vp_V [.null, .null, .null, .int 0, .int 0, .int 0, .int 0, .int 0] j := by decide +kernel
theorem df_9 : ∀ j, j < 4 → defaultValue (tyX9 j) = vp_V [.null, .null, .int 0, .int 0] j := by decide +kernel
theorem df_10 : ∀ j, j < 11 → defaultValue (tyX10 j) = vp_V [.null, .null, .null, .null, .null, .null, .null, .null, .int 0, .int 0, .int 0] j := by decide +kernel
theorem df_11 : ∀ j, j < 76 → defaultValue (tyX11 j) = vp_V [.int 0, .int 0, .int 0, .int 0, .long 0, .null, .null, .int 0, .null, .int 0, .int 0, .int 0, .null, .null, .null, .int 0, .null, .int 0, .null, .int 0, .int 0, .null, .int 0, .null, .int 0, .null, .null, .null, .null, .null, .null, .null, .int 0, .int 0, .int 0, .int 0, .null, .null, .null, .null, .null, .null, .null, .null, .null, .int 0, .int 0, .null, .null, .null, .null, .int 0, .int 0, .int 0, .int 0, .int 0, .int 0, .int 0, .int 0, .int 0, .int 0, .int 0, .int 0, .int 0, .null, .null, .int 0, .null, .null, .null, .null, .int 0, .int 0, .int 0, .int 0, .null] j := by decide +kernel
end
