section
-- ===== PART A: goes FIRST, ahead of the names: the tables' words, and 'selects' of the private methods out of them =====
/-- a private method of a class that the tables say can be made, by its rows of tables_1 -/
def lw_okq (q : MethodName × Nat) : Prop := (q.1.cls ≠ "java/lang/invoke/MethodHandle" ∧ q.1.cls ≠ "java/lang/invoke/VarHandle") ∧ Cond.instantiable q.1.cls q.2 ∈ tables_1 ∧ Cond.privateMethod q.1 ∈ tables_1 ∧ Cond.instanceMethod q.1 ∈ tables_1
theorem lw_p0 : lw_okq (⟨"AddedLetters$Relay", "putLetter", "(II)Z"⟩, 8) := ⟨⟨by decide +kernel, by decide +kernel⟩, List.mem_of_getElem? (i := 26) (by decide +kernel), List.mem_of_getElem? (i := 219) (by decide +kernel), List.mem_of_getElem? (i := 220) (by decide +kernel)⟩
theorem lw_p1 : lw_okq (⟨"AddedLetters$Relay", "isThere", "(I)Z"⟩, 8) := ⟨⟨by decide +kernel, by decide +kernel⟩, List.mem_of_getElem? (i := 26) (by decide +kernel), List.mem_of_getElem? (i := 223) (by decide +kernel), List.mem_of_getElem? (i := 224) (by decide +kernel)⟩
theorem lw_p2 : lw_okq (⟨"AddedLetters$Relay", "takeLetter", "(I)I"⟩, 8) := ⟨⟨by decide +kernel, by decide +kernel⟩, List.mem_of_getElem? (i := 26) (by decide +kernel), List.mem_of_getElem? (i := 232) (by decide +kernel), List.mem_of_getElem? (i := 233) (by decide +kernel)⟩
theorem lw_p3 : lw_okq (⟨"AddedLetters$Relay", "takeFrom", "(II)V"⟩, 8) := ⟨⟨by decide +kernel, by decide +kernel⟩, List.mem_of_getElem? (i := 26) (by decide +kernel), List.mem_of_getElem? (i := 236) (by decide +kernel), List.mem_of_getElem? (i := 237) (by decide +kernel)⟩
theorem lw_p4 : lw_okq (⟨"AddedLetters$Queue", "removeLetter", "(I)I"⟩, 3) := ⟨⟨by decide +kernel, by decide +kernel⟩, List.mem_of_getElem? (i := 32) (by decide +kernel), List.mem_of_getElem? (i := 240) (by decide +kernel), List.mem_of_getElem? (i := 241) (by decide +kernel)⟩
theorem lw_p5 : lw_okq (⟨"AddedLetters$Relay", "holds", "(II)Z"⟩, 8) := ⟨⟨by decide +kernel, by decide +kernel⟩, List.mem_of_getElem? (i := 26) (by decide +kernel), List.mem_of_getElem? (i := 251) (by decide +kernel), List.mem_of_getElem? (i := 252) (by decide +kernel)⟩
theorem lw_p6 : lw_okq (⟨"AddedLetters$Relay", "give", "(II)Z"⟩, 8) := ⟨⟨by decide +kernel, by decide +kernel⟩, List.mem_of_getElem? (i := 26) (by decide +kernel), List.mem_of_getElem? (i := 255) (by decide +kernel), List.mem_of_getElem? (i := 256) (by decide +kernel)⟩
theorem lw_p7 : lw_okq (⟨"AddedLetters$Queue", "removePair", "(II)Z"⟩, 3) := ⟨⟨by decide +kernel, by decide +kernel⟩, List.mem_of_getElem? (i := 32) (by decide +kernel), List.mem_of_getElem? (i := 259) (by decide +kernel), List.mem_of_getElem? (i := 260) (by decide +kernel)⟩
theorem lw_p8 : lw_okq (⟨"AddedLetters$Queue", "indexOf", "(II)I"⟩, 3) := ⟨⟨by decide +kernel, by decide +kernel⟩, List.mem_of_getElem? (i := 32) (by decide +kernel), List.mem_of_getElem? (i := 263) (by decide +kernel), List.mem_of_getElem? (i := 264) (by decide +kernel)⟩
theorem lw_p9 : lw_okq (⟨"AddedLetters$Queue", "add", "(II)Z"⟩, 3) := ⟨⟨by decide +kernel, by decide +kernel⟩, List.mem_of_getElem? (i := 32) (by decide +kernel), List.mem_of_getElem? (i := 273) (by decide +kernel), List.mem_of_getElem? (i := 274) (by decide +kernel)⟩
theorem lw_p10 : lw_okq (⟨"AddedLetters$Relay", "clear", "()V"⟩, 8) := ⟨⟨by decide +kernel, by decide +kernel⟩, List.mem_of_getElem? (i := 26) (by decide +kernel), List.mem_of_getElem? (i := 289) (by decide +kernel), List.mem_of_getElem? (i := 290) (by decide +kernel)⟩
theorem lw_p11 : lw_okq (⟨"AddedLetters$Relay", "isSum", "(I)Z"⟩, 8) := ⟨⟨by decide +kernel, by decide +kernel⟩, List.mem_of_getElem? (i := 26) (by decide +kernel), List.mem_of_getElem? (i := 305) (by decide +kernel), List.mem_of_getElem? (i := 306) (by decide +kernel)⟩
theorem lw_p12 : lw_okq (⟨"AddedLetters$Relay", "readBy", "(II)I"⟩, 8) := ⟨⟨by decide +kernel, by decide +kernel⟩, List.mem_of_getElem? (i := 26) (by decide +kernel), List.mem_of_getElem? (i := 309) (by decide +kernel), List.mem_of_getElem? (i := 310) (by decide +kernel)⟩
theorem lw_p13 : lw_okq (⟨"AddedLetters$Relay", "bodyOf", "(I)I"⟩, 8) := ⟨⟨by decide +kernel, by decide +kernel⟩, List.mem_of_getElem? (i := 26) (by decide +kernel), List.mem_of_getElem? (i := 323) (by decide +kernel), List.mem_of_getElem? (i := 324) (by decide +kernel)⟩
theorem lw_p14 : lw_okq (⟨"AddedLetters$Relay", "countServed", "(I)I"⟩, 8) := ⟨⟨by decide +kernel, by decide +kernel⟩, List.mem_of_getElem? (i := 26) (by decide +kernel), List.mem_of_getElem? (i := 327) (by decide +kernel), List.mem_of_getElem? (i := 328) (by decide +kernel)⟩
theorem lw_p15 : lw_okq (⟨"AddedLetters$Relay", "isOnAir", "(I)Z"⟩, 8) := ⟨⟨by decide +kernel, by decide +kernel⟩, List.mem_of_getElem? (i := 26) (by decide +kernel), List.mem_of_getElem? (i := 331) (by decide +kernel), List.mem_of_getElem? (i := 332) (by decide +kernel)⟩
def lw_privs_1 : List (MethodName × Nat) := [(⟨"AddedLetters$Relay", "putLetter", "(II)Z"⟩, 8), (⟨"AddedLetters$Relay", "isThere", "(I)Z"⟩, 8), (⟨"AddedLetters$Relay", "takeLetter", "(I)I"⟩, 8), (⟨"AddedLetters$Relay", "takeFrom", "(II)V"⟩, 8), (⟨"AddedLetters$Queue", "removeLetter", "(I)I"⟩, 3), (⟨"AddedLetters$Relay", "holds", "(II)Z"⟩, 8), (⟨"AddedLetters$Relay", "give", "(II)Z"⟩, 8), (⟨"AddedLetters$Queue", "removePair", "(II)Z"⟩, 3), (⟨"AddedLetters$Queue", "indexOf", "(II)I"⟩, 3), (⟨"AddedLetters$Queue", "add", "(II)Z"⟩, 3), (⟨"AddedLetters$Relay", "clear", "()V"⟩, 8), (⟨"AddedLetters$Relay", "isSum", "(I)Z"⟩, 8), (⟨"AddedLetters$Relay", "readBy", "(II)I"⟩, 8), (⟨"AddedLetters$Relay", "bodyOf", "(I)I"⟩, 8), (⟨"AddedLetters$Relay", "countServed", "(I)I"⟩, 8), (⟨"AddedLetters$Relay", "isOnAir", "(I)Z"⟩, 8)]
theorem lw_r1 : ∀ q ∈ lw_privs_1, lw_okq q := List.forall_mem_cons.mpr ⟨lw_p0, List.forall_mem_cons.mpr ⟨lw_p1, List.forall_mem_cons.mpr ⟨lw_p2, List.forall_mem_cons.mpr ⟨lw_p3, List.forall_mem_cons.mpr ⟨lw_p4, List.forall_mem_cons.mpr ⟨lw_p5, List.forall_mem_cons.mpr ⟨lw_p6, List.forall_mem_cons.mpr ⟨lw_p7, List.forall_mem_cons.mpr ⟨lw_p8, List.forall_mem_cons.mpr ⟨lw_p9, List.forall_mem_cons.mpr ⟨lw_p10, List.forall_mem_cons.mpr ⟨lw_p11, List.forall_mem_cons.mpr ⟨lw_p12, List.forall_mem_cons.mpr ⟨lw_p13, List.forall_mem_cons.mpr ⟨lw_p14, List.forall_mem_cons.mpr ⟨lw_p15, fun _ h => absurd h List.not_mem_nil⟩⟩⟩⟩⟩⟩⟩⟩⟩⟩⟩⟩⟩⟩⟩⟩
theorem lw_p16 : lw_okq (⟨"AddedLetters$Relay", "openers", "(I)I"⟩, 8) := ⟨⟨by decide +kernel, by decide +kernel⟩, List.mem_of_getElem? (i := 26) (by decide +kernel), List.mem_of_getElem? (i := 336) (by decide +kernel), List.mem_of_getElem? (i := 337) (by decide +kernel)⟩
theorem lw_p17 : lw_okq (⟨"AddedLetters$Relay", "findBest", "()I"⟩, 8) := ⟨⟨by decide +kernel, by decide +kernel⟩, List.mem_of_getElem? (i := 26) (by decide +kernel), List.mem_of_getElem? (i := 344) (by decide +kernel), List.mem_of_getElem? (i := 345) (by decide +kernel)⟩
theorem lw_p18 : lw_okq (⟨"AddedLetters$Relay", "firstOnAir", "()I"⟩, 8) := ⟨⟨by decide +kernel, by decide +kernel⟩, List.mem_of_getElem? (i := 26) (by decide +kernel), List.mem_of_getElem? (i := 348) (by decide +kernel), List.mem_of_getElem? (i := 349) (by decide +kernel)⟩
theorem lw_p19 : lw_okq (⟨"AddedLetters$Relay", "deliver", "(I)I"⟩, 8) := ⟨⟨by decide +kernel, by decide +kernel⟩, List.mem_of_getElem? (i := 26) (by decide +kernel), List.mem_of_getElem? (i := 357) (by decide +kernel), List.mem_of_getElem? (i := 358) (by decide +kernel)⟩
theorem lw_p20 : lw_okq (⟨"AddedLetters$Tape", "add", "(I)Z"⟩, 2) := ⟨⟨by decide +kernel, by decide +kernel⟩, List.mem_of_getElem? (i := 87) (by decide +kernel), List.mem_of_getElem? (i := 370) (by decide +kernel), List.mem_of_getElem? (i := 371) (by decide +kernel)⟩
theorem lw_p21 : lw_okq (⟨"AddedLetters$Tape", "toldNumber", "()I"⟩, 2) := ⟨⟨by decide +kernel, by decide +kernel⟩, List.mem_of_getElem? (i := 87) (by decide +kernel), List.mem_of_getElem? (i := 382) (by decide +kernel), List.mem_of_getElem? (i := 383) (by decide +kernel)⟩
theorem lw_p22 : lw_okq (⟨"AddedLetters$Tape", "spells", "(Ljava/lang/String;)Z"⟩, 2) := ⟨⟨by decide +kernel, by decide +kernel⟩, List.mem_of_getElem? (i := 87) (by decide +kernel), List.mem_of_getElem? (i := 387) (by decide +kernel), List.mem_of_getElem? (i := 388) (by decide +kernel)⟩
theorem lw_p23 : lw_okq (⟨"AddedLetters$Mixing", "forget", "()V"⟩, 6) := ⟨⟨by decide +kernel, by decide +kernel⟩, List.mem_of_getElem? (i := 117) (by decide +kernel), List.mem_of_getElem? (i := 442) (by decide +kernel), List.mem_of_getElem? (i := 443) (by decide +kernel)⟩
theorem lw_p24 : lw_okq (⟨"AddedLetters$Mixing", "begin", "(II)I"⟩, 6) := ⟨⟨by decide +kernel, by decide +kernel⟩, List.mem_of_getElem? (i := 117) (by decide +kernel), List.mem_of_getElem? (i := 451) (by decide +kernel), List.mem_of_getElem? (i := 452) (by decide +kernel)⟩
theorem lw_p25 : lw_okq (⟨"AddedLetters$Generation", "renew", "(II)V"⟩, 3) := ⟨⟨by decide +kernel, by decide +kernel⟩, List.mem_of_getElem? (i := 124) (by decide +kernel), List.mem_of_getElem? (i := 455) (by decide +kernel), List.mem_of_getElem? (i := 456) (by decide +kernel)⟩
theorem lw_p26 : lw_okq (⟨"AddedLetters$Node", "clear", "()V"⟩, 2) := ⟨⟨by decide +kernel, by decide +kernel⟩, List.mem_of_getElem? (i := 131) (by decide +kernel), List.mem_of_getElem? (i := 459) (by decide +kernel), List.mem_of_getElem? (i := 460) (by decide +kernel)⟩
theorem lw_p27 : lw_okq (⟨"AddedLetters$Mixing", "writeLetter", "(II)V"⟩, 6) := ⟨⟨by decide +kernel, by decide +kernel⟩, List.mem_of_getElem? (i := 117) (by decide +kernel), List.mem_of_getElem? (i := 463) (by decide +kernel), List.mem_of_getElem? (i := 464) (by decide +kernel)⟩
theorem lw_p28 : lw_okq (⟨"AddedLetters$Field", "left", "(I)I"⟩, 2) := ⟨⟨by decide +kernel, by decide +kernel⟩, List.mem_of_getElem? (i := 101) (by decide +kernel), List.mem_of_getElem? (i := 467) (by decide +kernel), List.mem_of_getElem? (i := 468) (by decide +kernel)⟩
theorem lw_p29 : lw_okq (⟨"AddedLetters$Node", "take", "([ILAddedLetters$Field;)Z"⟩, 2) := ⟨⟨by decide +kernel, by decide +kernel⟩, List.mem_of_getElem? (i := 131) (by decide +kernel), List.mem_of_getElem? (i := 474) (by decide +kernel), List.mem_of_getElem? (i := 475) (by decide +kernel)⟩
theorem lw_p30 : lw_okq (⟨"AddedLetters$Node", "newLead", "([ILAddedLetters$Field;)I"⟩, 2) := ⟨⟨by decide +kernel, by decide +kernel⟩, List.mem_of_getElem? (i := 131) (by decide +kernel), List.mem_of_getElem? (i := 478) (by decide +kernel), List.mem_of_getElem? (i := 479) (by decide +kernel)⟩
theorem lw_p31 : lw_okq (⟨"AddedLetters$Node", "leftover", "([ILAddedLetters$Field;I)I"⟩, 2) := ⟨⟨by decide +kernel, by decide +kernel⟩, List.mem_of_getElem? (i := 131) (by decide +kernel), List.mem_of_getElem? (i := 482) (by decide +kernel), List.mem_of_getElem? (i := 483) (by decide +kernel)⟩
def lw_privs_2 : List (MethodName × Nat) := [(⟨"AddedLetters$Relay", "openers", "(I)I"⟩, 8), (⟨"AddedLetters$Relay", "findBest", "()I"⟩, 8), (⟨"AddedLetters$Relay", "firstOnAir", "()I"⟩, 8), (⟨"AddedLetters$Relay", "deliver", "(I)I"⟩, 8), (⟨"AddedLetters$Tape", "add", "(I)Z"⟩, 2), (⟨"AddedLetters$Tape", "toldNumber", "()I"⟩, 2), (⟨"AddedLetters$Tape", "spells", "(Ljava/lang/String;)Z"⟩, 2), (⟨"AddedLetters$Mixing", "forget", "()V"⟩, 6), (⟨"AddedLetters$Mixing", "begin", "(II)I"⟩, 6), (⟨"AddedLetters$Generation", "renew", "(II)V"⟩, 3), (⟨"AddedLetters$Node", "clear", "()V"⟩, 2), (⟨"AddedLetters$Mixing", "writeLetter", "(II)V"⟩, 6), (⟨"AddedLetters$Field", "left", "(I)I"⟩, 2), (⟨"AddedLetters$Node", "take", "([ILAddedLetters$Field;)Z"⟩, 2), (⟨"AddedLetters$Node", "newLead", "([ILAddedLetters$Field;)I"⟩, 2), (⟨"AddedLetters$Node", "leftover", "([ILAddedLetters$Field;I)I"⟩, 2)]
theorem lw_r2 : ∀ q ∈ lw_privs_2, lw_okq q := List.forall_mem_cons.mpr ⟨lw_p16, List.forall_mem_cons.mpr ⟨lw_p17, List.forall_mem_cons.mpr ⟨lw_p18, List.forall_mem_cons.mpr ⟨lw_p19, List.forall_mem_cons.mpr ⟨lw_p20, List.forall_mem_cons.mpr ⟨lw_p21, List.forall_mem_cons.mpr ⟨lw_p22, List.forall_mem_cons.mpr ⟨lw_p23, List.forall_mem_cons.mpr ⟨lw_p24, List.forall_mem_cons.mpr ⟨lw_p25, List.forall_mem_cons.mpr ⟨lw_p26, List.forall_mem_cons.mpr ⟨lw_p27, List.forall_mem_cons.mpr ⟨lw_p28, List.forall_mem_cons.mpr ⟨lw_p29, List.forall_mem_cons.mpr ⟨lw_p30, List.forall_mem_cons.mpr ⟨lw_p31, fun _ h => absurd h List.not_mem_nil⟩⟩⟩⟩⟩⟩⟩⟩⟩⟩⟩⟩⟩⟩⟩⟩
theorem lw_p32 : lw_okq (⟨"AddedLetters$Field", "inverse", "(I)I"⟩, 2) := ⟨⟨by decide +kernel, by decide +kernel⟩, List.mem_of_getElem? (i := 101) (by decide +kernel), List.mem_of_getElem? (i := 487) (by decide +kernel), List.mem_of_getElem? (i := 488) (by decide +kernel)⟩
theorem lw_p33 : lw_okq (⟨"AddedLetters$Mixing", "nodeOf", "(II)LAddedLetters$Node;"⟩, 6) := ⟨⟨by decide +kernel, by decide +kernel⟩, List.mem_of_getElem? (i := 117) (by decide +kernel), List.mem_of_getElem? (i := 499) (by decide +kernel), List.mem_of_getElem? (i := 500) (by decide +kernel)⟩
theorem lw_p34 : lw_okq (⟨"AddedLetters$Mixing", "find", "(I)LAddedLetters$Generation;"⟩, 6) := ⟨⟨by decide +kernel, by decide +kernel⟩, List.mem_of_getElem? (i := 117) (by decide +kernel), List.mem_of_getElem? (i := 503) (by decide +kernel), List.mem_of_getElem? (i := 504) (by decide +kernel)⟩
theorem lw_p35 : lw_okq (⟨"AddedLetters$Node", "height", "()I"⟩, 2) := ⟨⟨by decide +kernel, by decide +kernel⟩, List.mem_of_getElem? (i := 131) (by decide +kernel), List.mem_of_getElem? (i := 507) (by decide +kernel), List.mem_of_getElem? (i := 508) (by decide +kernel)⟩
theorem lw_p36 : lw_okq (⟨"AddedLetters$Node", "placeOf", "(I)I"⟩, 2) := ⟨⟨by decide +kernel, by decide +kernel⟩, List.mem_of_getElem? (i := 131) (by decide +kernel), List.mem_of_getElem? (i := 516) (by decide +kernel), List.mem_of_getElem? (i := 517) (by decide +kernel)⟩
theorem lw_p37 : lw_okq (⟨"AddedLetters$Node", "cell", "(II)I"⟩, 2) := ⟨⟨by decide +kernel, by decide +kernel⟩, List.mem_of_getElem? (i := 131) (by decide +kernel), List.mem_of_getElem? (i := 520) (by decide +kernel), List.mem_of_getElem? (i := 521) (by decide +kernel)⟩
theorem lw_p38 : lw_okq (⟨"AddedLetters$Node", "knows", "(I)Z"⟩, 2) := ⟨⟨by decide +kernel, by decide +kernel⟩, List.mem_of_getElem? (i := 131) (by decide +kernel), List.mem_of_getElem? (i := 528) (by decide +kernel), List.mem_of_getElem? (i := 529) (by decide +kernel)⟩
theorem lw_p39 : lw_okq (⟨"AddedLetters$Mixing", "carry", "(LAddedLetters$Node;LAddedLetters$Node;I)Z"⟩, 6) := ⟨⟨by decide +kernel, by decide +kernel⟩, List.mem_of_getElem? (i := 117) (by decide +kernel), List.mem_of_getElem? (i := 536) (by decide +kernel), List.mem_of_getElem? (i := 537) (by decide +kernel)⟩
theorem lw_p40 : lw_okq (⟨"AddedLetters$Node", "mixInto", "([ILAddedLetters$Field;I)V"⟩, 2) := ⟨⟨by decide +kernel, by decide +kernel⟩, List.mem_of_getElem? (i := 131) (by decide +kernel), List.mem_of_getElem? (i := 540) (by decide +kernel), List.mem_of_getElem? (i := 541) (by decide +kernel)⟩
theorem lw_p41 : lw_okq (⟨"AddedLetters$Field", "cut", "(I)I"⟩, 2) := ⟨⟨by decide +kernel, by decide +kernel⟩, List.mem_of_getElem? (i := 101) (by decide +kernel), List.mem_of_getElem? (i := 544) (by decide +kernel), List.mem_of_getElem? (i := 545) (by decide +kernel)⟩
theorem lw_p42 : lw_okq (⟨"AddedLetters$Field", "nextDrawn", "()I"⟩, 2) := ⟨⟨by decide +kernel, by decide +kernel⟩, List.mem_of_getElem? (i := 101) (by decide +kernel), List.mem_of_getElem? (i := 552) (by decide +kernel), List.mem_of_getElem? (i := 553) (by decide +kernel)⟩
theorem lw_p43 : lw_okq (⟨"AddedLetters$Mixing", "leastNew", "(LAddedLetters$Node;LAddedLetters$Node;)I"⟩, 6) := ⟨⟨by decide +kernel, by decide +kernel⟩, List.mem_of_getElem? (i := 117) (by decide +kernel), List.mem_of_getElem? (i := 561) (by decide +kernel), List.mem_of_getElem? (i := 562) (by decide +kernel)⟩
theorem lw_p44 : lw_okq (⟨"AddedLetters$Mixing", "leastNewForAll", "(LAddedLetters$Generation;I)I"⟩, 6) := ⟨⟨by decide +kernel, by decide +kernel⟩, List.mem_of_getElem? (i := 117) (by decide +kernel), List.mem_of_getElem? (i := 570) (by decide +kernel), List.mem_of_getElem? (i := 571) (by decide +kernel)⟩
theorem lw_p45 : lw_okq (⟨"AddedLetters$Mixing", "countMixes", "(I)I"⟩, 6) := ⟨⟨by decide +kernel, by decide +kernel⟩, List.mem_of_getElem? (i := 117) (by decide +kernel), List.mem_of_getElem? (i := 579) (by decide +kernel), List.mem_of_getElem? (i := 580) (by decide +kernel)⟩
theorem lw_p46 : lw_okq (⟨"AddedLetters$Mixing", "raisesAll", "(LAddedLetters$Generation;)Z"⟩, 6) := ⟨⟨by decide +kernel, by decide +kernel⟩, List.mem_of_getElem? (i := 117) (by decide +kernel), List.mem_of_getElem? (i := 583) (by decide +kernel), List.mem_of_getElem? (i := 584) (by decide +kernel)⟩
theorem lw_p47 : lw_okq (⟨"AddedLetters$Mixing", "takeOutDone", "()I"⟩, 6) := ⟨⟨by decide +kernel, by decide +kernel⟩, List.mem_of_getElem? (i := 117) (by decide +kernel), List.mem_of_getElem? (i := 591) (by decide +kernel), List.mem_of_getElem? (i := 592) (by decide +kernel)⟩
def lw_privs_3 : List (MethodName × Nat) := [(⟨"AddedLetters$Field", "inverse", "(I)I"⟩, 2), (⟨"AddedLetters$Mixing", "nodeOf", "(II)LAddedLetters$Node;"⟩, 6), (⟨"AddedLetters$Mixing", "find", "(I)LAddedLetters$Generation;"⟩, 6), (⟨"AddedLetters$Node", "height", "()I"⟩, 2), (⟨"AddedLetters$Node", "placeOf", "(I)I"⟩, 2), (⟨"AddedLetters$Node", "cell", "(II)I"⟩, 2), (⟨"AddedLetters$Node", "knows", "(I)Z"⟩, 2), (⟨"AddedLetters$Mixing", "carry", "(LAddedLetters$Node;LAddedLetters$Node;I)Z"⟩, 6), (⟨"AddedLetters$Node", "mixInto", "([ILAddedLetters$Field;I)V"⟩, 2), (⟨"AddedLetters$Field", "cut", "(I)I"⟩, 2), (⟨"AddedLetters$Field", "nextDrawn", "()I"⟩, 2), (⟨"AddedLetters$Mixing", "leastNew", "(LAddedLetters$Node;LAddedLetters$Node;)I"⟩, 6), (⟨"AddedLetters$Mixing", "leastNewForAll", "(LAddedLetters$Generation;I)I"⟩, 6), (⟨"AddedLetters$Mixing", "countMixes", "(I)I"⟩, 6), (⟨"AddedLetters$Mixing", "raisesAll", "(LAddedLetters$Generation;)Z"⟩, 6), (⟨"AddedLetters$Mixing", "takeOutDone", "()I"⟩, 6)]
theorem lw_r3 : ∀ q ∈ lw_privs_3, lw_okq q := List.forall_mem_cons.mpr ⟨lw_p32, List.forall_mem_cons.mpr ⟨lw_p33, List.forall_mem_cons.mpr ⟨lw_p34, List.forall_mem_cons.mpr ⟨lw_p35, List.forall_mem_cons.mpr ⟨lw_p36, List.forall_mem_cons.mpr ⟨lw_p37, List.forall_mem_cons.mpr ⟨lw_p38, List.forall_mem_cons.mpr ⟨lw_p39, List.forall_mem_cons.mpr ⟨lw_p40, List.forall_mem_cons.mpr ⟨lw_p41, List.forall_mem_cons.mpr ⟨lw_p42, List.forall_mem_cons.mpr ⟨lw_p43, List.forall_mem_cons.mpr ⟨lw_p44, List.forall_mem_cons.mpr ⟨lw_p45, List.forall_mem_cons.mpr ⟨lw_p46, List.forall_mem_cons.mpr ⟨lw_p47, fun _ h => absurd h List.not_mem_nil⟩⟩⟩⟩⟩⟩⟩⟩⟩⟩⟩⟩⟩⟩⟩⟩
theorem lw_p48 : lw_okq (⟨"AddedLetters$Generation", "isDone", "()Z"⟩, 3) := ⟨⟨by decide +kernel, by decide +kernel⟩, List.mem_of_getElem? (i := 124) (by decide +kernel), List.mem_of_getElem? (i := 595) (by decide +kernel), List.mem_of_getElem? (i := 596) (by decide +kernel)⟩
theorem lw_p49 : lw_okq (⟨"AddedLetters$Paper", "writeSum", "(II)V"⟩, 2) := ⟨⟨by decide +kernel, by decide +kernel⟩, List.mem_of_getElem? (i := 186) (by decide +kernel), List.mem_of_getElem? (i := 608) (by decide +kernel), List.mem_of_getElem? (i := 609) (by decide +kernel)⟩
theorem lw_p50 : lw_okq (⟨"AddedLetters$Paper", "put", "(I)V"⟩, 2) := ⟨⟨by decide +kernel, by decide +kernel⟩, List.mem_of_getElem? (i := 186) (by decide +kernel), List.mem_of_getElem? (i := 612) (by decide +kernel), List.mem_of_getElem? (i := 613) (by decide +kernel)⟩
theorem lw_p51 : lw_okq (⟨"AddedLetters$Paper", "putFigure", "(I)V"⟩, 2) := ⟨⟨by decide +kernel, by decide +kernel⟩, List.mem_of_getElem? (i := 186) (by decide +kernel), List.mem_of_getElem? (i := 616) (by decide +kernel), List.mem_of_getElem? (i := 617) (by decide +kernel)⟩
theorem lw_p52 : lw_okq (⟨"AddedLetters$Paper", "putBody", "(I)V"⟩, 2) := ⟨⟨by decide +kernel, by decide +kernel⟩, List.mem_of_getElem? (i := 186) (by decide +kernel), List.mem_of_getElem? (i := 620) (by decide +kernel), List.mem_of_getElem? (i := 621) (by decide +kernel)⟩
theorem lw_p53 : lw_okq (⟨"AddedLetters$Paper", "answer", "(I)I"⟩, 2) := ⟨⟨by decide +kernel, by decide +kernel⟩, List.mem_of_getElem? (i := 186) (by decide +kernel), List.mem_of_getElem? (i := 624) (by decide +kernel), List.mem_of_getElem? (i := 625) (by decide +kernel)⟩
theorem lw_p54 : lw_okq (⟨"AddedLetters$Paper", "writeRows", "(LAddedLetters$Node;I)V"⟩, 2) := ⟨⟨by decide +kernel, by decide +kernel⟩, List.mem_of_getElem? (i := 186) (by decide +kernel), List.mem_of_getElem? (i := 632) (by decide +kernel), List.mem_of_getElem? (i := 633) (by decide +kernel)⟩
theorem lw_p55 : lw_okq (⟨"AddedLetters$Paper", "writeRow", "(LAddedLetters$Node;II)V"⟩, 2) := ⟨⟨by decide +kernel, by decide +kernel⟩, List.mem_of_getElem? (i := 186) (by decide +kernel), List.mem_of_getElem? (i := 636) (by decide +kernel), List.mem_of_getElem? (i := 637) (by decide +kernel)⟩
theorem lw_p56 : lw_okq (⟨"AddedLettersModel", "isLetter", "(I)Z"⟩, 27) := ⟨⟨by decide +kernel, by decide +kernel⟩, List.mem_of_getElem? (i := 647) (by decide +kernel), List.mem_of_getElem? (i := 746) (by decide +kernel), List.mem_of_getElem? (i := 747) (by decide +kernel)⟩
theorem lw_p57 : lw_okq (⟨"AddedLettersModel", "goes", "(II)I"⟩, 27) := ⟨⟨by decide +kernel, by decide +kernel⟩, List.mem_of_getElem? (i := 647) (by decide +kernel), List.mem_of_getElem? (i := 753) (by decide +kernel), List.mem_of_getElem? (i := 754) (by decide +kernel)⟩
theorem lw_p58 : lw_okq (⟨"AddedLettersModel", "isWanted", "(II)Z"⟩, 27) := ⟨⟨by decide +kernel, by decide +kernel⟩, List.mem_of_getElem? (i := 647) (by decide +kernel), List.mem_of_getElem? (i := 768) (by decide +kernel), List.mem_of_getElem? (i := 769) (by decide +kernel)⟩
theorem lw_p59 : lw_okq (⟨"AddedLettersModel", "isSum", "(I)Z"⟩, 27) := ⟨⟨by decide +kernel, by decide +kernel⟩, List.mem_of_getElem? (i := 647) (by decide +kernel), List.mem_of_getElem? (i := 796) (by decide +kernel), List.mem_of_getElem? (i := 797) (by decide +kernel)⟩
theorem lw_p60 : lw_okq (⟨"AddedLettersModel", "readBy", "(II)I"⟩, 27) := ⟨⟨by decide +kernel, by decide +kernel⟩, List.mem_of_getElem? (i := 647) (by decide +kernel), List.mem_of_getElem? (i := 800) (by decide +kernel), List.mem_of_getElem? (i := 801) (by decide +kernel)⟩
theorem lw_p61 : lw_okq (⟨"AddedLettersModel", "bodyBy", "(I)I"⟩, 27) := ⟨⟨by decide +kernel, by decide +kernel⟩, List.mem_of_getElem? (i := 647) (by decide +kernel), List.mem_of_getElem? (i := 811) (by decide +kernel), List.mem_of_getElem? (i := 812) (by decide +kernel)⟩
theorem lw_p62 : lw_okq (⟨"AddedLettersModel", "manyServed", "(I)I"⟩, 27) := ⟨⟨by decide +kernel, by decide +kernel⟩, List.mem_of_getElem? (i := 647) (by decide +kernel), List.mem_of_getElem? (i := 815) (by decide +kernel), List.mem_of_getElem? (i := 816) (by decide +kernel)⟩
theorem lw_p63 : lw_okq (⟨"AddedLettersModel", "serves", "(II)Z"⟩, 27) := ⟨⟨by decide +kernel, by decide +kernel⟩, List.mem_of_getElem? (i := 647) (by decide +kernel), List.mem_of_getElem? (i := 819) (by decide +kernel), List.mem_of_getElem? (i := 820) (by decide +kernel)⟩
def lw_privs_4 : List (MethodName × Nat) := [(⟨"AddedLetters$Generation", "isDone", "()Z"⟩, 3), (⟨"AddedLetters$Paper", "writeSum", "(II)V"⟩, 2), (⟨"AddedLetters$Paper", "put", "(I)V"⟩, 2), (⟨"AddedLetters$Paper", "putFigure", "(I)V"⟩, 2), (⟨"AddedLetters$Paper", "putBody", "(I)V"⟩, 2), (⟨"AddedLetters$Paper", "answer", "(I)I"⟩, 2), (⟨"AddedLetters$Paper", "writeRows", "(LAddedLetters$Node;I)V"⟩, 2), (⟨"AddedLetters$Paper", "writeRow", "(LAddedLetters$Node;II)V"⟩, 2), (⟨"AddedLettersModel", "isLetter", "(I)Z"⟩, 27), (⟨"AddedLettersModel", "goes", "(II)I"⟩, 27), (⟨"AddedLettersModel", "isWanted", "(II)Z"⟩, 27), (⟨"AddedLettersModel", "isSum", "(I)Z"⟩, 27), (⟨"AddedLettersModel", "readBy", "(II)I"⟩, 27), (⟨"AddedLettersModel", "bodyBy", "(I)I"⟩, 27), (⟨"AddedLettersModel", "manyServed", "(I)I"⟩, 27), (⟨"AddedLettersModel", "serves", "(II)Z"⟩, 27)]
theorem lw_r4 : ∀ q ∈ lw_privs_4, lw_okq q := List.forall_mem_cons.mpr ⟨lw_p48, List.forall_mem_cons.mpr ⟨lw_p49, List.forall_mem_cons.mpr ⟨lw_p50, List.forall_mem_cons.mpr ⟨lw_p51, List.forall_mem_cons.mpr ⟨lw_p52, List.forall_mem_cons.mpr ⟨lw_p53, List.forall_mem_cons.mpr ⟨lw_p54, List.forall_mem_cons.mpr ⟨lw_p55, List.forall_mem_cons.mpr ⟨lw_p56, List.forall_mem_cons.mpr ⟨lw_p57, List.forall_mem_cons.mpr ⟨lw_p58, List.forall_mem_cons.mpr ⟨lw_p59, List.forall_mem_cons.mpr ⟨lw_p60, List.forall_mem_cons.mpr ⟨lw_p61, List.forall_mem_cons.mpr ⟨lw_p62, List.forall_mem_cons.mpr ⟨lw_p63, fun _ h => absurd h List.not_mem_nil⟩⟩⟩⟩⟩⟩⟩⟩⟩⟩⟩⟩⟩⟩⟩⟩
theorem lw_p64 : lw_okq (⟨"AddedLettersModel", "openers", "(I)I"⟩, 27) := ⟨⟨by decide +kernel, by decide +kernel⟩, List.mem_of_getElem? (i := 647) (by decide +kernel), List.mem_of_getElem? (i := 823) (by decide +kernel), List.mem_of_getElem? (i := 824) (by decide +kernel)⟩
theorem lw_p65 : lw_okq (⟨"AddedLettersModel", "bestSum", "()I"⟩, 27) := ⟨⟨by decide +kernel, by decide +kernel⟩, List.mem_of_getElem? (i := 647) (by decide +kernel), List.mem_of_getElem? (i := 831) (by decide +kernel), List.mem_of_getElem? (i := 832) (by decide +kernel)⟩
theorem lw_p66 : lw_okq (⟨"AddedLettersModel", "isBetter", "(II)Z"⟩, 27) := ⟨⟨by decide +kernel, by decide +kernel⟩, List.mem_of_getElem? (i := 647) (by decide +kernel), List.mem_of_getElem? (i := 835) (by decide +kernel), List.mem_of_getElem? (i := 836) (by decide +kernel)⟩
theorem lw_p67 : lw_okq (⟨"AddedLettersModel", "sends", "(I)I"⟩, 27) := ⟨⟨by decide +kernel, by decide +kernel⟩, List.mem_of_getElem? (i := 647) (by decide +kernel), List.mem_of_getElem? (i := 843) (by decide +kernel), List.mem_of_getElem? (i := 844) (by decide +kernel)⟩
theorem lw_p68 : lw_okq (⟨"AddedLettersModel", "primeOnTape", "()I"⟩, 27) := ⟨⟨by decide +kernel, by decide +kernel⟩, List.mem_of_getElem? (i := 647) (by decide +kernel), List.mem_of_getElem? (i := 863) (by decide +kernel), List.mem_of_getElem? (i := 864) (by decide +kernel)⟩
theorem lw_p69 : lw_okq (⟨"AddedLettersModel", "placeOf", "(I)I"⟩, 27) := ⟨⟨by decide +kernel, by decide +kernel⟩, List.mem_of_getElem? (i := 647) (by decide +kernel), List.mem_of_getElem? (i := 878) (by decide +kernel), List.mem_of_getElem? (i := 879) (by decide +kernel)⟩
theorem lw_p70 : lw_okq (⟨"AddedLettersModel", "rankOf", "(II)I"⟩, 27) := ⟨⟨by decide +kernel, by decide +kernel⟩, List.mem_of_getElem? (i := 647) (by decide +kernel), List.mem_of_getElem? (i := 885) (by decide +kernel), List.mem_of_getElem? (i := 886) (by decide +kernel)⟩
theorem lw_p71 : lw_okq (⟨"AddedLettersModel", "isPlain", "(III)Z"⟩, 27) := ⟨⟨by decide +kernel, by decide +kernel⟩, List.mem_of_getElem? (i := 647) (by decide +kernel), List.mem_of_getElem? (i := 897) (by decide +kernel), List.mem_of_getElem? (i := 898) (by decide +kernel)⟩
theorem lw_p72 : lw_okq (⟨"AddedLettersModel", "againstNodes", "(III)I"⟩, 27) := ⟨⟨by decide +kernel, by decide +kernel⟩, List.mem_of_getElem? (i := 647) (by decide +kernel), List.mem_of_getElem? (i := 905) (by decide +kernel), List.mem_of_getElem? (i := 906) (by decide +kernel)⟩
theorem lw_p73 : lw_okq (⟨"AddedLettersModel", "mixes", "(III)V"⟩, 27) := ⟨⟨by decide +kernel, by decide +kernel⟩, List.mem_of_getElem? (i := 647) (by decide +kernel), List.mem_of_getElem? (i := 909) (by decide +kernel), List.mem_of_getElem? (i := 910) (by decide +kernel)⟩
theorem lw_p74 : lw_okq (⟨"AddedLettersModel", "comes", "(II)Z"⟩, 27) := ⟨⟨by decide +kernel, by decide +kernel⟩, List.mem_of_getElem? (i := 647) (by decide +kernel), List.mem_of_getElem? (i := 913) (by decide +kernel), List.mem_of_getElem? (i := 914) (by decide +kernel)⟩
theorem lw_p75 : lw_okq (⟨"AddedLettersModel", "isNewTo", "(II)Z"⟩, 27) := ⟨⟨by decide +kernel, by decide +kernel⟩, List.mem_of_getElem? (i := 647) (by decide +kernel), List.mem_of_getElem? (i := 917) (by decide +kernel), List.mem_of_getElem? (i := 918) (by decide +kernel)⟩
theorem lw_p76 : lw_okq (⟨"AddedLettersModel", "leadOf", "([III)I"⟩, 27) := ⟨⟨by decide +kernel, by decide +kernel⟩, List.mem_of_getElem? (i := 647) (by decide +kernel), List.mem_of_getElem? (i := 921) (by decide +kernel), List.mem_of_getElem? (i := 922) (by decide +kernel)⟩
theorem lw_p77 : lw_okq (⟨"AddedLettersModel", "inverse", "(I)I"⟩, 27) := ⟨⟨by decide +kernel, by decide +kernel⟩, List.mem_of_getElem? (i := 647) (by decide +kernel), List.mem_of_getElem? (i := 925) (by decide +kernel), List.mem_of_getElem? (i := 926) (by decide +kernel)⟩
theorem lw_p78 : lw_okq (⟨"AddedLettersModel", "freshOf", "(III)I"⟩, 27) := ⟨⟨by decide +kernel, by decide +kernel⟩, List.mem_of_getElem? (i := 647) (by decide +kernel), List.mem_of_getElem? (i := 938) (by decide +kernel), List.mem_of_getElem? (i := 939) (by decide +kernel)⟩
theorem lw_p79 : lw_okq (⟨"AddedLettersModel", "mixesOf", "(II)I"⟩, 27) := ⟨⟨by decide +kernel, by decide +kernel⟩, List.mem_of_getElem? (i := 647) (by decide +kernel), List.mem_of_getElem? (i := 942) (by decide +kernel), List.mem_of_getElem? (i := 943) (by decide +kernel)⟩
def lw_privs_5 : List (MethodName × Nat) := [(⟨"AddedLettersModel", "openers", "(I)I"⟩, 27), (⟨"AddedLettersModel", "bestSum", "()I"⟩, 27), (⟨"AddedLettersModel", "isBetter", "(II)Z"⟩, 27), (⟨"AddedLettersModel", "sends", "(I)I"⟩, 27), (⟨"AddedLettersModel", "primeOnTape", "()I"⟩, 27), (⟨"AddedLettersModel", "placeOf", "(I)I"⟩, 27), (⟨"AddedLettersModel", "rankOf", "(II)I"⟩, 27), (⟨"AddedLettersModel", "isPlain", "(III)Z"⟩, 27), (⟨"AddedLettersModel", "againstNodes", "(III)I"⟩, 27), (⟨"AddedLettersModel", "mixes", "(III)V"⟩, 27), (⟨"AddedLettersModel", "comes", "(II)Z"⟩, 27), (⟨"AddedLettersModel", "isNewTo", "(II)Z"⟩, 27), (⟨"AddedLettersModel", "leadOf", "([III)I"⟩, 27), (⟨"AddedLettersModel", "inverse", "(I)I"⟩, 27), (⟨"AddedLettersModel", "freshOf", "(III)I"⟩, 27), (⟨"AddedLettersModel", "mixesOf", "(II)I"⟩, 27)]
theorem lw_r5 : ∀ q ∈ lw_privs_5, lw_okq q := List.forall_mem_cons.mpr ⟨lw_p64, List.forall_mem_cons.mpr ⟨lw_p65, List.forall_mem_cons.mpr ⟨lw_p66, List.forall_mem_cons.mpr ⟨lw_p67, List.forall_mem_cons.mpr ⟨lw_p68, List.forall_mem_cons.mpr ⟨lw_p69, List.forall_mem_cons.mpr ⟨lw_p70, List.forall_mem_cons.mpr ⟨lw_p71, List.forall_mem_cons.mpr ⟨lw_p72, List.forall_mem_cons.mpr ⟨lw_p73, List.forall_mem_cons.mpr ⟨lw_p74, List.forall_mem_cons.mpr ⟨lw_p75, List.forall_mem_cons.mpr ⟨lw_p76, List.forall_mem_cons.mpr ⟨lw_p77, List.forall_mem_cons.mpr ⟨lw_p78, List.forall_mem_cons.mpr ⟨lw_p79, fun _ h => absurd h List.not_mem_nil⟩⟩⟩⟩⟩⟩⟩⟩⟩⟩⟩⟩⟩⟩⟩⟩
theorem lw_p80 : lw_okq (⟨"AddedLettersModel", "isNewToAll", "(II)Z"⟩, 27) := ⟨⟨by decide +kernel, by decide +kernel⟩, List.mem_of_getElem? (i := 647) (by decide +kernel), List.mem_of_getElem? (i := 950) (by decide +kernel), List.mem_of_getElem? (i := 951) (by decide +kernel)⟩
theorem lw_p81 : lw_okq (⟨"AddedLettersModel", "isDone", "(I)Z"⟩, 27) := ⟨⟨by decide +kernel, by decide +kernel⟩, List.mem_of_getElem? (i := 647) (by decide +kernel), List.mem_of_getElem? (i := 958) (by decide +kernel), List.mem_of_getElem? (i := 959) (by decide +kernel)⟩
theorem lw_p82 : lw_okq (⟨"AddedLettersModel", "moves", "(II)V"⟩, 27) := ⟨⟨by decide +kernel, by decide +kernel⟩, List.mem_of_getElem? (i := 647) (by decide +kernel), List.mem_of_getElem? (i := 962) (by decide +kernel), List.mem_of_getElem? (i := 963) (by decide +kernel)⟩
theorem lw_p83 : lw_okq (⟨"AddedLettersModel", "writes", "(I)V"⟩, 27) := ⟨⟨by decide +kernel, by decide +kernel⟩, List.mem_of_getElem? (i := 647) (by decide +kernel), List.mem_of_getElem? (i := 974) (by decide +kernel), List.mem_of_getElem? (i := 975) (by decide +kernel)⟩
theorem lw_p84 : lw_okq (⟨"AddedLettersModel", "writesNumber", "(I)V"⟩, 27) := ⟨⟨by decide +kernel, by decide +kernel⟩, List.mem_of_getElem? (i := 647) (by decide +kernel), List.mem_of_getElem? (i := 978) (by decide +kernel), List.mem_of_getElem? (i := 979) (by decide +kernel)⟩
theorem lw_p85 : lw_okq (⟨"AddedLettersModel", "signAt", "(I)I"⟩, 27) := ⟨⟨by decide +kernel, by decide +kernel⟩, List.mem_of_getElem? (i := 647) (by decide +kernel), List.mem_of_getElem? (i := 982) (by decide +kernel), List.mem_of_getElem? (i := 983) (by decide +kernel)⟩
def lw_privs_6 : List (MethodName × Nat) := [(⟨"AddedLettersModel", "isNewToAll", "(II)Z"⟩, 27), (⟨"AddedLettersModel", "isDone", "(I)Z"⟩, 27), (⟨"AddedLettersModel", "moves", "(II)V"⟩, 27), (⟨"AddedLettersModel", "writes", "(I)V"⟩, 27), (⟨"AddedLettersModel", "writesNumber", "(I)V"⟩, 27), (⟨"AddedLettersModel", "signAt", "(I)I"⟩, 27)]
theorem lw_r6 : ∀ q ∈ lw_privs_6, lw_okq q := List.forall_mem_cons.mpr ⟨lw_p80, List.forall_mem_cons.mpr ⟨lw_p81, List.forall_mem_cons.mpr ⟨lw_p82, List.forall_mem_cons.mpr ⟨lw_p83, List.forall_mem_cons.mpr ⟨lw_p84, List.forall_mem_cons.mpr ⟨lw_p85, fun _ h => absurd h List.not_mem_nil⟩⟩⟩⟩⟩⟩
def lw_privs : List (MethodName × Nat) := lw_privs_1 ++ (lw_privs_2 ++ (lw_privs_3 ++ (lw_privs_4 ++ (lw_privs_5 ++ (lw_privs_6)))))
def lw_tbl : List Cond := k2_sels lw_privs ++ tables_1
theorem lw_privs_ok : ∀ q ∈ lw_privs, lw_okq q := by
  show ∀ q ∈ lw_privs_1 ++ (lw_privs_2 ++ (lw_privs_3 ++ (lw_privs_4 ++ (lw_privs_5 ++ (lw_privs_6))))), lw_okq q
  exact List.forall_mem_append.mpr ⟨lw_r1, List.forall_mem_append.mpr ⟨lw_r2, List.forall_mem_append.mpr ⟨lw_r3, List.forall_mem_append.mpr ⟨lw_r4, List.forall_mem_append.mpr ⟨lw_r5, lw_r6⟩⟩⟩⟩⟩
end
section


/-! ===== BEGIN printed: names, fields, word lists, decode rows ===== -/
def RX0 : String := "AddedLetters$Field"
def TX0 : u_T := fun k => match k with
  | 0 => ("AddedLetters$Field", "p", "I", false)
  | _ => ("AddedLetters$Field", "seed", "I", false)
def tyX0 : Nat → FieldType := fun k => match k with
  | 0 => .int
  | _ => .int
abbrev wsX00 : List Cond := u_ws RX0 TX0 2
theorem nmX0 : ∀ a, a < 2 → ∀ b, b < 2 → a ≠ b → (TX0 a).2.1 ≠ (TX0 b).2.1 := by decide +kernel
theorem tyX0_ok : ∀ k, k < 2 → parseFieldDescriptor (TX0 k).2.2.1 = some (tyX0 k) := by decide +kernel
abbrev cX0_init : ByteArray := prog_2_method_1_code
def yX0_init : MethodName := ⟨RX0, "<init>", "()V"⟩
abbrev cX0_left : ByteArray := prog_2_method_2_code
def yX0_left : MethodName := ⟨RX0, "left", "(I)I"⟩
abbrev cX0_cut : ByteArray := prog_2_method_3_code
def yX0_cut : MethodName := ⟨RX0, "cut", "(I)I"⟩
abbrev cX0_inverse : ByteArray := prog_2_method_4_code
def yX0_inverse : MethodName := ⟨RX0, "inverse", "(I)I"⟩
abbrev cX0_nextDrawn : ByteArray := prog_2_method_5_code
def yX0_nextDrawn : MethodName := ⟨RX0, "nextDrawn", "()I"⟩
def RX1 : String := "AddedLetters$Generation"
def TX1 : u_T := fun k => match k with
  | 0 => ("AddedLetters$Generation", "nodes", "[LAddedLetters$Node;", true)
  | 1 => ("AddedLetters$Generation", "number", "I", false)
  | _ => ("AddedLetters$Generation", "n", "I", false)
def tyX1 : Nat → FieldType := fun k => match k with
  | 0 => .array (.object "AddedLetters$Node")
  | 1 => .int
  | _ => .int
abbrev wsX10 : List Cond := u_ws RX1 TX1 3
theorem nmX1 : ∀ a, a < 3 → ∀ b, b < 3 → a ≠ b → (TX1 a).2.1 ≠ (TX1 b).2.1 := by decide +kernel
theorem tyX1_ok : ∀ k, k < 3 → parseFieldDescriptor (TX1 k).2.2.1 = some (tyX1 k) := by decide +kernel
abbrev cX1_init : ByteArray := prog_3_method_1_code
def yX1_init : MethodName := ⟨RX1, "<init>", "()V"⟩
abbrev cX1_renew : ByteArray := prog_3_method_2_code
def yX1_renew : MethodName := ⟨RX1, "renew", "(II)V"⟩
abbrev cX1_isDone : ByteArray := prog_3_method_3_code
def yX1_isDone : MethodName := ⟨RX1, "isDone", "()Z"⟩
def RX2 : String := "AddedLetters$Mixing"
def TX2 : u_T := fun k => match k with
  | 0 => ("AddedLetters$Mixing", "slots", "[LAddedLetters$Generation;", true)
  | 1 => ("AddedLetters$Mixing", "field", "LAddedLetters$Field;", true)
  | 2 => ("AddedLetters$Mixing", "mixed", "[I", true)
  | 3 => ("AddedLetters$Mixing", "raisable", "[Z", true)
  | 4 => ("AddedLetters$Mixing", "open", "I", false)
  | _ => ("AddedLetters$Mixing", "begun", "I", false)
def tyX2 : Nat → FieldType := fun k => match k with
  | 0 => .array (.object "AddedLetters$Generation")
  | 1 => .object "AddedLetters$Field"
  | 2 => .array .int
  | 3 => .array .boolean
  | 4 => .int
  | _ => .int
abbrev wsX20 : List Cond := u_ws RX2 TX2 6
theorem nmX2 : ∀ a, a < 6 → ∀ b, b < 6 → a ≠ b → (TX2 a).2.1 ≠ (TX2 b).2.1 := by decide +kernel
theorem tyX2_ok : ∀ k, k < 6 → parseFieldDescriptor (TX2 k).2.2.1 = some (tyX2 k) := by decide +kernel
abbrev cX2_init : ByteArray := prog_4_method_1_code
def yX2_init : MethodName := ⟨RX2, "<init>", "(LAddedLetters$Field;)V"⟩
abbrev cX2_forget : ByteArray := prog_4_method_2_code
def yX2_forget : MethodName := ⟨RX2, "forget", "()V"⟩
abbrev cX2_find : ByteArray := prog_4_method_3_code
def yX2_find : MethodName := ⟨RX2, "find", "(I)LAddedLetters$Generation;"⟩
abbrev cX2_nodeOf : ByteArray := prog_4_method_4_code
def yX2_nodeOf : MethodName := ⟨RX2, "nodeOf", "(II)LAddedLetters$Node;"⟩
abbrev cX2_begin : ByteArray := prog_4_method_5_code
def yX2_begin : MethodName := ⟨RX2, "begin", "(II)I"⟩
abbrev cX2_writeLetter : ByteArray := prog_4_method_6_code
def yX2_writeLetter : MethodName := ⟨RX2, "writeLetter", "(II)V"⟩
abbrev cX2_carry : ByteArray := prog_4_method_7_code
def yX2_carry : MethodName := ⟨RX2, "carry", "(LAddedLetters$Node;LAddedLetters$Node;I)Z"⟩
abbrev cX2_leastNew : ByteArray := prog_4_method_8_code
def yX2_leastNew : MethodName := ⟨RX2, "leastNew", "(LAddedLetters$Node;LAddedLetters$Node;)I"⟩
abbrev cX2_leastNewForAll : ByteArray := prog_4_method_9_code
def yX2_leastNewForAll : MethodName := ⟨RX2, "leastNewForAll", "(LAddedLetters$Generation;I)I"⟩
abbrev cX2_countMixes : ByteArray := prog_4_method_10_code
def yX2_countMixes : MethodName := ⟨RX2, "countMixes", "(I)I"⟩
abbrev cX2_raisesAll : ByteArray := prog_4_method_11_code
def yX2_raisesAll : MethodName := ⟨RX2, "raisesAll", "(LAddedLetters$Generation;)Z"⟩
abbrev cX2_takeOutDone : ByteArray := prog_4_method_12_code
def yX2_takeOutDone : MethodName := ⟨RX2, "takeOutDone", "()I"⟩
def RX3 : String := "AddedLetters$Node"
def TX3 : u_T := fun k => match k with
  | 0 => ("AddedLetters$Node", "cells", "[[I", true)
  | _ => ("AddedLetters$Node", "led", "[Z", true)
def tyX3 : Nat → FieldType := fun k => match k with
  | 0 => .array (.array .int)
  | _ => .array .boolean
abbrev wsX30 : List Cond := u_ws RX3 TX3 2
theorem nmX3 : ∀ a, a < 2 → ∀ b, b < 2 → a ≠ b → (TX3 a).2.1 ≠ (TX3 b).2.1 := by decide +kernel
theorem tyX3_ok : ∀ k, k < 2 → parseFieldDescriptor (TX3 k).2.2.1 = some (tyX3 k) := by decide +kernel
abbrev cX3_init : ByteArray := prog_5_method_1_code
def yX3_init : MethodName := ⟨RX3, "<init>", "()V"⟩
abbrev cX3_clear : ByteArray := prog_5_method_2_code
def yX3_clear : MethodName := ⟨RX3, "clear", "()V"⟩
abbrev cX3_height : ByteArray := prog_5_method_3_code
def yX3_height : MethodName := ⟨RX3, "height", "()I"⟩
abbrev cX3_placeOf : ByteArray := prog_5_method_4_code
def yX3_placeOf : MethodName := ⟨RX3, "placeOf", "(I)I"⟩
abbrev cX3_cell : ByteArray := prog_5_method_5_code
def yX3_cell : MethodName := ⟨RX3, "cell", "(II)I"⟩
abbrev cX3_knows : ByteArray := prog_5_method_6_code
def yX3_knows : MethodName := ⟨RX3, "knows", "(I)Z"⟩
abbrev cX3_mixInto : ByteArray := prog_5_method_7_code
def yX3_mixInto : MethodName := ⟨RX3, "mixInto", "([ILAddedLetters$Field;I)V"⟩
abbrev cX3_leftover : ByteArray := prog_5_method_8_code
def yX3_leftover : MethodName := ⟨RX3, "leftover", "([ILAddedLetters$Field;I)I"⟩
abbrev cX3_newLead : ByteArray := prog_5_method_9_code
def yX3_newLead : MethodName := ⟨RX3, "newLead", "([ILAddedLetters$Field;)I"⟩
abbrev cX3_take : ByteArray := prog_5_method_10_code
def yX3_take : MethodName := ⟨RX3, "take", "([ILAddedLetters$Field;)Z"⟩
abbrev cX3_addTimes : ByteArray := prog_5_method_11_code
def yX3_addTimes : MethodName := ⟨RX3, "addTimes", "([ILAddedLetters$Field;I[I)V"⟩
def RX4 : String := "AddedLetters$Paper"
def TX4 : u_T := fun k => match k with
  | 0 => ("AddedLetters$Paper", "codes", "[I", true)
  | _ => ("AddedLetters$Paper", "size", "I", false)
def tyX4 : Nat → FieldType := fun k => match k with
  | 0 => .array .int
  | _ => .int
abbrev wsX40 : List Cond := u_ws RX4 TX4 2
theorem nmX4 : ∀ a, a < 2 → ∀ b, b < 2 → a ≠ b → (TX4 a).2.1 ≠ (TX4 b).2.1 := by decide +kernel
theorem tyX4_ok : ∀ k, k < 2 → parseFieldDescriptor (TX4 k).2.2.1 = some (tyX4 k) := by decide +kernel
abbrev cX4_init : ByteArray := prog_6_method_1_code
def yX4_init : MethodName := ⟨RX4, "<init>", "()V"⟩
abbrev cX4_put : ByteArray := prog_6_method_2_code
def yX4_put : MethodName := ⟨RX4, "put", "(I)V"⟩
abbrev cX4_putFigure : ByteArray := prog_6_method_3_code
def yX4_putFigure : MethodName := ⟨RX4, "putFigure", "(I)V"⟩
abbrev cX4_putBody : ByteArray := prog_6_method_4_code
def yX4_putBody : MethodName := ⟨RX4, "putBody", "(I)V"⟩
abbrev cX4_writeSum : ByteArray := prog_6_method_5_code
def yX4_writeSum : MethodName := ⟨RX4, "writeSum", "(II)V"⟩
abbrev cX4_writeRows : ByteArray := prog_6_method_6_code
def yX4_writeRows : MethodName := ⟨RX4, "writeRows", "(LAddedLetters$Node;I)V"⟩
abbrev cX4_writeRow : ByteArray := prog_6_method_7_code
def yX4_writeRow : MethodName := ⟨RX4, "writeRow", "(LAddedLetters$Node;II)V"⟩
abbrev cX4_answer : ByteArray := prog_6_method_8_code
def yX4_answer : MethodName := ⟨RX4, "answer", "(I)I"⟩
def RX5 : String := "AddedLetters$Queue"
def TX5 : u_T := fun k => match k with
  | 0 => ("AddedLetters$Queue", "letters", "[I", true)
  | 1 => ("AddedLetters$Queue", "stations", "[I", true)
  | _ => ("AddedLetters$Queue", "size", "I", false)
def tyX5 : Nat → FieldType := fun k => match k with
  | 0 => .array .int
  | 1 => .array .int
  | _ => .int
abbrev wsX50 : List Cond := u_ws RX5 TX5 3
theorem nmX5 : ∀ a, a < 3 → ∀ b, b < 3 → a ≠ b → (TX5 a).2.1 ≠ (TX5 b).2.1 := by decide +kernel
theorem tyX5_ok : ∀ k, k < 3 → parseFieldDescriptor (TX5 k).2.2.1 = some (tyX5 k) := by decide +kernel
abbrev cX5_init : ByteArray := prog_7_method_1_code
def yX5_init : MethodName := ⟨RX5, "<init>", "()V"⟩
abbrev cX5_indexOf : ByteArray := prog_7_method_2_code
def yX5_indexOf : MethodName := ⟨RX5, "indexOf", "(II)I"⟩
abbrev cX5_add : ByteArray := prog_7_method_3_code
def yX5_add : MethodName := ⟨RX5, "add", "(II)Z"⟩
abbrev cX5_removePair : ByteArray := prog_7_method_4_code
def yX5_removePair : MethodName := ⟨RX5, "removePair", "(II)Z"⟩
abbrev cX5_removeLetter : ByteArray := prog_7_method_5_code
def yX5_removeLetter : MethodName := ⟨RX5, "removeLetter", "(I)I"⟩
def RX6 : String := "AddedLetters$Relay"
def TX6 : u_T := fun k => match k with
  | 0 => ("AddedLetters$Relay", "bodies", "[I", true)
  | 1 => ("AddedLetters$Relay", "held", "[I", true)
  | 2 => ("AddedLetters$Relay", "queue", "LAddedLetters$Queue;", true)
  | 3 => ("AddedLetters$Relay", "there", "I", false)
  | 4 => ("AddedLetters$Relay", "onAir", "I", false)
  | 5 => ("AddedLetters$Relay", "limit", "I", false)
  | 6 => ("AddedLetters$Relay", "sent", "I", false)
  | _ => ("AddedLetters$Relay", "served", "I", false)
def tyX6 : Nat → FieldType := fun k => match k with
  | 0 => .array .int
  | 1 => .array .int
  | 2 => .object "AddedLetters$Queue"
  | 3 => .int
  | 4 => .int
  | 5 => .int
  | 6 => .int
  | _ => .int
abbrev wsX60 : List Cond := u_ws RX6 TX6 8
theorem nmX6 : ∀ a, a < 8 → ∀ b, b < 8 → a ≠ b → (TX6 a).2.1 ≠ (TX6 b).2.1 := by decide +kernel
theorem tyX6_ok : ∀ k, k < 8 → parseFieldDescriptor (TX6 k).2.2.1 = some (tyX6 k) := by decide +kernel
abbrev cX6_init : ByteArray := prog_8_method_1_code
def yX6_init : MethodName := ⟨RX6, "<init>", "()V"⟩
abbrev cX6_isThere : ByteArray := prog_8_method_2_code
def yX6_isThere : MethodName := ⟨RX6, "isThere", "(I)Z"⟩
abbrev cX6_putLetter : ByteArray := prog_8_method_3_code
def yX6_putLetter : MethodName := ⟨RX6, "putLetter", "(II)Z"⟩
abbrev cX6_takeLetter : ByteArray := prog_8_method_4_code
def yX6_takeLetter : MethodName := ⟨RX6, "takeLetter", "(I)I"⟩
abbrev cX6_holds : ByteArray := prog_8_method_5_code
def yX6_holds : MethodName := ⟨RX6, "holds", "(II)Z"⟩
abbrev cX6_give : ByteArray := prog_8_method_6_code
def yX6_give : MethodName := ⟨RX6, "give", "(II)Z"⟩
abbrev cX6_takeFrom : ByteArray := prog_8_method_7_code
def yX6_takeFrom : MethodName := ⟨RX6, "takeFrom", "(II)V"⟩
abbrev cX6_clear : ByteArray := prog_8_method_8_code
def yX6_clear : MethodName := ⟨RX6, "clear", "()V"⟩
abbrev cX6_isSum : ByteArray := prog_8_method_9_code
def yX6_isSum : MethodName := ⟨RX6, "isSum", "(I)Z"⟩
abbrev cX6_isOnAir : ByteArray := prog_8_method_10_code
def yX6_isOnAir : MethodName := ⟨RX6, "isOnAir", "(I)Z"⟩
abbrev cX6_bodyOf : ByteArray := prog_8_method_11_code
def yX6_bodyOf : MethodName := ⟨RX6, "bodyOf", "(I)I"⟩
abbrev cX6_readBy : ByteArray := prog_8_method_12_code
def yX6_readBy : MethodName := ⟨RX6, "readBy", "(II)I"⟩
abbrev cX6_openers : ByteArray := prog_8_method_13_code
def yX6_openers : MethodName := ⟨RX6, "openers", "(I)I"⟩
abbrev cX6_countServed : ByteArray := prog_8_method_14_code
def yX6_countServed : MethodName := ⟨RX6, "countServed", "(I)I"⟩
abbrev cX6_firstOnAir : ByteArray := prog_8_method_15_code
def yX6_firstOnAir : MethodName := ⟨RX6, "firstOnAir", "()I"⟩
abbrev cX6_findBest : ByteArray := prog_8_method_16_code
def yX6_findBest : MethodName := ⟨RX6, "findBest", "()I"⟩
abbrev cX6_deliver : ByteArray := prog_8_method_17_code
def yX6_deliver : MethodName := ⟨RX6, "deliver", "(I)I"⟩
def RX7 : String := "AddedLetters$Tape"
def TX7 : u_T := fun k => match k with
  | 0 => ("AddedLetters$Tape", "codes", "[I", true)
  | _ => ("AddedLetters$Tape", "size", "I", false)
def tyX7 : Nat → FieldType := fun k => match k with
  | 0 => .array .int
  | _ => .int
abbrev wsX70 : List Cond := u_ws RX7 TX7 2
theorem nmX7 : ∀ a, a < 2 → ∀ b, b < 2 → a ≠ b → (TX7 a).2.1 ≠ (TX7 b).2.1 := by decide +kernel
theorem tyX7_ok : ∀ k, k < 2 → parseFieldDescriptor (TX7 k).2.2.1 = some (tyX7 k) := by decide +kernel
abbrev cX7_init : ByteArray := prog_9_method_1_code
def yX7_init : MethodName := ⟨RX7, "<init>", "()V"⟩
abbrev cX7_add : ByteArray := prog_9_method_2_code
def yX7_add : MethodName := ⟨RX7, "add", "(I)Z"⟩
abbrev cX7_spells : ByteArray := prog_9_method_3_code
def yX7_spells : MethodName := ⟨RX7, "spells", "(Ljava/lang/String;)Z"⟩
abbrev cX7_toldNumber : ByteArray := prog_9_method_4_code
def yX7_toldNumber : MethodName := ⟨RX7, "toldNumber", "()I"⟩
def RX8 : String := "AddedLetters"
def TX8 : u_T := fun k => match k with
  | 0 => ("AddedLetters", "relay", "LAddedLetters$Relay;", true)
  | 1 => ("AddedLetters", "tape", "LAddedLetters$Tape;", true)
  | 2 => ("AddedLetters", "field", "LAddedLetters$Field;", true)
  | 3 => ("AddedLetters", "mixing", "LAddedLetters$Mixing;", true)
  | _ => ("AddedLetters", "paper", "LAddedLetters$Paper;", true)
def tyX8 : Nat → FieldType := fun k => match k with
  | 0 => .object "AddedLetters$Relay"
  | 1 => .object "AddedLetters$Tape"
  | 2 => .object "AddedLetters$Field"
  | 3 => .object "AddedLetters$Mixing"
  | _ => .object "AddedLetters$Paper"
abbrev wsX80 : List Cond := u_ws RX8 TX8 5
theorem nmX8 : ∀ a, a < 5 → ∀ b, b < 5 → a ≠ b → (TX8 a).2.1 ≠ (TX8 b).2.1 := by decide +kernel
theorem tyX8_ok : ∀ k, k < 5 → parseFieldDescriptor (TX8 k).2.2.1 = some (tyX8 k) := by decide +kernel
abbrev cX8_init : ByteArray := prog_1_method_1_code
def yX8_init : MethodName := ⟨RX8, "<init>", "()V"⟩
abbrev cX8_letter : ByteArray := prog_1_method_2_code
def yX8_letter : MethodName := ⟨RX8, "letter", "(II)I"⟩
abbrev cX8_drop : ByteArray := prog_1_method_3_code
def yX8_drop : MethodName := ⟨RX8, "drop", "(I)I"⟩
abbrev cX8_has : ByteArray := prog_1_method_4_code
def yX8_has : MethodName := ⟨RX8, "has", "(III)I"⟩
abbrev cX8_want : ByteArray := prog_1_method_5_code
def yX8_want : MethodName := ⟨RX8, "want", "(II)I"⟩
abbrev cX8_air : ByteArray := prog_1_method_6_code
def yX8_air : MethodName := ⟨RX8, "air", "(I)I"⟩
abbrev cX8_most : ByteArray := prog_1_method_7_code
def yX8_most : MethodName := ⟨RX8, "most", "(I)I"⟩
abbrev cX8_anew : ByteArray := prog_1_method_8_code
def yX8_anew : MethodName := ⟨RX8, "anew", "()I"⟩
abbrev cX8_entry : ByteArray := prog_1_method_9_code
def yX8_entry : MethodName := ⟨RX8, "entry", "(II)I"⟩
abbrev cX8_having : ByteArray := prog_1_method_10_code
def yX8_having : MethodName := ⟨RX8, "having", "(I)I"⟩
abbrev cX8_reads : ByteArray := prog_1_method_11_code
def yX8_reads : MethodName := ⟨RX8, "reads", "(II)I"⟩
abbrev cX8_sum : ByteArray := prog_1_method_12_code
def yX8_sum : MethodName := ⟨RX8, "sum", "(II)I"⟩
abbrev cX8_best : ByteArray := prog_1_method_13_code
def yX8_best : MethodName := ⟨RX8, "best", "()I"⟩
abbrev cX8_send : ByteArray := prog_1_method_14_code
def yX8_send : MethodName := ⟨RX8, "send", "(I)I"⟩
abbrev cX8_serve : ByteArray := prog_1_method_15_code
def yX8_serve : MethodName := ⟨RX8, "serve", "(I)I"⟩
abbrev cX8_key : ByteArray := prog_1_method_16_code
def yX8_key : MethodName := ⟨RX8, "key", "(I)I"⟩
abbrev cX8_wipe : ByteArray := prog_1_method_17_code
def yX8_wipe : MethodName := ⟨RX8, "wipe", "()I"⟩
abbrev cX8_word : ByteArray := prog_1_method_18_code
def yX8_word : MethodName := ⟨RX8, "word", "()I"⟩
abbrev cX8_open : ByteArray := prog_1_method_19_code
def yX8_open : MethodName := ⟨RX8, "open", "(II)I"⟩
abbrev cX8_rank : ByteArray := prog_1_method_20_code
def yX8_rank : MethodName := ⟨RX8, "rank", "(II)I"⟩
abbrev cX8_row : ByteArray := prog_1_method_21_code
def yX8_row : MethodName := ⟨RX8, "row", "(IIII)I"⟩
abbrev cX8_read : ByteArray := prog_1_method_22_code
def yX8_read : MethodName := ⟨RX8, "read", "(IIII)I"⟩
abbrev cX8_mix : ByteArray := prog_1_method_23_code
def yX8_mix : MethodName := ⟨RX8, "mix", "(IIII)I"⟩
abbrev cX8_draw : ByteArray := prog_1_method_24_code
def yX8_draw : MethodName := ⟨RX8, "draw", "(III)I"⟩
abbrev cX8_fresh : ByteArray := prog_1_method_25_code
def yX8_fresh : MethodName := ⟨RX8, "fresh", "(III)I"⟩
abbrev cX8_forAll : ByteArray := prog_1_method_26_code
def yX8_forAll : MethodName := ⟨RX8, "forAll", "(II)I"⟩
abbrev cX8_sweep : ByteArray := prog_1_method_27_code
def yX8_sweep : MethodName := ⟨RX8, "sweep", "()I"⟩
abbrev cX8_opened : ByteArray := prog_1_method_28_code
def yX8_opened : MethodName := ⟨RX8, "opened", "(I)I"⟩
abbrev cX8_text : ByteArray := prog_1_method_29_code
def yX8_text : MethodName := ⟨RX8, "text", "(II)I"⟩
abbrev cX8_rows : ByteArray := prog_1_method_30_code
def yX8_rows : MethodName := ⟨RX8, "rows", "(III)I"⟩
abbrev cX8_many : ByteArray := prog_1_method_31_code
def yX8_many : MethodName := ⟨RX8, "many", "(I)I"⟩
abbrev cX8_isStation : ByteArray := prog_1_method_32_code
def yX8_isStation : MethodName := ⟨RX8, "isStation", "(I)Z"⟩
def RX9 : String := "AddedLettersModel"
def TX9 : u_T := fun k => match k with
  | 0 => ("AddedLettersModel", "there", "I", false)
  | 1 => ("AddedLettersModel", "bodyOf", "[I", true)
  | 2 => ("AddedLettersModel", "has", "[I", true)
  | 3 => ("AddedLettersModel", "entries", "I", false)
  | 4 => ("AddedLettersModel", "entryLetter", "[I", true)
  | 5 => ("AddedLettersModel", "entryStation", "[I", true)
  | 6 => ("AddedLettersModel", "air", "I", false)
  | 7 => ("AddedLettersModel", "most", "I", false)
  | 8 => ("AddedLettersModel", "sent", "I", false)
  | 9 => ("AddedLettersModel", "served", "I", false)
  | 10 => ("AddedLettersModel", "tape", "[I", true)
  | 11 => ("AddedLettersModel", "taped", "I", false)
  | 12 => ("AddedLettersModel", "prime", "I", false)
  | 13 => ("AddedLettersModel", "everOpened", "I", false)
  | 14 => ("AddedLettersModel", "open", "I", false)
  | 15 => ("AddedLettersModel", "numberAt", "[I", true)
  | 16 => ("AddedLettersModel", "sizeAt", "[I", true)
  | 17 => ("AddedLettersModel", "rankAt", "[I", true)
  | 18 => ("AddedLettersModel", "cells", "[I", true)
  | 19 => ("AddedLettersModel", "seed", "I", false)
  | 20 => ("AddedLettersModel", "wordPrime", "[I", true)
  | 21 => ("AddedLettersModel", "wordLong", "[I", true)
  | 22 => ("AddedLettersModel", "wordCodes", "[I", true)
  | 23 => ("AddedLettersModel", "mixed", "[I", true)
  | 24 => ("AddedLettersModel", "rest", "[I", true)
  | 25 => ("AddedLettersModel", "text", "[I", true)
  | _ => ("AddedLettersModel", "written", "I", false)
def tyX9 : Nat → FieldType := fun k => match k with
  | 0 => .int
  | 1 => .array .int
  | 2 => .array .int
  | 3 => .int
  | 4 => .array .int
  | 5 => .array .int
  | 6 => .int
  | 7 => .int
  | 8 => .int
  | 9 => .int
  | 10 => .array .int
  | 11 => .int
  | 12 => .int
  | 13 => .int
  | 14 => .int
  | 15 => .array .int
  | 16 => .array .int
  | 17 => .array .int
  | 18 => .array .int
  | 19 => .int
  | 20 => .array .int
  | 21 => .array .int
  | 22 => .array .int
  | 23 => .array .int
  | 24 => .array .int
  | 25 => .array .int
  | _ => .int
abbrev wsX90 : List Cond := u_ws RX9 TX9 27
theorem nmX9 : ∀ a, a < 27 → ∀ b, b < 27 → a ≠ b → (TX9 a).2.1 ≠ (TX9 b).2.1 := by decide +kernel
theorem tyX9_ok : ∀ k, k < 27 → parseFieldDescriptor (TX9 k).2.2.1 = some (tyX9 k) := by decide +kernel
abbrev cX9_init : ByteArray := prog_11_method_1_code
def yX9_init : MethodName := ⟨RX9, "<init>", "()V"⟩
abbrev cX9_within : ByteArray := prog_11_method_2_code
def yX9_within : MethodName := ⟨RX9, "within", "(III)Z"⟩
abbrev cX9_isIn : ByteArray := prog_11_method_3_code
def yX9_isIn : MethodName := ⟨RX9, "isIn", "(II)Z"⟩
abbrev cX9_size : ByteArray := prog_11_method_4_code
def yX9_size : MethodName := ⟨RX9, "size", "(I)I"⟩
abbrev cX9_isStation : ByteArray := prog_11_method_5_code
def yX9_isStation : MethodName := ⟨RX9, "isStation", "(I)Z"⟩
abbrev cX9_isLetter : ByteArray := prog_11_method_6_code
def yX9_isLetter : MethodName := ⟨RX9, "isLetter", "(I)Z"⟩
abbrev cX9_letter : ByteArray := prog_11_method_7_code
def yX9_letter : MethodName := ⟨RX9, "letter", "(II)I"⟩
abbrev cX9_goes : ByteArray := prog_11_method_8_code
def yX9_goes : MethodName := ⟨RX9, "goes", "(II)I"⟩
abbrev cX9_drop : ByteArray := prog_11_method_9_code
def yX9_drop : MethodName := ⟨RX9, "drop", "(I)I"⟩
abbrev cX9_has : ByteArray := prog_11_method_10_code
def yX9_has : MethodName := ⟨RX9, "has", "(III)I"⟩
abbrev cX9_isWanted : ByteArray := prog_11_method_11_code
def yX9_isWanted : MethodName := ⟨RX9, "isWanted", "(II)Z"⟩
abbrev cX9_want : ByteArray := prog_11_method_12_code
def yX9_want : MethodName := ⟨RX9, "want", "(II)I"⟩
abbrev cX9_air : ByteArray := prog_11_method_13_code
def yX9_air : MethodName := ⟨RX9, "air", "(I)I"⟩
abbrev cX9_most : ByteArray := prog_11_method_14_code
def yX9_most : MethodName := ⟨RX9, "most", "(I)I"⟩
abbrev cX9_anew : ByteArray := prog_11_method_15_code
def yX9_anew : MethodName := ⟨RX9, "anew", "()I"⟩
abbrev cX9_entry : ByteArray := prog_11_method_16_code
def yX9_entry : MethodName := ⟨RX9, "entry", "(II)I"⟩
abbrev cX9_having : ByteArray := prog_11_method_17_code
def yX9_having : MethodName := ⟨RX9, "having", "(I)I"⟩
abbrev cX9_isSum : ByteArray := prog_11_method_18_code
def yX9_isSum : MethodName := ⟨RX9, "isSum", "(I)Z"⟩
abbrev cX9_readBy : ByteArray := prog_11_method_19_code
def yX9_readBy : MethodName := ⟨RX9, "readBy", "(II)I"⟩
abbrev cX9_reads : ByteArray := prog_11_method_20_code
def yX9_reads : MethodName := ⟨RX9, "reads", "(II)I"⟩
abbrev cX9_bodyBy : ByteArray := prog_11_method_21_code
def yX9_bodyBy : MethodName := ⟨RX9, "bodyBy", "(I)I"⟩
abbrev cX9_serves : ByteArray := prog_11_method_22_code
def yX9_serves : MethodName := ⟨RX9, "serves", "(II)Z"⟩
abbrev cX9_manyServed : ByteArray := prog_11_method_23_code
def yX9_manyServed : MethodName := ⟨RX9, "manyServed", "(I)I"⟩
abbrev cX9_openers : ByteArray := prog_11_method_24_code
def yX9_openers : MethodName := ⟨RX9, "openers", "(I)I"⟩
abbrev cX9_sum : ByteArray := prog_11_method_25_code
def yX9_sum : MethodName := ⟨RX9, "sum", "(II)I"⟩
abbrev cX9_isBetter : ByteArray := prog_11_method_26_code
def yX9_isBetter : MethodName := ⟨RX9, "isBetter", "(II)Z"⟩
abbrev cX9_bestSum : ByteArray := prog_11_method_27_code
def yX9_bestSum : MethodName := ⟨RX9, "bestSum", "()I"⟩
abbrev cX9_best : ByteArray := prog_11_method_28_code
def yX9_best : MethodName := ⟨RX9, "best", "()I"⟩
abbrev cX9_sends : ByteArray := prog_11_method_29_code
def yX9_sends : MethodName := ⟨RX9, "sends", "(I)I"⟩
abbrev cX9_send : ByteArray := prog_11_method_30_code
def yX9_send : MethodName := ⟨RX9, "send", "(I)I"⟩
abbrev cX9_serve : ByteArray := prog_11_method_31_code
def yX9_serve : MethodName := ⟨RX9, "serve", "(I)I"⟩
abbrev cX9_key : ByteArray := prog_11_method_32_code
def yX9_key : MethodName := ⟨RX9, "key", "(I)I"⟩
abbrev cX9_wipe : ByteArray := prog_11_method_33_code
def yX9_wipe : MethodName := ⟨RX9, "wipe", "()I"⟩
abbrev cX9_primeOnTape : ByteArray := prog_11_method_34_code
def yX9_primeOnTape : MethodName := ⟨RX9, "primeOnTape", "()I"⟩
abbrev cX9_word : ByteArray := prog_11_method_35_code
def yX9_word : MethodName := ⟨RX9, "word", "()I"⟩
abbrev cX9_placeOf : ByteArray := prog_11_method_36_code
def yX9_placeOf : MethodName := ⟨RX9, "placeOf", "(I)I"⟩
abbrev cX9_isNode : ByteArray := prog_11_method_37_code
def yX9_isNode : MethodName := ⟨RX9, "isNode", "(I)Z"⟩
abbrev cX9_at : ByteArray := prog_11_method_38_code
def yX9_at : MethodName := ⟨RX9, "at", "(III)I"⟩
abbrev cX9_rankOf : ByteArray := prog_11_method_39_code
def yX9_rankOf : MethodName := ⟨RX9, "rankOf", "(II)I"⟩
abbrev cX9_open : ByteArray := prog_11_method_40_code
def yX9_open : MethodName := ⟨RX9, "open", "(II)I"⟩
abbrev cX9_rank : ByteArray := prog_11_method_41_code
def yX9_rank : MethodName := ⟨RX9, "rank", "(II)I"⟩
abbrev cX9_row : ByteArray := prog_11_method_42_code
def yX9_row : MethodName := ⟨RX9, "row", "(IIII)I"⟩
abbrev cX9_leadOf : ByteArray := prog_11_method_43_code
def yX9_leadOf : MethodName := ⟨RX9, "leadOf", "([III)I"⟩
abbrev cX9_isPlain : ByteArray := prog_11_method_44_code
def yX9_isPlain : MethodName := ⟨RX9, "isPlain", "(III)Z"⟩
abbrev cX9_read : ByteArray := prog_11_method_45_code
def yX9_read : MethodName := ⟨RX9, "read", "(IIII)I"⟩
abbrev cX9_mixes : ByteArray := prog_11_method_46_code
def yX9_mixes : MethodName := ⟨RX9, "mixes", "(III)V"⟩
abbrev cX9_isNewTo : ByteArray := prog_11_method_47_code
def yX9_isNewTo : MethodName := ⟨RX9, "isNewTo", "(II)Z"⟩
abbrev cX9_inverse : ByteArray := prog_11_method_48_code
def yX9_inverse : MethodName := ⟨RX9, "inverse", "(I)I"⟩
abbrev cX9_comes : ByteArray := prog_11_method_49_code
def yX9_comes : MethodName := ⟨RX9, "comes", "(II)Z"⟩
abbrev cX9_againstNodes : ByteArray := prog_11_method_50_code
def yX9_againstNodes : MethodName := ⟨RX9, "againstNodes", "(III)I"⟩
abbrev cX9_mix : ByteArray := prog_11_method_51_code
def yX9_mix : MethodName := ⟨RX9, "mix", "(IIII)I"⟩
abbrev cX9_draw : ByteArray := prog_11_method_52_code
def yX9_draw : MethodName := ⟨RX9, "draw", "(III)I"⟩
abbrev cX9_mixesOf : ByteArray := prog_11_method_53_code
def yX9_mixesOf : MethodName := ⟨RX9, "mixesOf", "(II)I"⟩
abbrev cX9_freshOf : ByteArray := prog_11_method_54_code
def yX9_freshOf : MethodName := ⟨RX9, "freshOf", "(III)I"⟩
abbrev cX9_fresh : ByteArray := prog_11_method_55_code
def yX9_fresh : MethodName := ⟨RX9, "fresh", "(III)I"⟩
abbrev cX9_isNewToAll : ByteArray := prog_11_method_56_code
def yX9_isNewToAll : MethodName := ⟨RX9, "isNewToAll", "(II)Z"⟩
abbrev cX9_forAll : ByteArray := prog_11_method_57_code
def yX9_forAll : MethodName := ⟨RX9, "forAll", "(II)I"⟩
abbrev cX9_isDone : ByteArray := prog_11_method_58_code
def yX9_isDone : MethodName := ⟨RX9, "isDone", "(I)Z"⟩
abbrev cX9_moves : ByteArray := prog_11_method_59_code
def yX9_moves : MethodName := ⟨RX9, "moves", "(II)V"⟩
abbrev cX9_sweep : ByteArray := prog_11_method_60_code
def yX9_sweep : MethodName := ⟨RX9, "sweep", "()I"⟩
abbrev cX9_opened : ByteArray := prog_11_method_61_code
def yX9_opened : MethodName := ⟨RX9, "opened", "(I)I"⟩
abbrev cX9_writes : ByteArray := prog_11_method_62_code
def yX9_writes : MethodName := ⟨RX9, "writes", "(I)V"⟩
abbrev cX9_signAt : ByteArray := prog_11_method_63_code
def yX9_signAt : MethodName := ⟨RX9, "signAt", "(I)I"⟩
abbrev cX9_writesNumber : ByteArray := prog_11_method_64_code
def yX9_writesNumber : MethodName := ⟨RX9, "writesNumber", "(I)V"⟩
abbrev cX9_text : ByteArray := prog_11_method_65_code
def yX9_text : MethodName := ⟨RX9, "text", "(II)I"⟩
abbrev cX9_rows : ByteArray := prog_11_method_66_code
def yX9_rows : MethodName := ⟨RX9, "rows", "(III)I"⟩
abbrev cX9_many : ByteArray := prog_11_method_67_code
def yX9_many : MethodName := ⟨RX9, "many", "(I)I"⟩
def RJ6 : String := "java/lang/Integer"
def TJ6 : u_T := fun k => match k with
  | _ => ("", "", "", false)
def tyJ6 : Nat → FieldType := fun k => match k with
  | _ => .int
abbrev wsJ60 : List Cond := u_ws RJ6 TJ6 0
theorem nmJ6 : ∀ a, a < 0 → ∀ b, b < 0 → a ≠ b → (TJ6 a).2.1 ≠ (TJ6 b).2.1 := by decide +kernel
theorem tyJ6_ok : ∀ k, k < 0 → parseFieldDescriptor (TJ6 k).2.2.1 = some (tyJ6 k) := by decide +kernel
abbrev cJ6_bitCount_0f7a4 : ByteArray := prog_12_method_49_code
def yJ6_bitCount_0f7a4 : MethodName := ⟨RJ6, "bitCount", "(I)I"⟩
def RJ9 : String := "java/lang/Math"
def TJ9 : u_T := fun k => match k with
  | _ => ("", "", "", false)
def tyJ9 : Nat → FieldType := fun k => match k with
  | _ => .int
abbrev wsJ90 : List Cond := u_ws RJ9 TJ9 0
theorem nmJ9 : ∀ a, a < 0 → ∀ b, b < 0 → a ≠ b → (TJ9 a).2.1 ≠ (TJ9 b).2.1 := by decide +kernel
theorem tyJ9_ok : ∀ k, k < 0 → parseFieldDescriptor (TJ9 k).2.2.1 = some (tyJ9 k) := by decide +kernel
abbrev cJ9_floorMod_7cf53 : ByteArray := prog_13_method_50_code
def yJ9_floorMod_7cf53 : MethodName := ⟨RJ9, "floorMod", "(II)I"⟩
abbrev cJ9_max_7cf53 : ByteArray := prog_13_method_65_code
def yJ9_max_7cf53 : MethodName := ⟨RJ9, "max", "(II)I"⟩
def RJ0 : String := "java/lang/String"
def TJ0 : u_T := fun k => match k with
  | _ => ("", "", "", false)
def tyJ0 : Nat → FieldType := fun k => match k with
  | _ => .int
abbrev wsJ00 : List Cond := u_ws RJ0 TJ0 0
theorem nmJ0 : ∀ a, a < 0 → ∀ b, b < 0 → a ≠ b → (TJ0 a).2.1 ≠ (TJ0 b).2.1 := by decide +kernel
theorem tyJ0_ok : ∀ k, k < 0 → parseFieldDescriptor (TJ0 k).2.2.1 = some (tyJ0 k) := by decide +kernel
abbrev cJ0_length_8abf5 : ByteArray := prog_14_method_54_code
def yJ0_length_8abf5 : MethodName := ⟨RJ0, "length", "()I"⟩
abbrev cJ0_charAt_5068e : ByteArray := prog_14_method_56_code
def yJ0_charAt_5068e : MethodName := ⟨RJ0, "charAt", "(I)C"⟩
abbrev cJ0_coder_7d493 : ByteArray := prog_14_method_152_code
def yJ0_coder_7d493 : MethodName := ⟨RJ0, "coder", "()B"⟩
abbrev cJ0_isLatin1_aae02 : ByteArray := prog_14_method_154_code
def yJ0_isLatin1_aae02 : MethodName := ⟨RJ0, "isLatin1", "()Z"⟩
abbrev cJ0_checkIndex_df160 : ByteArray := prog_14_method_155_code
def yJ0_checkIndex_df160 : MethodName := ⟨RJ0, "checkIndex", "(II)V"⟩
def RJ1 : String := "java/lang/StringLatin1"
def TJ1 : u_T := fun k => match k with
  | _ => ("", "", "", false)
def tyJ1 : Nat → FieldType := fun k => match k with
  | _ => .int
abbrev wsJ10 : List Cond := u_ws RJ1 TJ1 0
theorem nmJ1 : ∀ a, a < 0 → ∀ b, b < 0 → a ≠ b → (TJ1 a).2.1 ≠ (TJ1 b).2.1 := by decide +kernel
theorem tyJ1_ok : ∀ k, k < 0 → parseFieldDescriptor (TJ1 k).2.2.1 = some (tyJ1 k) := by decide +kernel
abbrev cJ1_charAt_3b067 : ByteArray := prog_15_method_2_code
def yJ1_charAt_3b067 : MethodName := ⟨RJ1, "charAt", "([BI)C"⟩
def RJ2 : String := "java/lang/StringUTF16"
def TJ2 : u_T := fun k => match k with
  | _ => ("", "", "", false)
def tyJ2 : Nat → FieldType := fun k => match k with
  | _ => .int
abbrev wsJ20 : List Cond := u_ws RJ2 TJ2 0
theorem nmJ2 : ∀ a, a < 0 → ∀ b, b < 0 → a ≠ b → (TJ2 a).2.1 ≠ (TJ2 b).2.1 := by decide +kernel
theorem tyJ2_ok : ∀ k, k < 0 → parseFieldDescriptor (TJ2 k).2.2.1 = some (tyJ2 k) := by decide +kernel
abbrev cJ2_getChar_3b067 : ByteArray := prog_16_method_5_code
def yJ2_getChar_3b067 : MethodName := ⟨RJ2, "getChar", "([BI)C"⟩
abbrev cJ2_length_9d52b : ByteArray := prog_16_method_6_code
def yJ2_length_9d52b : MethodName := ⟨RJ2, "length", "([B)I"⟩
abbrev cJ2_charAt_3b067 : ByteArray := prog_16_method_83_code
def yJ2_charAt_3b067 : MethodName := ⟨RJ2, "charAt", "([BI)C"⟩
abbrev cJ2_checkIndex_2214a : ByteArray := prog_16_method_91_code
def yJ2_checkIndex_2214a : MethodName := ⟨RJ2, "checkIndex", "(I[B)V"⟩
def RJ3 : String := "jdk/internal/util/Preconditions"
def TJ3 : u_T := fun k => match k with
  | _ => ("", "", "", false)
def tyJ3 : Nat → FieldType := fun k => match k with
  | _ => .int
abbrev wsJ30 : List Cond := u_ws RJ3 TJ3 0
theorem nmJ3 : ∀ a, a < 0 → ∀ b, b < 0 → a ≠ b → (TJ3 a).2.1 ≠ (TJ3 b).2.1 := by decide +kernel
theorem tyJ3_ok : ∀ k, k < 0 → parseFieldDescriptor (TJ3 k).2.2.1 = some (tyJ3 k) := by decide +kernel
abbrev cJ3_checkIndex_8e157 : ByteArray := prog_17_method_11_code
def yJ3_checkIndex_8e157 : MethodName := ⟨RJ3, "checkIndex", "(IILjava/util/function/BiFunction;)I"⟩
def RL : String := "AddedLettersLaw"
abbrev cL_law : ByteArray := code
def yL_law : MethodName := ⟨RL, "law", "([I)Z"⟩
set_option maxRecDepth 20000 in
abbrev vwCl : List vw_C := [(RX0, TX0, 2), (RX1, TX1, 3), (RX2, TX2, 6), (RX3, TX3, 2), (RX4, TX4, 2), (RX5, TX5, 3), (RX6, TX6, 8), (RX7, TX7, 2), (RX8, TX8, 5), (RX9, TX9, 27)]
end
section
theorem dX0_init_0 : decode cX0_init 0 = .ok (.aload_n 0, 1) := by decide +kernel
theorem dX0_init_1 : decode cX0_init 1 = .ok (.invokespecial 3, 3) := by decide +kernel
theorem dX0_init_4 : decode cX0_init 4 = .ok (.aload_n 0, 1) := by decide +kernel
theorem dX0_init_5 : decode cX0_init 5 = .ok (.iconst 2, 1) := by decide +kernel
theorem dX0_init_6 : decode cX0_init 6 = .ok (.putfield 9, 3) := by decide +kernel
theorem dX0_init_9 : decode cX0_init 9 = .ok (.aload_n 0, 1) := by decide +kernel
theorem dX0_init_10 : decode cX0_init 10 = .ok (.iconst 1, 1) := by decide +kernel
theorem dX0_init_11 : decode cX0_init 11 = .ok (.putfield 15, 3) := by decide +kernel
theorem dX0_init_14 : decode cX0_init 14 = .ok (.return_, 1) := by decide +kernel
theorem dX0_left_0 : decode cX0_left 0 = .ok (.aload_n 0, 1) := by decide +kernel
theorem dX0_left_1 : decode cX0_left 1 = .ok (.getfield 9, 3) := by decide +kernel
theorem dX0_left_4 : decode cX0_left 4 = .ok (.iconst 2, 1) := by decide +kernel
theorem dX0_left_5 : decode cX0_left 5 = .ok (.if_icmp .ge 7, 3) := by decide +kernel
theorem dX0_left_8 : decode cX0_left 8 = .ok (.iconst 0, 1) := by decide +kernel
theorem dX0_left_9 : decode cX0_left 9 = .ok (.goto 11, 3) := by decide +kernel
theorem dX0_left_12 : decode cX0_left 12 = .ok (.iload_n 1, 1) := by decide +kernel
theorem dX0_left_13 : decode cX0_left 13 = .ok (.aload_n 0, 1) := by decide +kernel
theorem dX0_left_14 : decode cX0_left 14 = .ok (.getfield 9, 3) := by decide +kernel
theorem dX0_left_17 : decode cX0_left 17 = .ok (.invokestatic 18, 3) := by decide +kernel
theorem dX0_left_20 : decode cX0_left 20 = .ok (.ireturn, 1) := by decide +kernel
theorem dX0_cut_0 : decode cX0_cut 0 = .ok (.aload_n 0, 1) := by decide +kernel
theorem dX0_cut_1 : decode cX0_cut 1 = .ok (.getfield 9, 3) := by decide +kernel
theorem dX0_cut_4 : decode cX0_cut 4 = .ok (.iconst 2, 1) := by decide +kernel
theorem dX0_cut_5 : decode cX0_cut 5 = .ok (.if_icmp .ge 7, 3) := by decide +kernel
theorem dX0_cut_8 : decode cX0_cut 8 = .ok (.iconst 0, 1) := by decide +kernel
theorem dX0_cut_9 : decode cX0_cut 9 = .ok (.goto 9, 3) := by decide +kernel
theorem dX0_cut_12 : decode cX0_cut 12 = .ok (.iload_n 1, 1) := by decide +kernel
theorem dX0_cut_13 : decode cX0_cut 13 = .ok (.aload_n 0, 1) := by decide +kernel
theorem dX0_cut_14 : decode cX0_cut 14 = .ok (.getfield 9, 3) := by decide +kernel
theorem dX0_cut_17 : decode cX0_cut 17 = .ok (.idiv, 1) := by decide +kernel
theorem dX0_cut_18 : decode cX0_cut 18 = .ok (.ireturn, 1) := by decide +kernel
theorem dX0_inverse_0 : decode cX0_inverse 0 = .ok (.iconst 1, 1) := by decide +kernel
theorem dX0_inverse_1 : decode cX0_inverse 1 = .ok (.istore_n 2, 1) := by decide +kernel
theorem dX0_inverse_2 : decode cX0_inverse 2 = .ok (.iload_n 2, 1) := by decide +kernel
theorem dX0_inverse_3 : decode cX0_inverse 3 = .ok (.aload_n 0, 1) := by decide +kernel
theorem dX0_inverse_4 : decode cX0_inverse 4 = .ok (.getfield 9, 3) := by decide +kernel
theorem dX0_inverse_7 : decode cX0_inverse 7 = .ok (.if_icmp .ge 22, 3) := by decide +kernel
theorem dX0_inverse_10 : decode cX0_inverse 10 = .ok (.aload_n 0, 1) := by decide +kernel
theorem dX0_inverse_11 : decode cX0_inverse 11 = .ok (.iload_n 2, 1) := by decide +kernel
theorem dX0_inverse_12 : decode cX0_inverse 12 = .ok (.iload_n 1, 1) := by decide +kernel
theorem dX0_inverse_13 : decode cX0_inverse 13 = .ok (.imul, 1) := by decide +kernel
theorem dX0_inverse_14 : decode cX0_inverse 14 = .ok (.invokevirtual 24, 3) := by decide +kernel
theorem dX0_inverse_17 : decode cX0_inverse 17 = .ok (.iconst 1, 1) := by decide +kernel
theorem dX0_inverse_18 : decode cX0_inverse 18 = .ok (.if_icmp .ne 5, 3) := by decide +kernel
theorem dX0_inverse_21 : decode cX0_inverse 21 = .ok (.iload_n 2, 1) := by decide +kernel
theorem dX0_inverse_22 : decode cX0_inverse 22 = .ok (.ireturn, 1) := by decide +kernel
theorem dX0_inverse_23 : decode cX0_inverse 23 = .ok (.iinc 2 1, 3) := by decide +kernel
theorem dX0_inverse_26 : decode cX0_inverse 26 = .ok (.goto (-24), 3) := by decide +kernel
theorem dX0_inverse_29 : decode cX0_inverse 29 = .ok (.iconst 0, 1) := by decide +kernel
theorem dX0_inverse_30 : decode cX0_inverse 30 = .ok (.ireturn, 1) := by decide +kernel
theorem dX0_nextDrawn_0 : decode cX0_nextDrawn 0 = .ok (.aload_n 0, 1) := by decide +kernel
theorem dX0_nextDrawn_1 : decode cX0_nextDrawn 1 = .ok (.ldc 28, 2) := by decide +kernel
theorem dX0_nextDrawn_3 : decode cX0_nextDrawn 3 = .ok (.aload_n 0, 1) := by decide +kernel
theorem dX0_nextDrawn_4 : decode cX0_nextDrawn 4 = .ok (.getfield 15, 3) := by decide +kernel
theorem dX0_nextDrawn_7 : decode cX0_nextDrawn 7 = .ok (.imul, 1) := by decide +kernel
theorem dX0_nextDrawn_8 : decode cX0_nextDrawn 8 = .ok (.sipush 12345, 3) := by decide +kernel
theorem dX0_nextDrawn_11 : decode cX0_nextDrawn 11 = .ok (.iadd, 1) := by decide +kernel
theorem dX0_nextDrawn_12 : decode cX0_nextDrawn 12 = .ok (.putfield 15, 3) := by decide +kernel
theorem dX0_nextDrawn_15 : decode cX0_nextDrawn 15 = .ok (.aload_n 0, 1) := by decide +kernel
theorem dX0_nextDrawn_16 : decode cX0_nextDrawn 16 = .ok (.getfield 15, 3) := by decide +kernel
theorem dX0_nextDrawn_19 : decode cX0_nextDrawn 19 = .ok (.bipush 16, 2) := by decide +kernel
theorem dX0_nextDrawn_21 : decode cX0_nextDrawn 21 = .ok (.iushr, 1) := by decide +kernel
theorem dX0_nextDrawn_22 : decode cX0_nextDrawn 22 = .ok (.sipush 16807, 3) := by decide +kernel
theorem dX0_nextDrawn_25 : decode cX0_nextDrawn 25 = .ok (.irem, 1) := by decide +kernel
theorem dX0_nextDrawn_26 : decode cX0_nextDrawn 26 = .ok (.ireturn, 1) := by decide +kernel
theorem dX1_init_0 : decode cX1_init 0 = .ok (.aload_n 0, 1) := by decide +kernel
theorem dX1_init_1 : decode cX1_init 1 = .ok (.invokespecial 3, 3) := by decide +kernel
theorem dX1_init_4 : decode cX1_init 4 = .ok (.aload_n 0, 1) := by decide +kernel
theorem dX1_init_5 : decode cX1_init 5 = .ok (.iconst 4, 1) := by decide +kernel
theorem dX1_init_6 : decode cX1_init 6 = .ok (.anewarray 9, 3) := by decide +kernel
theorem dX1_init_9 : decode cX1_init 9 = .ok (.putfield 11, 3) := by decide +kernel
theorem dX1_init_12 : decode cX1_init 12 = .ok (.iconst 0, 1) := by decide +kernel
theorem dX1_init_13 : decode cX1_init 13 = .ok (.istore_n 1, 1) := by decide +kernel
theorem dX1_init_14 : decode cX1_init 14 = .ok (.iload_n 1, 1) := by decide +kernel
theorem dX1_init_15 : decode cX1_init 15 = .ok (.iconst 4, 1) := by decide +kernel
theorem dX1_init_16 : decode cX1_init 16 = .ok (.if_icmp .ge 22, 3) := by decide +kernel
theorem dX1_init_19 : decode cX1_init 19 = .ok (.aload_n 0, 1) := by decide +kernel
theorem dX1_init_20 : decode cX1_init 20 = .ok (.getfield 11, 3) := by decide +kernel
theorem dX1_init_23 : decode cX1_init 23 = .ok (.iload_n 1, 1) := by decide +kernel
theorem dX1_init_24 : decode cX1_init 24 = .ok (.new 9, 3) := by decide +kernel
theorem dX1_init_27 : decode cX1_init 27 = .ok (.dup, 1) := by decide +kernel
theorem dX1_init_28 : decode cX1_init 28 = .ok (.invokespecial 17, 3) := by decide +kernel
theorem dX1_init_31 : decode cX1_init 31 = .ok (.aastore, 1) := by decide +kernel
theorem dX1_init_32 : decode cX1_init 32 = .ok (.iinc 1 1, 3) := by decide +kernel
theorem dX1_init_35 : decode cX1_init 35 = .ok (.goto (-21), 3) := by decide +kernel
theorem dX1_init_38 : decode cX1_init 38 = .ok (.return_, 1) := by decide +kernel
theorem dX1_renew_0 : decode cX1_renew 0 = .ok (.aload_n 0, 1) := by decide +kernel
theorem dX1_renew_1 : decode cX1_renew 1 = .ok (.iload_n 1, 1) := by decide +kernel
theorem dX1_renew_2 : decode cX1_renew 2 = .ok (.putfield 18, 3) := by decide +kernel
theorem dX1_renew_5 : decode cX1_renew 5 = .ok (.aload_n 0, 1) := by decide +kernel
theorem dX1_renew_6 : decode cX1_renew 6 = .ok (.iload_n 2, 1) := by decide +kernel
theorem dX1_renew_7 : decode cX1_renew 7 = .ok (.putfield 22, 3) := by decide +kernel
theorem dX1_renew_10 : decode cX1_renew 10 = .ok (.iconst 0, 1) := by decide +kernel
theorem dX1_renew_11 : decode cX1_renew 11 = .ok (.istore_n 3, 1) := by decide +kernel
theorem dX1_renew_12 : decode cX1_renew 12 = .ok (.iload_n 3, 1) := by decide +kernel
theorem dX1_renew_13 : decode cX1_renew 13 = .ok (.iconst 4, 1) := by decide +kernel
theorem dX1_renew_14 : decode cX1_renew 14 = .ok (.if_icmp .ge 18, 3) := by decide +kernel
theorem dX1_renew_17 : decode cX1_renew 17 = .ok (.aload_n 0, 1) := by decide +kernel
theorem dX1_renew_18 : decode cX1_renew 18 = .ok (.getfield 11, 3) := by decide +kernel
theorem dX1_renew_21 : decode cX1_renew 21 = .ok (.iload_n 3, 1) := by decide +kernel
theorem dX1_renew_22 : decode cX1_renew 22 = .ok (.aaload, 1) := by decide +kernel
theorem dX1_renew_23 : decode cX1_renew 23 = .ok (.invokevirtual 25, 3) := by decide +kernel
theorem dX1_renew_26 : decode cX1_renew 26 = .ok (.iinc 3 1, 3) := by decide +kernel
theorem dX1_renew_29 : decode cX1_renew 29 = .ok (.goto (-17), 3) := by decide +kernel
theorem dX1_renew_32 : decode cX1_renew 32 = .ok (.return_, 1) := by decide +kernel
theorem dX1_isDone_0 : decode cX1_isDone 0 = .ok (.iconst 0, 1) := by decide +kernel
theorem dX1_isDone_1 : decode cX1_isDone 1 = .ok (.istore_n 1, 1) := by decide +kernel
theorem dX1_isDone_2 : decode cX1_isDone 2 = .ok (.iload_n 1, 1) := by decide +kernel
theorem dX1_isDone_3 : decode cX1_isDone 3 = .ok (.iconst 4, 1) := by decide +kernel
theorem dX1_isDone_4 : decode cX1_isDone 4 = .ok (.if_icmp .ge 27, 3) := by decide +kernel
theorem dX1_isDone_7 : decode cX1_isDone 7 = .ok (.aload_n 0, 1) := by decide +kernel
theorem dX1_isDone_8 : decode cX1_isDone 8 = .ok (.getfield 11, 3) := by decide +kernel
theorem dX1_isDone_11 : decode cX1_isDone 11 = .ok (.iload_n 1, 1) := by decide +kernel
theorem dX1_isDone_12 : decode cX1_isDone 12 = .ok (.aaload, 1) := by decide +kernel
theorem dX1_isDone_13 : decode cX1_isDone 13 = .ok (.invokevirtual 28, 3) := by decide +kernel
theorem dX1_isDone_16 : decode cX1_isDone 16 = .ok (.aload_n 0, 1) := by decide +kernel
theorem dX1_isDone_17 : decode cX1_isDone 17 = .ok (.getfield 22, 3) := by decide +kernel
theorem dX1_isDone_20 : decode cX1_isDone 20 = .ok (.if_icmp .ge 5, 3) := by decide +kernel
theorem dX1_isDone_23 : decode cX1_isDone 23 = .ok (.iconst 0, 1) := by decide +kernel
theorem dX1_isDone_24 : decode cX1_isDone 24 = .ok (.ireturn, 1) := by decide +kernel
theorem dX1_isDone_25 : decode cX1_isDone 25 = .ok (.iinc 1 1, 3) := by decide +kernel
theorem dX1_isDone_28 : decode cX1_isDone 28 = .ok (.goto (-26), 3) := by decide +kernel
theorem dX1_isDone_31 : decode cX1_isDone 31 = .ok (.iconst 1, 1) := by decide +kernel
theorem dX1_isDone_32 : decode cX1_isDone 32 = .ok (.ireturn, 1) := by decide +kernel
theorem dX2_init_0 : decode cX2_init 0 = .ok (.aload_n 0, 1) := by decide +kernel
theorem dX2_init_1 : decode cX2_init 1 = .ok (.invokespecial 3, 3) := by decide +kernel
theorem dX2_init_4 : decode cX2_init 4 = .ok (.aload_n 0, 1) := by decide +kernel
theorem dX2_init_5 : decode cX2_init 5 = .ok (.iconst 3, 1) := by decide +kernel
theorem dX2_init_6 : decode cX2_init 6 = .ok (.anewarray 9, 3) := by decide +kernel
theorem dX2_init_9 : decode cX2_init 9 = .ok (.putfield 11, 3) := by decide +kernel
theorem dX2_init_12 : decode cX2_init 12 = .ok (.aload_n 0, 1) := by decide +kernel
theorem dX2_init_13 : decode cX2_init 13 = .ok (.bipush 8, 2) := by decide +kernel
theorem dX2_init_15 : decode cX2_init 15 = .ok (.newarray .int, 2) := by decide +kernel
theorem dX2_init_17 : decode cX2_init 17 = .ok (.putfield 17, 3) := by decide +kernel
theorem dX2_init_20 : decode cX2_init 20 = .ok (.aload_n 0, 1) := by decide +kernel
theorem dX2_init_21 : decode cX2_init 21 = .ok (.iconst 4, 1) := by decide +kernel
theorem dX2_init_22 : decode cX2_init 22 = .ok (.newarray .boolean, 2) := by decide +kernel
theorem dX2_init_24 : decode cX2_init 24 = .ok (.putfield 21, 3) := by decide +kernel
theorem dX2_init_27 : decode cX2_init 27 = .ok (.aload_n 0, 1) := by decide +kernel
theorem dX2_init_28 : decode cX2_init 28 = .ok (.aload_n 1, 1) := by decide +kernel
theorem dX2_init_29 : decode cX2_init 29 = .ok (.putfield 25, 3) := by decide +kernel
theorem dX2_init_32 : decode cX2_init 32 = .ok (.iconst 0, 1) := by decide +kernel
theorem dX2_init_33 : decode cX2_init 33 = .ok (.istore_n 2, 1) := by decide +kernel
theorem dX2_init_34 : decode cX2_init 34 = .ok (.iload_n 2, 1) := by decide +kernel
theorem dX2_init_35 : decode cX2_init 35 = .ok (.iconst 3, 1) := by decide +kernel
theorem dX2_init_36 : decode cX2_init 36 = .ok (.if_icmp .ge 22, 3) := by decide +kernel
theorem dX2_init_39 : decode cX2_init 39 = .ok (.aload_n 0, 1) := by decide +kernel
theorem dX2_init_40 : decode cX2_init 40 = .ok (.getfield 11, 3) := by decide +kernel
theorem dX2_init_43 : decode cX2_init 43 = .ok (.iload_n 2, 1) := by decide +kernel
theorem dX2_init_44 : decode cX2_init 44 = .ok (.new 9, 3) := by decide +kernel
theorem dX2_init_47 : decode cX2_init 47 = .ok (.dup, 1) := by decide +kernel
theorem dX2_init_48 : decode cX2_init 48 = .ok (.invokespecial 29, 3) := by decide +kernel
theorem dX2_init_51 : decode cX2_init 51 = .ok (.aastore, 1) := by decide +kernel
theorem dX2_init_52 : decode cX2_init 52 = .ok (.iinc 2 1, 3) := by decide +kernel
theorem dX2_init_55 : decode cX2_init 55 = .ok (.goto (-21), 3) := by decide +kernel
theorem dX2_init_58 : decode cX2_init 58 = .ok (.return_, 1) := by decide +kernel
theorem dX2_forget_0 : decode cX2_forget 0 = .ok (.aload_n 0, 1) := by decide +kernel
theorem dX2_forget_1 : decode cX2_forget 1 = .ok (.iconst 0, 1) := by decide +kernel
theorem dX2_forget_2 : decode cX2_forget 2 = .ok (.putfield 30, 3) := by decide +kernel
theorem dX2_forget_5 : decode cX2_forget 5 = .ok (.aload_n 0, 1) := by decide +kernel
theorem dX2_forget_6 : decode cX2_forget 6 = .ok (.iconst 0, 1) := by decide +kernel
theorem dX2_forget_7 : decode cX2_forget 7 = .ok (.putfield 34, 3) := by decide +kernel
theorem dX2_forget_10 : decode cX2_forget 10 = .ok (.return_, 1) := by decide +kernel
theorem dX2_find_0 : decode cX2_find 0 = .ok (.iconst 0, 1) := by decide +kernel
theorem dX2_find_1 : decode cX2_find 1 = .ok (.istore_n 2, 1) := by decide +kernel
theorem dX2_find_2 : decode cX2_find 2 = .ok (.iload_n 2, 1) := by decide +kernel
theorem dX2_find_3 : decode cX2_find 3 = .ok (.aload_n 0, 1) := by decide +kernel
theorem dX2_find_4 : decode cX2_find 4 = .ok (.getfield 30, 3) := by decide +kernel
theorem dX2_find_7 : decode cX2_find 7 = .ok (.if_icmp .ge 29, 3) := by decide +kernel
theorem dX2_find_10 : decode cX2_find 10 = .ok (.aload_n 0, 1) := by decide +kernel
theorem dX2_find_11 : decode cX2_find 11 = .ok (.getfield 11, 3) := by decide +kernel
theorem dX2_find_14 : decode cX2_find 14 = .ok (.iload_n 2, 1) := by decide +kernel
theorem dX2_find_15 : decode cX2_find 15 = .ok (.aaload, 1) := by decide +kernel
theorem dX2_find_16 : decode cX2_find 16 = .ok (.getfield 37, 3) := by decide +kernel
theorem dX2_find_19 : decode cX2_find 19 = .ok (.iload_n 1, 1) := by decide +kernel
theorem dX2_find_20 : decode cX2_find 20 = .ok (.if_icmp .ne 10, 3) := by decide +kernel
theorem dX2_find_23 : decode cX2_find 23 = .ok (.aload_n 0, 1) := by decide +kernel
theorem dX2_find_24 : decode cX2_find 24 = .ok (.getfield 11, 3) := by decide +kernel
theorem dX2_find_27 : decode cX2_find 27 = .ok (.iload_n 2, 1) := by decide +kernel
theorem dX2_find_28 : decode cX2_find 28 = .ok (.aaload, 1) := by decide +kernel
theorem dX2_find_29 : decode cX2_find 29 = .ok (.areturn, 1) := by decide +kernel
theorem dX2_find_30 : decode cX2_find 30 = .ok (.iinc 2 1, 3) := by decide +kernel
theorem dX2_find_33 : decode cX2_find 33 = .ok (.goto (-31), 3) := by decide +kernel
theorem dX2_find_36 : decode cX2_find 36 = .ok (.aconst_null, 1) := by decide +kernel
theorem dX2_find_37 : decode cX2_find 37 = .ok (.areturn, 1) := by decide +kernel
theorem dX2_nodeOf_0 : decode cX2_nodeOf 0 = .ok (.aload_n 0, 1) := by decide +kernel
theorem dX2_nodeOf_1 : decode cX2_nodeOf 1 = .ok (.iload_n 1, 1) := by decide +kernel
theorem dX2_nodeOf_2 : decode cX2_nodeOf 2 = .ok (.invokevirtual 40, 3) := by decide +kernel
theorem dX2_nodeOf_5 : decode cX2_nodeOf 5 = .ok (.astore_n 3, 1) := by decide +kernel
theorem dX2_nodeOf_6 : decode cX2_nodeOf 6 = .ok (.aload_n 3, 1) := by decide +kernel
theorem dX2_nodeOf_7 : decode cX2_nodeOf 7 = .ok (.ifnull 12, 3) := by decide +kernel
theorem dX2_nodeOf_10 : decode cX2_nodeOf 10 = .ok (.iload_n 2, 1) := by decide +kernel
theorem dX2_nodeOf_11 : decode cX2_nodeOf 11 = .ok (.ifCond .lt 8, 3) := by decide +kernel
theorem dX2_nodeOf_14 : decode cX2_nodeOf 14 = .ok (.iload_n 2, 1) := by decide +kernel
theorem dX2_nodeOf_15 : decode cX2_nodeOf 15 = .ok (.iconst 4, 1) := by decide +kernel
theorem dX2_nodeOf_16 : decode cX2_nodeOf 16 = .ok (.if_icmp .lt 7, 3) := by decide +kernel
theorem dX2_nodeOf_19 : decode cX2_nodeOf 19 = .ok (.aconst_null, 1) := by decide +kernel
theorem dX2_nodeOf_20 : decode cX2_nodeOf 20 = .ok (.goto 9, 3) := by decide +kernel
theorem dX2_nodeOf_23 : decode cX2_nodeOf 23 = .ok (.aload_n 3, 1) := by decide +kernel
theorem dX2_nodeOf_24 : decode cX2_nodeOf 24 = .ok (.getfield 44, 3) := by decide +kernel
theorem dX2_nodeOf_27 : decode cX2_nodeOf 27 = .ok (.iload_n 2, 1) := by decide +kernel
theorem dX2_nodeOf_28 : decode cX2_nodeOf 28 = .ok (.aaload, 1) := by decide +kernel
theorem dX2_nodeOf_29 : decode cX2_nodeOf 29 = .ok (.areturn, 1) := by decide +kernel
theorem dX2_begin_0 : decode cX2_begin 0 = .ok (.aload_n 0, 1) := by decide +kernel
theorem dX2_begin_1 : decode cX2_begin 1 = .ok (.getfield 30, 3) := by decide +kernel
theorem dX2_begin_4 : decode cX2_begin 4 = .ok (.iconst 3, 1) := by decide +kernel
theorem dX2_begin_5 : decode cX2_begin 5 = .ok (.if_icmp .lt 6, 3) := by decide +kernel
theorem dX2_begin_8 : decode cX2_begin 8 = .ok (.bipush (-4), 2) := by decide +kernel
theorem dX2_begin_10 : decode cX2_begin 10 = .ok (.ireturn, 1) := by decide +kernel
theorem dX2_begin_11 : decode cX2_begin 11 = .ok (.aload_n 0, 1) := by decide +kernel
theorem dX2_begin_12 : decode cX2_begin 12 = .ok (.getfield 11, 3) := by decide +kernel
theorem dX2_begin_15 : decode cX2_begin 15 = .ok (.aload_n 0, 1) := by decide +kernel
theorem dX2_begin_16 : decode cX2_begin 16 = .ok (.getfield 30, 3) := by decide +kernel
theorem dX2_begin_19 : decode cX2_begin 19 = .ok (.aaload, 1) := by decide +kernel
theorem dX2_begin_20 : decode cX2_begin 20 = .ok (.astore_n 3, 1) := by decide +kernel
theorem dX2_begin_21 : decode cX2_begin 21 = .ok (.aload_n 3, 1) := by decide +kernel
theorem dX2_begin_22 : decode cX2_begin 22 = .ok (.aload_n 0, 1) := by decide +kernel
theorem dX2_begin_23 : decode cX2_begin 23 = .ok (.getfield 34, 3) := by decide +kernel
theorem dX2_begin_26 : decode cX2_begin 26 = .ok (.iload_n 1, 1) := by decide +kernel
theorem dX2_begin_27 : decode cX2_begin 27 = .ok (.invokevirtual 48, 3) := by decide +kernel
theorem dX2_begin_30 : decode cX2_begin 30 = .ok (.iconst 0, 1) := by decide +kernel
theorem dX2_begin_31 : decode cX2_begin 31 = .ok (.istore 4, 2) := by decide +kernel
theorem dX2_begin_33 : decode cX2_begin 33 = .ok (.iload 4, 2) := by decide +kernel
theorem dX2_begin_35 : decode cX2_begin 35 = .ok (.iload_n 1, 1) := by decide +kernel
theorem dX2_begin_36 : decode cX2_begin 36 = .ok (.if_icmp .ge 34, 3) := by decide +kernel
theorem dX2_begin_39 : decode cX2_begin 39 = .ok (.aload_n 0, 1) := by decide +kernel
theorem dX2_begin_40 : decode cX2_begin 40 = .ok (.iload 4, 2) := by decide +kernel
theorem dX2_begin_42 : decode cX2_begin 42 = .ok (.iload_n 2, 1) := by decide +kernel
theorem dX2_begin_43 : decode cX2_begin 43 = .ok (.invokevirtual 52, 3) := by decide +kernel
theorem dX2_begin_46 : decode cX2_begin 46 = .ok (.aload_n 3, 1) := by decide +kernel
theorem dX2_begin_47 : decode cX2_begin 47 = .ok (.getfield 44, 3) := by decide +kernel
theorem dX2_begin_50 : decode cX2_begin 50 = .ok (.iconst 0, 1) := by decide +kernel
theorem dX2_begin_51 : decode cX2_begin 51 = .ok (.aaload, 1) := by decide +kernel
theorem dX2_begin_52 : decode cX2_begin 52 = .ok (.aload_n 0, 1) := by decide +kernel
theorem dX2_begin_53 : decode cX2_begin 53 = .ok (.getfield 17, 3) := by decide +kernel
theorem dX2_begin_56 : decode cX2_begin 56 = .ok (.aload_n 0, 1) := by decide +kernel
theorem dX2_begin_57 : decode cX2_begin 57 = .ok (.getfield 25, 3) := by decide +kernel
theorem dX2_begin_60 : decode cX2_begin 60 = .ok (.invokevirtual 55, 3) := by decide +kernel
theorem dX2_begin_63 : decode cX2_begin 63 = .ok (.pop, 1) := by decide +kernel
theorem dX2_begin_64 : decode cX2_begin 64 = .ok (.iinc 4 1, 3) := by decide +kernel
theorem dX2_begin_67 : decode cX2_begin 67 = .ok (.goto (-34), 3) := by decide +kernel
theorem dX2_begin_70 : decode cX2_begin 70 = .ok (.aload_n 0, 1) := by decide +kernel
theorem dX2_begin_71 : decode cX2_begin 71 = .ok (.dup, 1) := by decide +kernel
theorem dX2_begin_72 : decode cX2_begin 72 = .ok (.getfield 30, 3) := by decide +kernel
theorem dX2_begin_75 : decode cX2_begin 75 = .ok (.iconst 1, 1) := by decide +kernel
theorem dX2_begin_76 : decode cX2_begin 76 = .ok (.iadd, 1) := by decide +kernel
theorem dX2_begin_77 : decode cX2_begin 77 = .ok (.putfield 30, 3) := by decide +kernel
theorem dX2_begin_80 : decode cX2_begin 80 = .ok (.aload_n 0, 1) := by decide +kernel
theorem dX2_begin_81 : decode cX2_begin 81 = .ok (.dup, 1) := by decide +kernel
theorem dX2_begin_82 : decode cX2_begin 82 = .ok (.getfield 34, 3) := by decide +kernel
theorem dX2_begin_85 : decode cX2_begin 85 = .ok (.iconst 1, 1) := by decide +kernel
theorem dX2_begin_86 : decode cX2_begin 86 = .ok (.iadd, 1) := by decide +kernel
theorem dX2_begin_87 : decode cX2_begin 87 = .ok (.putfield 34, 3) := by decide +kernel
theorem dX2_begin_90 : decode cX2_begin 90 = .ok (.aload_n 3, 1) := by decide +kernel
theorem dX2_begin_91 : decode cX2_begin 91 = .ok (.getfield 37, 3) := by decide +kernel
theorem dX2_begin_94 : decode cX2_begin 94 = .ok (.ireturn, 1) := by decide +kernel
theorem dX2_writeLetter_0 : decode cX2_writeLetter 0 = .ok (.iconst 0, 1) := by decide +kernel
theorem dX2_writeLetter_1 : decode cX2_writeLetter 1 = .ok (.istore_n 3, 1) := by decide +kernel
theorem dX2_writeLetter_2 : decode cX2_writeLetter 2 = .ok (.iload_n 3, 1) := by decide +kernel
theorem dX2_writeLetter_3 : decode cX2_writeLetter 3 = .ok (.iconst 5, 1) := by decide +kernel
theorem dX2_writeLetter_4 : decode cX2_writeLetter 4 = .ok (.if_icmp .ge 25, 3) := by decide +kernel
theorem dX2_writeLetter_7 : decode cX2_writeLetter 7 = .ok (.aload_n 0, 1) := by decide +kernel
theorem dX2_writeLetter_8 : decode cX2_writeLetter 8 = .ok (.getfield 17, 3) := by decide +kernel
theorem dX2_writeLetter_11 : decode cX2_writeLetter 11 = .ok (.iload_n 3, 1) := by decide +kernel
theorem dX2_writeLetter_12 : decode cX2_writeLetter 12 = .ok (.iload_n 3, 1) := by decide +kernel
theorem dX2_writeLetter_13 : decode cX2_writeLetter 13 = .ok (.iload_n 1, 1) := by decide +kernel
theorem dX2_writeLetter_14 : decode cX2_writeLetter 14 = .ok (.if_icmp .ne 7, 3) := by decide +kernel
theorem dX2_writeLetter_17 : decode cX2_writeLetter 17 = .ok (.iconst 1, 1) := by decide +kernel
theorem dX2_writeLetter_18 : decode cX2_writeLetter 18 = .ok (.goto 4, 3) := by decide +kernel
theorem dX2_writeLetter_21 : decode cX2_writeLetter 21 = .ok (.iconst 0, 1) := by decide +kernel
theorem dX2_writeLetter_22 : decode cX2_writeLetter 22 = .ok (.iastore, 1) := by decide +kernel
theorem dX2_writeLetter_23 : decode cX2_writeLetter 23 = .ok (.iinc 3 1, 3) := by decide +kernel
theorem dX2_writeLetter_26 : decode cX2_writeLetter 26 = .ok (.goto (-24), 3) := by decide +kernel
theorem dX2_writeLetter_29 : decode cX2_writeLetter 29 = .ok (.iconst 0, 1) := by decide +kernel
theorem dX2_writeLetter_30 : decode cX2_writeLetter 30 = .ok (.istore_n 3, 1) := by decide +kernel
theorem dX2_writeLetter_31 : decode cX2_writeLetter 31 = .ok (.iload_n 3, 1) := by decide +kernel
theorem dX2_writeLetter_32 : decode cX2_writeLetter 32 = .ok (.iconst 3, 1) := by decide +kernel
theorem dX2_writeLetter_33 : decode cX2_writeLetter 33 = .ok (.if_icmp .ge 35, 3) := by decide +kernel
theorem dX2_writeLetter_36 : decode cX2_writeLetter 36 = .ok (.aload_n 0, 1) := by decide +kernel
theorem dX2_writeLetter_37 : decode cX2_writeLetter 37 = .ok (.getfield 17, 3) := by decide +kernel
theorem dX2_writeLetter_40 : decode cX2_writeLetter 40 = .ok (.iconst 5, 1) := by decide +kernel
theorem dX2_writeLetter_41 : decode cX2_writeLetter 41 = .ok (.iload_n 3, 1) := by decide +kernel
theorem dX2_writeLetter_42 : decode cX2_writeLetter 42 = .ok (.iadd, 1) := by decide +kernel
theorem dX2_writeLetter_43 : decode cX2_writeLetter 43 = .ok (.aload_n 0, 1) := by decide +kernel
theorem dX2_writeLetter_44 : decode cX2_writeLetter 44 = .ok (.getfield 25, 3) := by decide +kernel
theorem dX2_writeLetter_47 : decode cX2_writeLetter 47 = .ok (.iload_n 2, 1) := by decide +kernel
theorem dX2_writeLetter_48 : decode cX2_writeLetter 48 = .ok (.iconst 2, 1) := by decide +kernel
theorem dX2_writeLetter_49 : decode cX2_writeLetter 49 = .ok (.iconst 3, 1) := by decide +kernel
theorem dX2_writeLetter_50 : decode cX2_writeLetter 50 = .ok (.iload_n 1, 1) := by decide +kernel
theorem dX2_writeLetter_51 : decode cX2_writeLetter 51 = .ok (.imul, 1) := by decide +kernel
theorem dX2_writeLetter_52 : decode cX2_writeLetter 52 = .ok (.iload_n 3, 1) := by decide +kernel
theorem dX2_writeLetter_53 : decode cX2_writeLetter 53 = .ok (.iadd, 1) := by decide +kernel
theorem dX2_writeLetter_54 : decode cX2_writeLetter 54 = .ok (.imul, 1) := by decide +kernel
theorem dX2_writeLetter_55 : decode cX2_writeLetter 55 = .ok (.iushr, 1) := by decide +kernel
theorem dX2_writeLetter_56 : decode cX2_writeLetter 56 = .ok (.iconst 3, 1) := by decide +kernel
theorem dX2_writeLetter_57 : decode cX2_writeLetter 57 = .ok (.iand, 1) := by decide +kernel
theorem dX2_writeLetter_58 : decode cX2_writeLetter 58 = .ok (.invokevirtual 61, 3) := by decide +kernel
theorem dX2_writeLetter_61 : decode cX2_writeLetter 61 = .ok (.iastore, 1) := by decide +kernel
theorem dX2_writeLetter_62 : decode cX2_writeLetter 62 = .ok (.iinc 3 1, 3) := by decide +kernel
theorem dX2_writeLetter_65 : decode cX2_writeLetter 65 = .ok (.goto (-34), 3) := by decide +kernel
theorem dX2_writeLetter_68 : decode cX2_writeLetter 68 = .ok (.return_, 1) := by decide +kernel
theorem dX2_carry_0 : decode cX2_carry 0 = .ok (.aload_n 1, 1) := by decide +kernel
theorem dX2_carry_1 : decode cX2_carry 1 = .ok (.aload_n 0, 1) := by decide +kernel
theorem dX2_carry_2 : decode cX2_carry 2 = .ok (.getfield 17, 3) := by decide +kernel
theorem dX2_carry_5 : decode cX2_carry 5 = .ok (.aload_n 0, 1) := by decide +kernel
theorem dX2_carry_6 : decode cX2_carry 6 = .ok (.getfield 25, 3) := by decide +kernel
theorem dX2_carry_9 : decode cX2_carry 9 = .ok (.iload_n 3, 1) := by decide +kernel
theorem dX2_carry_10 : decode cX2_carry 10 = .ok (.invokevirtual 67, 3) := by decide +kernel
theorem dX2_carry_13 : decode cX2_carry 13 = .ok (.aload_n 2, 1) := by decide +kernel
theorem dX2_carry_14 : decode cX2_carry 14 = .ok (.aload_n 0, 1) := by decide +kernel
theorem dX2_carry_15 : decode cX2_carry 15 = .ok (.getfield 17, 3) := by decide +kernel
theorem dX2_carry_18 : decode cX2_carry 18 = .ok (.aload_n 0, 1) := by decide +kernel
theorem dX2_carry_19 : decode cX2_carry 19 = .ok (.getfield 25, 3) := by decide +kernel
theorem dX2_carry_22 : decode cX2_carry 22 = .ok (.invokevirtual 55, 3) := by decide +kernel
theorem dX2_carry_25 : decode cX2_carry 25 = .ok (.ireturn, 1) := by decide +kernel
theorem dX2_leastNew_0 : decode cX2_leastNew 0 = .ok (.iconst 1, 1) := by decide +kernel
theorem dX2_leastNew_1 : decode cX2_leastNew 1 = .ok (.istore_n 3, 1) := by decide +kernel
theorem dX2_leastNew_2 : decode cX2_leastNew 2 = .ok (.iconst 0, 1) := by decide +kernel
theorem dX2_leastNew_3 : decode cX2_leastNew 3 = .ok (.istore 4, 2) := by decide +kernel
theorem dX2_leastNew_5 : decode cX2_leastNew 5 = .ok (.iload 4, 2) := by decide +kernel
theorem dX2_leastNew_7 : decode cX2_leastNew 7 = .ok (.iconst 5, 1) := by decide +kernel
theorem dX2_leastNew_8 : decode cX2_leastNew 8 = .ok (.if_icmp .ge 49, 3) := by decide +kernel
theorem dX2_leastNew_11 : decode cX2_leastNew 11 = .ok (.aload_n 1, 1) := by decide +kernel
theorem dX2_leastNew_12 : decode cX2_leastNew 12 = .ok (.getfield 71, 3) := by decide +kernel
theorem dX2_leastNew_15 : decode cX2_leastNew 15 = .ok (.iload 4, 2) := by decide +kernel
theorem dX2_leastNew_17 : decode cX2_leastNew 17 = .ok (.baload, 1) := by decide +kernel
theorem dX2_leastNew_18 : decode cX2_leastNew 18 = .ok (.ifCond .eq 33, 3) := by decide +kernel
theorem dX2_leastNew_21 : decode cX2_leastNew 21 = .ok (.aload_n 2, 1) := by decide +kernel
theorem dX2_leastNew_22 : decode cX2_leastNew 22 = .ok (.aload_n 1, 1) := by decide +kernel
theorem dX2_leastNew_23 : decode cX2_leastNew 23 = .ok (.getfield 74, 3) := by decide +kernel
theorem dX2_leastNew_26 : decode cX2_leastNew 26 = .ok (.iload 4, 2) := by decide +kernel
theorem dX2_leastNew_28 : decode cX2_leastNew 28 = .ok (.aaload, 1) := by decide +kernel
theorem dX2_leastNew_29 : decode cX2_leastNew 29 = .ok (.aload_n 0, 1) := by decide +kernel
theorem dX2_leastNew_30 : decode cX2_leastNew 30 = .ok (.getfield 25, 3) := by decide +kernel
theorem dX2_leastNew_33 : decode cX2_leastNew 33 = .ok (.invokevirtual 78, 3) := by decide +kernel
theorem dX2_leastNew_36 : decode cX2_leastNew 36 = .ok (.ifCond .lt 5, 3) := by decide +kernel
theorem dX2_leastNew_39 : decode cX2_leastNew 39 = .ok (.iload_n 3, 1) := by decide +kernel
theorem dX2_leastNew_40 : decode cX2_leastNew 40 = .ok (.ireturn, 1) := by decide +kernel
theorem dX2_leastNew_41 : decode cX2_leastNew 41 = .ok (.iload_n 3, 1) := by decide +kernel
theorem dX2_leastNew_42 : decode cX2_leastNew 42 = .ok (.aload_n 0, 1) := by decide +kernel
theorem dX2_leastNew_43 : decode cX2_leastNew 43 = .ok (.getfield 25, 3) := by decide +kernel
theorem dX2_leastNew_46 : decode cX2_leastNew 46 = .ok (.getfield 82, 3) := by decide +kernel
theorem dX2_leastNew_49 : decode cX2_leastNew 49 = .ok (.imul, 1) := by decide +kernel
theorem dX2_leastNew_50 : decode cX2_leastNew 50 = .ok (.istore_n 3, 1) := by decide +kernel
theorem dX2_leastNew_51 : decode cX2_leastNew 51 = .ok (.iinc 4 1, 3) := by decide +kernel
theorem dX2_leastNew_54 : decode cX2_leastNew 54 = .ok (.goto (-49), 3) := by decide +kernel
theorem dX2_leastNew_57 : decode cX2_leastNew 57 = .ok (.bipush (-9), 2) := by decide +kernel
theorem dX2_leastNew_59 : decode cX2_leastNew 59 = .ok (.ireturn, 1) := by decide +kernel
theorem dX2_leastNewForAll_0 : decode cX2_leastNewForAll 0 = .ok (.aload_n 1, 1) := by decide +kernel
theorem dX2_leastNewForAll_1 : decode cX2_leastNewForAll 1 = .ok (.getfield 44, 3) := by decide +kernel
theorem dX2_leastNewForAll_4 : decode cX2_leastNewForAll 4 = .ok (.iload_n 2, 1) := by decide +kernel
theorem dX2_leastNewForAll_5 : decode cX2_leastNewForAll 5 = .ok (.aaload, 1) := by decide +kernel
theorem dX2_leastNewForAll_6 : decode cX2_leastNewForAll 6 = .ok (.astore_n 3, 1) := by decide +kernel
theorem dX2_leastNewForAll_7 : decode cX2_leastNewForAll 7 = .ok (.bipush (-9), 2) := by decide +kernel
theorem dX2_leastNewForAll_9 : decode cX2_leastNewForAll 9 = .ok (.istore 4, 2) := by decide +kernel
theorem dX2_leastNewForAll_11 : decode cX2_leastNewForAll 11 = .ok (.iconst 0, 1) := by decide +kernel
theorem dX2_leastNewForAll_12 : decode cX2_leastNewForAll 12 = .ok (.istore 5, 2) := by decide +kernel
theorem dX2_leastNewForAll_14 : decode cX2_leastNewForAll 14 = .ok (.iload 5, 2) := by decide +kernel
theorem dX2_leastNewForAll_16 : decode cX2_leastNewForAll 16 = .ok (.iconst 4, 1) := by decide +kernel
theorem dX2_leastNewForAll_17 : decode cX2_leastNewForAll 17 = .ok (.if_icmp .ge 62, 3) := by decide +kernel
theorem dX2_leastNewForAll_20 : decode cX2_leastNewForAll 20 = .ok (.iload 5, 2) := by decide +kernel
theorem dX2_leastNewForAll_22 : decode cX2_leastNewForAll 22 = .ok (.iload_n 2, 1) := by decide +kernel
theorem dX2_leastNewForAll_23 : decode cX2_leastNewForAll 23 = .ok (.if_icmp .ne 8, 3) := by decide +kernel
theorem dX2_leastNewForAll_26 : decode cX2_leastNewForAll 26 = .ok (.bipush (-9), 2) := by decide +kernel
theorem dX2_leastNewForAll_28 : decode cX2_leastNewForAll 28 = .ok (.goto 15, 3) := by decide +kernel
theorem dX2_leastNewForAll_31 : decode cX2_leastNewForAll 31 = .ok (.aload_n 0, 1) := by decide +kernel
theorem dX2_leastNewForAll_32 : decode cX2_leastNewForAll 32 = .ok (.aload_n 3, 1) := by decide +kernel
theorem dX2_leastNewForAll_33 : decode cX2_leastNewForAll 33 = .ok (.aload_n 1, 1) := by decide +kernel
theorem dX2_leastNewForAll_34 : decode cX2_leastNewForAll 34 = .ok (.getfield 44, 3) := by decide +kernel
theorem dX2_leastNewForAll_37 : decode cX2_leastNewForAll 37 = .ok (.iload 5, 2) := by decide +kernel
theorem dX2_leastNewForAll_39 : decode cX2_leastNewForAll 39 = .ok (.aaload, 1) := by decide +kernel
theorem dX2_leastNewForAll_40 : decode cX2_leastNewForAll 40 = .ok (.invokevirtual 85, 3) := by decide +kernel
theorem dX2_leastNewForAll_43 : decode cX2_leastNewForAll 43 = .ok (.istore 6, 2) := by decide +kernel
theorem dX2_leastNewForAll_45 : decode cX2_leastNewForAll 45 = .ok (.aload_n 0, 1) := by decide +kernel
theorem dX2_leastNewForAll_46 : decode cX2_leastNewForAll 46 = .ok (.getfield 21, 3) := by decide +kernel
theorem dX2_leastNewForAll_49 : decode cX2_leastNewForAll 49 = .ok (.iload 5, 2) := by decide +kernel
theorem dX2_leastNewForAll_51 : decode cX2_leastNewForAll 51 = .ok (.iload 6, 2) := by decide +kernel
theorem dX2_leastNewForAll_53 : decode cX2_leastNewForAll 53 = .ok (.bipush (-9), 2) := by decide +kernel
theorem dX2_leastNewForAll_55 : decode cX2_leastNewForAll 55 = .ok (.if_icmp .eq 7, 3) := by decide +kernel
theorem dX2_leastNewForAll_58 : decode cX2_leastNewForAll 58 = .ok (.iconst 1, 1) := by decide +kernel
theorem dX2_leastNewForAll_59 : decode cX2_leastNewForAll 59 = .ok (.goto 4, 3) := by decide +kernel
theorem dX2_leastNewForAll_62 : decode cX2_leastNewForAll 62 = .ok (.iconst 0, 1) := by decide +kernel
theorem dX2_leastNewForAll_63 : decode cX2_leastNewForAll 63 = .ok (.bastore, 1) := by decide +kernel
theorem dX2_leastNewForAll_64 : decode cX2_leastNewForAll 64 = .ok (.iload 4, 2) := by decide +kernel
theorem dX2_leastNewForAll_66 : decode cX2_leastNewForAll 66 = .ok (.iload 6, 2) := by decide +kernel
theorem dX2_leastNewForAll_68 : decode cX2_leastNewForAll 68 = .ok (.invokestatic 89, 3) := by decide +kernel
theorem dX2_leastNewForAll_71 : decode cX2_leastNewForAll 71 = .ok (.istore 4, 2) := by decide +kernel
theorem dX2_leastNewForAll_73 : decode cX2_leastNewForAll 73 = .ok (.iinc 5 1, 3) := by decide +kernel
theorem dX2_leastNewForAll_76 : decode cX2_leastNewForAll 76 = .ok (.goto (-62), 3) := by decide +kernel
theorem dX2_leastNewForAll_79 : decode cX2_leastNewForAll 79 = .ok (.iload 4, 2) := by decide +kernel
theorem dX2_leastNewForAll_81 : decode cX2_leastNewForAll 81 = .ok (.bipush (-9), 2) := by decide +kernel
theorem dX2_leastNewForAll_83 : decode cX2_leastNewForAll 83 = .ok (.if_icmp .ne 6, 3) := by decide +kernel
theorem dX2_leastNewForAll_86 : decode cX2_leastNewForAll 86 = .ok (.bipush (-9), 2) := by decide +kernel
theorem dX2_leastNewForAll_88 : decode cX2_leastNewForAll 88 = .ok (.ireturn, 1) := by decide +kernel
theorem dX2_leastNewForAll_89 : decode cX2_leastNewForAll 89 = .ok (.aload_n 0, 1) := by decide +kernel
theorem dX2_leastNewForAll_90 : decode cX2_leastNewForAll 90 = .ok (.aload_n 3, 1) := by decide +kernel
theorem dX2_leastNewForAll_91 : decode cX2_leastNewForAll 91 = .ok (.invokevirtual 95, 3) := by decide +kernel
theorem dX2_leastNewForAll_94 : decode cX2_leastNewForAll 94 = .ok (.invokevirtual 99, 3) := by decide +kernel
theorem dX2_leastNewForAll_97 : decode cX2_leastNewForAll 97 = .ok (.istore 5, 2) := by decide +kernel
theorem dX2_leastNewForAll_99 : decode cX2_leastNewForAll 99 = .ok (.iload 4, 2) := by decide +kernel
end
section
theorem dX2_leastNewForAll_101 : decode cX2_leastNewForAll 101 = .ok (.istore 6, 2) := by decide +kernel
theorem dX2_leastNewForAll_103 : decode cX2_leastNewForAll 103 = .ok (.iload 6, 2) := by decide +kernel
theorem dX2_leastNewForAll_105 : decode cX2_leastNewForAll 105 = .ok (.iload 5, 2) := by decide +kernel
theorem dX2_leastNewForAll_107 : decode cX2_leastNewForAll 107 = .ok (.if_icmp .ge 34, 3) := by decide +kernel
theorem dX2_leastNewForAll_110 : decode cX2_leastNewForAll 110 = .ok (.aload_n 3, 1) := by decide +kernel
theorem dX2_leastNewForAll_111 : decode cX2_leastNewForAll 111 = .ok (.aload_n 0, 1) := by decide +kernel
theorem dX2_leastNewForAll_112 : decode cX2_leastNewForAll 112 = .ok (.getfield 17, 3) := by decide +kernel
theorem dX2_leastNewForAll_115 : decode cX2_leastNewForAll 115 = .ok (.aload_n 0, 1) := by decide +kernel
theorem dX2_leastNewForAll_116 : decode cX2_leastNewForAll 116 = .ok (.getfield 25, 3) := by decide +kernel
theorem dX2_leastNewForAll_119 : decode cX2_leastNewForAll 119 = .ok (.iload 6, 2) := by decide +kernel
theorem dX2_leastNewForAll_121 : decode cX2_leastNewForAll 121 = .ok (.invokevirtual 67, 3) := by decide +kernel
theorem dX2_leastNewForAll_124 : decode cX2_leastNewForAll 124 = .ok (.aload_n 0, 1) := by decide +kernel
theorem dX2_leastNewForAll_125 : decode cX2_leastNewForAll 125 = .ok (.aload_n 1, 1) := by decide +kernel
theorem dX2_leastNewForAll_126 : decode cX2_leastNewForAll 126 = .ok (.invokevirtual 102, 3) := by decide +kernel
theorem dX2_leastNewForAll_129 : decode cX2_leastNewForAll 129 = .ok (.ifCond .eq 6, 3) := by decide +kernel
theorem dX2_leastNewForAll_132 : decode cX2_leastNewForAll 132 = .ok (.iload 6, 2) := by decide +kernel
theorem dX2_leastNewForAll_134 : decode cX2_leastNewForAll 134 = .ok (.ireturn, 1) := by decide +kernel
theorem dX2_leastNewForAll_135 : decode cX2_leastNewForAll 135 = .ok (.iinc 6 1, 3) := by decide +kernel
theorem dX2_leastNewForAll_138 : decode cX2_leastNewForAll 138 = .ok (.goto (-35), 3) := by decide +kernel
theorem dX2_leastNewForAll_141 : decode cX2_leastNewForAll 141 = .ok (.bipush (-9), 2) := by decide +kernel
theorem dX2_leastNewForAll_143 : decode cX2_leastNewForAll 143 = .ok (.ireturn, 1) := by decide +kernel
theorem dX2_countMixes_0 : decode cX2_countMixes 0 = .ok (.iconst 1, 1) := by decide +kernel
theorem dX2_countMixes_1 : decode cX2_countMixes 1 = .ok (.istore_n 2, 1) := by decide +kernel
theorem dX2_countMixes_2 : decode cX2_countMixes 2 = .ok (.iconst 0, 1) := by decide +kernel
theorem dX2_countMixes_3 : decode cX2_countMixes 3 = .ok (.istore_n 3, 1) := by decide +kernel
theorem dX2_countMixes_4 : decode cX2_countMixes 4 = .ok (.iload_n 3, 1) := by decide +kernel
theorem dX2_countMixes_5 : decode cX2_countMixes 5 = .ok (.iload_n 1, 1) := by decide +kernel
theorem dX2_countMixes_6 : decode cX2_countMixes 6 = .ok (.if_icmp .ge 24, 3) := by decide +kernel
theorem dX2_countMixes_9 : decode cX2_countMixes 9 = .ok (.iload_n 3, 1) := by decide +kernel
theorem dX2_countMixes_10 : decode cX2_countMixes 10 = .ok (.iconst 5, 1) := by decide +kernel
theorem dX2_countMixes_11 : decode cX2_countMixes 11 = .ok (.if_icmp .ge 19, 3) := by decide +kernel
theorem dX2_countMixes_14 : decode cX2_countMixes 14 = .ok (.iload_n 2, 1) := by decide +kernel
theorem dX2_countMixes_15 : decode cX2_countMixes 15 = .ok (.aload_n 0, 1) := by decide +kernel
theorem dX2_countMixes_16 : decode cX2_countMixes 16 = .ok (.getfield 25, 3) := by decide +kernel
theorem dX2_countMixes_19 : decode cX2_countMixes 19 = .ok (.getfield 82, 3) := by decide +kernel
theorem dX2_countMixes_22 : decode cX2_countMixes 22 = .ok (.imul, 1) := by decide +kernel
theorem dX2_countMixes_23 : decode cX2_countMixes 23 = .ok (.istore_n 2, 1) := by decide +kernel
theorem dX2_countMixes_24 : decode cX2_countMixes 24 = .ok (.iinc 3 1, 3) := by decide +kernel
theorem dX2_countMixes_27 : decode cX2_countMixes 27 = .ok (.goto (-23), 3) := by decide +kernel
theorem dX2_countMixes_30 : decode cX2_countMixes 30 = .ok (.iload_n 2, 1) := by decide +kernel
theorem dX2_countMixes_31 : decode cX2_countMixes 31 = .ok (.ireturn, 1) := by decide +kernel
theorem dX2_raisesAll_0 : decode cX2_raisesAll 0 = .ok (.iconst 0, 1) := by decide +kernel
theorem dX2_raisesAll_1 : decode cX2_raisesAll 1 = .ok (.istore_n 2, 1) := by decide +kernel
theorem dX2_raisesAll_2 : decode cX2_raisesAll 2 = .ok (.iload_n 2, 1) := by decide +kernel
theorem dX2_raisesAll_3 : decode cX2_raisesAll 3 = .ok (.iconst 4, 1) := by decide +kernel
theorem dX2_raisesAll_4 : decode cX2_raisesAll 4 = .ok (.if_icmp .ge 40, 3) := by decide +kernel
theorem dX2_raisesAll_7 : decode cX2_raisesAll 7 = .ok (.aload_n 0, 1) := by decide +kernel
theorem dX2_raisesAll_8 : decode cX2_raisesAll 8 = .ok (.getfield 21, 3) := by decide +kernel
theorem dX2_raisesAll_11 : decode cX2_raisesAll 11 = .ok (.iload_n 2, 1) := by decide +kernel
theorem dX2_raisesAll_12 : decode cX2_raisesAll 12 = .ok (.baload, 1) := by decide +kernel
theorem dX2_raisesAll_13 : decode cX2_raisesAll 13 = .ok (.ifCond .eq 25, 3) := by decide +kernel
theorem dX2_raisesAll_16 : decode cX2_raisesAll 16 = .ok (.aload_n 1, 1) := by decide +kernel
theorem dX2_raisesAll_17 : decode cX2_raisesAll 17 = .ok (.getfield 44, 3) := by decide +kernel
theorem dX2_raisesAll_20 : decode cX2_raisesAll 20 = .ok (.iload_n 2, 1) := by decide +kernel
theorem dX2_raisesAll_21 : decode cX2_raisesAll 21 = .ok (.aaload, 1) := by decide +kernel
theorem dX2_raisesAll_22 : decode cX2_raisesAll 22 = .ok (.aload_n 0, 1) := by decide +kernel
theorem dX2_raisesAll_23 : decode cX2_raisesAll 23 = .ok (.getfield 17, 3) := by decide +kernel
theorem dX2_raisesAll_26 : decode cX2_raisesAll 26 = .ok (.aload_n 0, 1) := by decide +kernel
theorem dX2_raisesAll_27 : decode cX2_raisesAll 27 = .ok (.getfield 25, 3) := by decide +kernel
theorem dX2_raisesAll_30 : decode cX2_raisesAll 30 = .ok (.invokevirtual 78, 3) := by decide +kernel
theorem dX2_raisesAll_33 : decode cX2_raisesAll 33 = .ok (.ifCond .ge 5, 3) := by decide +kernel
theorem dX2_raisesAll_36 : decode cX2_raisesAll 36 = .ok (.iconst 0, 1) := by decide +kernel
theorem dX2_raisesAll_37 : decode cX2_raisesAll 37 = .ok (.ireturn, 1) := by decide +kernel
theorem dX2_raisesAll_38 : decode cX2_raisesAll 38 = .ok (.iinc 2 1, 3) := by decide +kernel
theorem dX2_raisesAll_41 : decode cX2_raisesAll 41 = .ok (.goto (-39), 3) := by decide +kernel
theorem dX2_raisesAll_44 : decode cX2_raisesAll 44 = .ok (.iconst 1, 1) := by decide +kernel
theorem dX2_raisesAll_45 : decode cX2_raisesAll 45 = .ok (.ireturn, 1) := by decide +kernel
theorem dX2_takeOutDone_0 : decode cX2_takeOutDone 0 = .ok (.iconst 0, 1) := by decide +kernel
theorem dX2_takeOutDone_1 : decode cX2_takeOutDone 1 = .ok (.istore_n 1, 1) := by decide +kernel
theorem dX2_takeOutDone_2 : decode cX2_takeOutDone 2 = .ok (.iconst 0, 1) := by decide +kernel
theorem dX2_takeOutDone_3 : decode cX2_takeOutDone 3 = .ok (.istore_n 2, 1) := by decide +kernel
theorem dX2_takeOutDone_4 : decode cX2_takeOutDone 4 = .ok (.iload_n 2, 1) := by decide +kernel
theorem dX2_takeOutDone_5 : decode cX2_takeOutDone 5 = .ok (.aload_n 0, 1) := by decide +kernel
theorem dX2_takeOutDone_6 : decode cX2_takeOutDone 6 = .ok (.getfield 30, 3) := by decide +kernel
theorem dX2_takeOutDone_9 : decode cX2_takeOutDone 9 = .ok (.if_icmp .ge 50, 3) := by decide +kernel
theorem dX2_takeOutDone_12 : decode cX2_takeOutDone 12 = .ok (.aload_n 0, 1) := by decide +kernel
theorem dX2_takeOutDone_13 : decode cX2_takeOutDone 13 = .ok (.getfield 11, 3) := by decide +kernel
theorem dX2_takeOutDone_16 : decode cX2_takeOutDone 16 = .ok (.iload_n 2, 1) := by decide +kernel
theorem dX2_takeOutDone_17 : decode cX2_takeOutDone 17 = .ok (.aaload, 1) := by decide +kernel
theorem dX2_takeOutDone_18 : decode cX2_takeOutDone 18 = .ok (.invokevirtual 106, 3) := by decide +kernel
theorem dX2_takeOutDone_21 : decode cX2_takeOutDone 21 = .ok (.ifCond .ne 32, 3) := by decide +kernel
theorem dX2_takeOutDone_24 : decode cX2_takeOutDone 24 = .ok (.aload_n 0, 1) := by decide +kernel
theorem dX2_takeOutDone_25 : decode cX2_takeOutDone 25 = .ok (.getfield 11, 3) := by decide +kernel
theorem dX2_takeOutDone_28 : decode cX2_takeOutDone 28 = .ok (.iload_n 2, 1) := by decide +kernel
theorem dX2_takeOutDone_29 : decode cX2_takeOutDone 29 = .ok (.aaload, 1) := by decide +kernel
theorem dX2_takeOutDone_30 : decode cX2_takeOutDone 30 = .ok (.astore_n 3, 1) := by decide +kernel
theorem dX2_takeOutDone_31 : decode cX2_takeOutDone 31 = .ok (.aload_n 0, 1) := by decide +kernel
theorem dX2_takeOutDone_32 : decode cX2_takeOutDone 32 = .ok (.getfield 11, 3) := by decide +kernel
theorem dX2_takeOutDone_35 : decode cX2_takeOutDone 35 = .ok (.iload_n 2, 1) := by decide +kernel
theorem dX2_takeOutDone_36 : decode cX2_takeOutDone 36 = .ok (.aload_n 0, 1) := by decide +kernel
theorem dX2_takeOutDone_37 : decode cX2_takeOutDone 37 = .ok (.getfield 11, 3) := by decide +kernel
theorem dX2_takeOutDone_40 : decode cX2_takeOutDone 40 = .ok (.iload_n 1, 1) := by decide +kernel
theorem dX2_takeOutDone_41 : decode cX2_takeOutDone 41 = .ok (.aaload, 1) := by decide +kernel
theorem dX2_takeOutDone_42 : decode cX2_takeOutDone 42 = .ok (.aastore, 1) := by decide +kernel
theorem dX2_takeOutDone_43 : decode cX2_takeOutDone 43 = .ok (.aload_n 0, 1) := by decide +kernel
theorem dX2_takeOutDone_44 : decode cX2_takeOutDone 44 = .ok (.getfield 11, 3) := by decide +kernel
theorem dX2_takeOutDone_47 : decode cX2_takeOutDone 47 = .ok (.iload_n 1, 1) := by decide +kernel
theorem dX2_takeOutDone_48 : decode cX2_takeOutDone 48 = .ok (.aload_n 3, 1) := by decide +kernel
theorem dX2_takeOutDone_49 : decode cX2_takeOutDone 49 = .ok (.aastore, 1) := by decide +kernel
theorem dX2_takeOutDone_50 : decode cX2_takeOutDone 50 = .ok (.iinc 1 1, 3) := by decide +kernel
theorem dX2_takeOutDone_53 : decode cX2_takeOutDone 53 = .ok (.iinc 2 1, 3) := by decide +kernel
theorem dX2_takeOutDone_56 : decode cX2_takeOutDone 56 = .ok (.goto (-52), 3) := by decide +kernel
theorem dX2_takeOutDone_59 : decode cX2_takeOutDone 59 = .ok (.aload_n 0, 1) := by decide +kernel
theorem dX2_takeOutDone_60 : decode cX2_takeOutDone 60 = .ok (.getfield 30, 3) := by decide +kernel
theorem dX2_takeOutDone_63 : decode cX2_takeOutDone 63 = .ok (.iload_n 1, 1) := by decide +kernel
theorem dX2_takeOutDone_64 : decode cX2_takeOutDone 64 = .ok (.isub, 1) := by decide +kernel
theorem dX2_takeOutDone_65 : decode cX2_takeOutDone 65 = .ok (.istore_n 2, 1) := by decide +kernel
theorem dX2_takeOutDone_66 : decode cX2_takeOutDone 66 = .ok (.aload_n 0, 1) := by decide +kernel
theorem dX2_takeOutDone_67 : decode cX2_takeOutDone 67 = .ok (.iload_n 1, 1) := by decide +kernel
theorem dX2_takeOutDone_68 : decode cX2_takeOutDone 68 = .ok (.putfield 30, 3) := by decide +kernel
theorem dX2_takeOutDone_71 : decode cX2_takeOutDone 71 = .ok (.iload_n 2, 1) := by decide +kernel
theorem dX2_takeOutDone_72 : decode cX2_takeOutDone 72 = .ok (.ireturn, 1) := by decide +kernel
theorem dX3_init_0 : decode cX3_init 0 = .ok (.aload_n 0, 1) := by decide +kernel
theorem dX3_init_1 : decode cX3_init 1 = .ok (.invokespecial 3, 3) := by decide +kernel
theorem dX3_init_4 : decode cX3_init 4 = .ok (.aload_n 0, 1) := by decide +kernel
theorem dX3_init_5 : decode cX3_init 5 = .ok (.iconst 5, 1) := by decide +kernel
theorem dX3_init_6 : decode cX3_init 6 = .ok (.bipush 8, 2) := by decide +kernel
theorem dX3_init_8 : decode cX3_init 8 = .ok (.multianewarray 9 2, 4) := by decide +kernel
theorem dX3_init_12 : decode cX3_init 12 = .ok (.putfield 11, 3) := by decide +kernel
theorem dX3_init_15 : decode cX3_init 15 = .ok (.aload_n 0, 1) := by decide +kernel
theorem dX3_init_16 : decode cX3_init 16 = .ok (.iconst 5, 1) := by decide +kernel
theorem dX3_init_17 : decode cX3_init 17 = .ok (.newarray .boolean, 2) := by decide +kernel
theorem dX3_init_19 : decode cX3_init 19 = .ok (.putfield 16, 3) := by decide +kernel
theorem dX3_init_22 : decode cX3_init 22 = .ok (.return_, 1) := by decide +kernel
theorem dX3_clear_0 : decode cX3_clear 0 = .ok (.iconst 0, 1) := by decide +kernel
theorem dX3_clear_1 : decode cX3_clear 1 = .ok (.istore_n 1, 1) := by decide +kernel
theorem dX3_clear_2 : decode cX3_clear 2 = .ok (.iload_n 1, 1) := by decide +kernel
theorem dX3_clear_3 : decode cX3_clear 3 = .ok (.iconst 5, 1) := by decide +kernel
theorem dX3_clear_4 : decode cX3_clear 4 = .ok (.if_icmp .ge 16, 3) := by decide +kernel
theorem dX3_clear_7 : decode cX3_clear 7 = .ok (.aload_n 0, 1) := by decide +kernel
theorem dX3_clear_8 : decode cX3_clear 8 = .ok (.getfield 16, 3) := by decide +kernel
theorem dX3_clear_11 : decode cX3_clear 11 = .ok (.iload_n 1, 1) := by decide +kernel
theorem dX3_clear_12 : decode cX3_clear 12 = .ok (.iconst 0, 1) := by decide +kernel
theorem dX3_clear_13 : decode cX3_clear 13 = .ok (.bastore, 1) := by decide +kernel
theorem dX3_clear_14 : decode cX3_clear 14 = .ok (.iinc 1 1, 3) := by decide +kernel
theorem dX3_clear_17 : decode cX3_clear 17 = .ok (.goto (-15), 3) := by decide +kernel
theorem dX3_clear_20 : decode cX3_clear 20 = .ok (.return_, 1) := by decide +kernel
theorem dX3_height_0 : decode cX3_height 0 = .ok (.iconst 0, 1) := by decide +kernel
theorem dX3_height_1 : decode cX3_height 1 = .ok (.istore_n 1, 1) := by decide +kernel
theorem dX3_height_2 : decode cX3_height 2 = .ok (.iconst 0, 1) := by decide +kernel
theorem dX3_height_3 : decode cX3_height 3 = .ok (.istore_n 2, 1) := by decide +kernel
theorem dX3_height_4 : decode cX3_height 4 = .ok (.iload_n 2, 1) := by decide +kernel
theorem dX3_height_5 : decode cX3_height 5 = .ok (.iconst 5, 1) := by decide +kernel
theorem dX3_height_6 : decode cX3_height 6 = .ok (.if_icmp .ge 21, 3) := by decide +kernel
theorem dX3_height_9 : decode cX3_height 9 = .ok (.aload_n 0, 1) := by decide +kernel
theorem dX3_height_10 : decode cX3_height 10 = .ok (.getfield 16, 3) := by decide +kernel
theorem dX3_height_13 : decode cX3_height 13 = .ok (.iload_n 2, 1) := by decide +kernel
theorem dX3_height_14 : decode cX3_height 14 = .ok (.baload, 1) := by decide +kernel
theorem dX3_height_15 : decode cX3_height 15 = .ok (.ifCond .eq 6, 3) := by decide +kernel
theorem dX3_height_18 : decode cX3_height 18 = .ok (.iinc 1 1, 3) := by decide +kernel
theorem dX3_height_21 : decode cX3_height 21 = .ok (.iinc 2 1, 3) := by decide +kernel
theorem dX3_height_24 : decode cX3_height 24 = .ok (.goto (-20), 3) := by decide +kernel
theorem dX3_height_27 : decode cX3_height 27 = .ok (.iload_n 1, 1) := by decide +kernel
theorem dX3_height_28 : decode cX3_height 28 = .ok (.ireturn, 1) := by decide +kernel
theorem dX3_placeOf_0 : decode cX3_placeOf 0 = .ok (.iconst 0, 1) := by decide +kernel
theorem dX3_placeOf_1 : decode cX3_placeOf 1 = .ok (.istore_n 2, 1) := by decide +kernel
theorem dX3_placeOf_2 : decode cX3_placeOf 2 = .ok (.iconst 0, 1) := by decide +kernel
theorem dX3_placeOf_3 : decode cX3_placeOf 3 = .ok (.istore_n 3, 1) := by decide +kernel
theorem dX3_placeOf_4 : decode cX3_placeOf 4 = .ok (.iload_n 3, 1) := by decide +kernel
theorem dX3_placeOf_5 : decode cX3_placeOf 5 = .ok (.iconst 5, 1) := by decide +kernel
theorem dX3_placeOf_6 : decode cX3_placeOf 6 = .ok (.if_icmp .ge 28, 3) := by decide +kernel
theorem dX3_placeOf_9 : decode cX3_placeOf 9 = .ok (.aload_n 0, 1) := by decide +kernel
theorem dX3_placeOf_10 : decode cX3_placeOf 10 = .ok (.getfield 16, 3) := by decide +kernel
theorem dX3_placeOf_13 : decode cX3_placeOf 13 = .ok (.iload_n 3, 1) := by decide +kernel
theorem dX3_placeOf_14 : decode cX3_placeOf 14 = .ok (.baload, 1) := by decide +kernel
theorem dX3_placeOf_15 : decode cX3_placeOf 15 = .ok (.ifCond .eq 13, 3) := by decide +kernel
theorem dX3_placeOf_18 : decode cX3_placeOf 18 = .ok (.iload_n 2, 1) := by decide +kernel
theorem dX3_placeOf_19 : decode cX3_placeOf 19 = .ok (.iload_n 1, 1) := by decide +kernel
theorem dX3_placeOf_20 : decode cX3_placeOf 20 = .ok (.if_icmp .ne 5, 3) := by decide +kernel
theorem dX3_placeOf_23 : decode cX3_placeOf 23 = .ok (.iload_n 3, 1) := by decide +kernel
theorem dX3_placeOf_24 : decode cX3_placeOf 24 = .ok (.ireturn, 1) := by decide +kernel
theorem dX3_placeOf_25 : decode cX3_placeOf 25 = .ok (.iinc 2 1, 3) := by decide +kernel
theorem dX3_placeOf_28 : decode cX3_placeOf 28 = .ok (.iinc 3 1, 3) := by decide +kernel
theorem dX3_placeOf_31 : decode cX3_placeOf 31 = .ok (.goto (-27), 3) := by decide +kernel
theorem dX3_placeOf_34 : decode cX3_placeOf 34 = .ok (.iconst (-1), 1) := by decide +kernel
theorem dX3_placeOf_35 : decode cX3_placeOf 35 = .ok (.ireturn, 1) := by decide +kernel
theorem dX3_cell_0 : decode cX3_cell 0 = .ok (.iload_n 1, 1) := by decide +kernel
theorem dX3_cell_1 : decode cX3_cell 1 = .ok (.ifCond .lt 22, 3) := by decide +kernel
theorem dX3_cell_4 : decode cX3_cell 4 = .ok (.iload_n 1, 1) := by decide +kernel
theorem dX3_cell_5 : decode cX3_cell 5 = .ok (.iconst 5, 1) := by decide +kernel
theorem dX3_cell_6 : decode cX3_cell 6 = .ok (.if_icmp .ge 17, 3) := by decide +kernel
theorem dX3_cell_9 : decode cX3_cell 9 = .ok (.iload_n 2, 1) := by decide +kernel
theorem dX3_cell_10 : decode cX3_cell 10 = .ok (.ifCond .lt 13, 3) := by decide +kernel
theorem dX3_cell_13 : decode cX3_cell 13 = .ok (.iload_n 2, 1) := by decide +kernel
theorem dX3_cell_14 : decode cX3_cell 14 = .ok (.bipush 8, 2) := by decide +kernel
theorem dX3_cell_16 : decode cX3_cell 16 = .ok (.if_icmp .ge 7, 3) := by decide +kernel
theorem dX3_cell_19 : decode cX3_cell 19 = .ok (.iconst 1, 1) := by decide +kernel
theorem dX3_cell_20 : decode cX3_cell 20 = .ok (.goto 4, 3) := by decide +kernel
theorem dX3_cell_23 : decode cX3_cell 23 = .ok (.iconst 0, 1) := by decide +kernel
theorem dX3_cell_24 : decode cX3_cell 24 = .ok (.istore_n 3, 1) := by decide +kernel
theorem dX3_cell_25 : decode cX3_cell 25 = .ok (.iload_n 3, 1) := by decide +kernel
theorem dX3_cell_26 : decode cX3_cell 26 = .ok (.ifCond .eq 14, 3) := by decide +kernel
theorem dX3_cell_29 : decode cX3_cell 29 = .ok (.aload_n 0, 1) := by decide +kernel
theorem dX3_cell_30 : decode cX3_cell 30 = .ok (.getfield 11, 3) := by decide +kernel
theorem dX3_cell_33 : decode cX3_cell 33 = .ok (.iload_n 1, 1) := by decide +kernel
theorem dX3_cell_34 : decode cX3_cell 34 = .ok (.aaload, 1) := by decide +kernel
theorem dX3_cell_35 : decode cX3_cell 35 = .ok (.iload_n 2, 1) := by decide +kernel
theorem dX3_cell_36 : decode cX3_cell 36 = .ok (.iaload, 1) := by decide +kernel
theorem dX3_cell_37 : decode cX3_cell 37 = .ok (.goto 4, 3) := by decide +kernel
theorem dX3_cell_40 : decode cX3_cell 40 = .ok (.iconst 0, 1) := by decide +kernel
theorem dX3_cell_41 : decode cX3_cell 41 = .ok (.ireturn, 1) := by decide +kernel
theorem dX3_knows_0 : decode cX3_knows 0 = .ok (.iload_n 1, 1) := by decide +kernel
theorem dX3_knows_1 : decode cX3_knows 1 = .ok (.ifCond .lt 17, 3) := by decide +kernel
theorem dX3_knows_4 : decode cX3_knows 4 = .ok (.iload_n 1, 1) := by decide +kernel
theorem dX3_knows_5 : decode cX3_knows 5 = .ok (.iconst 5, 1) := by decide +kernel
theorem dX3_knows_6 : decode cX3_knows 6 = .ok (.if_icmp .ge 12, 3) := by decide +kernel
theorem dX3_knows_9 : decode cX3_knows 9 = .ok (.aload_n 0, 1) := by decide +kernel
theorem dX3_knows_10 : decode cX3_knows 10 = .ok (.getfield 16, 3) := by decide +kernel
theorem dX3_knows_13 : decode cX3_knows 13 = .ok (.iload_n 1, 1) := by decide +kernel
theorem dX3_knows_14 : decode cX3_knows 14 = .ok (.baload, 1) := by decide +kernel
theorem dX3_knows_15 : decode cX3_knows 15 = .ok (.ifCond .ne 5, 3) := by decide +kernel
theorem dX3_knows_18 : decode cX3_knows 18 = .ok (.iconst 0, 1) := by decide +kernel
theorem dX3_knows_19 : decode cX3_knows 19 = .ok (.ireturn, 1) := by decide +kernel
theorem dX3_knows_20 : decode cX3_knows 20 = .ok (.iload_n 1, 1) := by decide +kernel
theorem dX3_knows_21 : decode cX3_knows 21 = .ok (.iconst 1, 1) := by decide +kernel
theorem dX3_knows_22 : decode cX3_knows 22 = .ok (.iadd, 1) := by decide +kernel
theorem dX3_knows_23 : decode cX3_knows 23 = .ok (.istore_n 2, 1) := by decide +kernel
theorem dX3_knows_24 : decode cX3_knows 24 = .ok (.iload_n 2, 1) := by decide +kernel
theorem dX3_knows_25 : decode cX3_knows 25 = .ok (.iconst 5, 1) := by decide +kernel
theorem dX3_knows_26 : decode cX3_knows 26 = .ok (.if_icmp .ge 22, 3) := by decide +kernel
theorem dX3_knows_29 : decode cX3_knows 29 = .ok (.aload_n 0, 1) := by decide +kernel
theorem dX3_knows_30 : decode cX3_knows 30 = .ok (.getfield 11, 3) := by decide +kernel
theorem dX3_knows_33 : decode cX3_knows 33 = .ok (.iload_n 1, 1) := by decide +kernel
theorem dX3_knows_34 : decode cX3_knows 34 = .ok (.aaload, 1) := by decide +kernel
theorem dX3_knows_35 : decode cX3_knows 35 = .ok (.iload_n 2, 1) := by decide +kernel
theorem dX3_knows_36 : decode cX3_knows 36 = .ok (.iaload, 1) := by decide +kernel
theorem dX3_knows_37 : decode cX3_knows 37 = .ok (.ifCond .eq 5, 3) := by decide +kernel
theorem dX3_knows_40 : decode cX3_knows 40 = .ok (.iconst 0, 1) := by decide +kernel
theorem dX3_knows_41 : decode cX3_knows 41 = .ok (.ireturn, 1) := by decide +kernel
theorem dX3_knows_42 : decode cX3_knows 42 = .ok (.iinc 2 1, 3) := by decide +kernel
theorem dX3_knows_45 : decode cX3_knows 45 = .ok (.goto (-21), 3) := by decide +kernel
theorem dX3_knows_48 : decode cX3_knows 48 = .ok (.iconst 1, 1) := by decide +kernel
theorem dX3_knows_49 : decode cX3_knows 49 = .ok (.ireturn, 1) := by decide +kernel
theorem dX3_mixInto_0 : decode cX3_mixInto 0 = .ok (.iconst 0, 1) := by decide +kernel
theorem dX3_mixInto_1 : decode cX3_mixInto 1 = .ok (.istore 4, 2) := by decide +kernel
theorem dX3_mixInto_3 : decode cX3_mixInto 3 = .ok (.iload 4, 2) := by decide +kernel
theorem dX3_mixInto_5 : decode cX3_mixInto 5 = .ok (.bipush 8, 2) := by decide +kernel
theorem dX3_mixInto_7 : decode cX3_mixInto 7 = .ok (.if_icmp .ge 14, 3) := by decide +kernel
theorem dX3_mixInto_10 : decode cX3_mixInto 10 = .ok (.aload_n 1, 1) := by decide +kernel
theorem dX3_mixInto_11 : decode cX3_mixInto 11 = .ok (.iload 4, 2) := by decide +kernel
theorem dX3_mixInto_13 : decode cX3_mixInto 13 = .ok (.iconst 0, 1) := by decide +kernel
theorem dX3_mixInto_14 : decode cX3_mixInto 14 = .ok (.iastore, 1) := by decide +kernel
theorem dX3_mixInto_15 : decode cX3_mixInto 15 = .ok (.iinc 4 1, 3) := by decide +kernel
theorem dX3_mixInto_18 : decode cX3_mixInto 18 = .ok (.goto (-15), 3) := by decide +kernel
theorem dX3_mixInto_21 : decode cX3_mixInto 21 = .ok (.iload_n 3, 1) := by decide +kernel
theorem dX3_mixInto_22 : decode cX3_mixInto 22 = .ok (.istore 4, 2) := by decide +kernel
theorem dX3_mixInto_24 : decode cX3_mixInto 24 = .ok (.iconst 0, 1) := by decide +kernel
theorem dX3_mixInto_25 : decode cX3_mixInto 25 = .ok (.istore 5, 2) := by decide +kernel
theorem dX3_mixInto_27 : decode cX3_mixInto 27 = .ok (.iload 5, 2) := by decide +kernel
theorem dX3_mixInto_29 : decode cX3_mixInto 29 = .ok (.iconst 5, 1) := by decide +kernel
theorem dX3_mixInto_30 : decode cX3_mixInto 30 = .ok (.if_icmp .ge 45, 3) := by decide +kernel
theorem dX3_mixInto_33 : decode cX3_mixInto 33 = .ok (.aload_n 0, 1) := by decide +kernel
theorem dX3_mixInto_34 : decode cX3_mixInto 34 = .ok (.getfield 16, 3) := by decide +kernel
theorem dX3_mixInto_37 : decode cX3_mixInto 37 = .ok (.iload 5, 2) := by decide +kernel
theorem dX3_mixInto_39 : decode cX3_mixInto 39 = .ok (.baload, 1) := by decide +kernel
theorem dX3_mixInto_40 : decode cX3_mixInto 40 = .ok (.ifCond .eq 29, 3) := by decide +kernel
theorem dX3_mixInto_43 : decode cX3_mixInto 43 = .ok (.aload_n 1, 1) := by decide +kernel
theorem dX3_mixInto_44 : decode cX3_mixInto 44 = .ok (.aload_n 2, 1) := by decide +kernel
theorem dX3_mixInto_45 : decode cX3_mixInto 45 = .ok (.aload_n 2, 1) := by decide +kernel
theorem dX3_mixInto_46 : decode cX3_mixInto 46 = .ok (.iload 4, 2) := by decide +kernel
theorem dX3_mixInto_48 : decode cX3_mixInto 48 = .ok (.invokevirtual 20, 3) := by decide +kernel
theorem dX3_mixInto_51 : decode cX3_mixInto 51 = .ok (.aload_n 0, 1) := by decide +kernel
theorem dX3_mixInto_52 : decode cX3_mixInto 52 = .ok (.getfield 11, 3) := by decide +kernel
theorem dX3_mixInto_55 : decode cX3_mixInto 55 = .ok (.iload 5, 2) := by decide +kernel
theorem dX3_mixInto_57 : decode cX3_mixInto 57 = .ok (.aaload, 1) := by decide +kernel
theorem dX3_mixInto_58 : decode cX3_mixInto 58 = .ok (.invokestatic 26, 3) := by decide +kernel
theorem dX3_mixInto_61 : decode cX3_mixInto 61 = .ok (.aload_n 2, 1) := by decide +kernel
theorem dX3_mixInto_62 : decode cX3_mixInto 62 = .ok (.iload 4, 2) := by decide +kernel
theorem dX3_mixInto_64 : decode cX3_mixInto 64 = .ok (.invokevirtual 30, 3) := by decide +kernel
theorem dX3_mixInto_67 : decode cX3_mixInto 67 = .ok (.istore 4, 2) := by decide +kernel
theorem dX3_mixInto_69 : decode cX3_mixInto 69 = .ok (.iinc 5 1, 3) := by decide +kernel
theorem dX3_mixInto_72 : decode cX3_mixInto 72 = .ok (.goto (-45), 3) := by decide +kernel
theorem dX3_mixInto_75 : decode cX3_mixInto 75 = .ok (.return_, 1) := by decide +kernel
theorem dX3_leftover_0 : decode cX3_leftover 0 = .ok (.aload_n 1, 1) := by decide +kernel
theorem dX3_leftover_1 : decode cX3_leftover 1 = .ok (.iload_n 3, 1) := by decide +kernel
theorem dX3_leftover_2 : decode cX3_leftover 2 = .ok (.iaload, 1) := by decide +kernel
theorem dX3_leftover_3 : decode cX3_leftover 3 = .ok (.istore 4, 2) := by decide +kernel
theorem dX3_leftover_5 : decode cX3_leftover 5 = .ok (.iconst 0, 1) := by decide +kernel
theorem dX3_leftover_6 : decode cX3_leftover 6 = .ok (.istore 5, 2) := by decide +kernel
theorem dX3_leftover_8 : decode cX3_leftover 8 = .ok (.iload 5, 2) := by decide +kernel
theorem dX3_leftover_10 : decode cX3_leftover 10 = .ok (.iconst 5, 1) := by decide +kernel
theorem dX3_leftover_11 : decode cX3_leftover 11 = .ok (.if_icmp .ge 38, 3) := by decide +kernel
theorem dX3_leftover_14 : decode cX3_leftover 14 = .ok (.aload_n 0, 1) := by decide +kernel
theorem dX3_leftover_15 : decode cX3_leftover 15 = .ok (.getfield 16, 3) := by decide +kernel
theorem dX3_leftover_18 : decode cX3_leftover 18 = .ok (.iload 5, 2) := by decide +kernel
theorem dX3_leftover_20 : decode cX3_leftover 20 = .ok (.baload, 1) := by decide +kernel
theorem dX3_leftover_21 : decode cX3_leftover 21 = .ok (.ifCond .eq 22, 3) := by decide +kernel
theorem dX3_leftover_24 : decode cX3_leftover 24 = .ok (.iload 4, 2) := by decide +kernel
theorem dX3_leftover_26 : decode cX3_leftover 26 = .ok (.aload_n 1, 1) := by decide +kernel
theorem dX3_leftover_27 : decode cX3_leftover 27 = .ok (.iload 5, 2) := by decide +kernel
theorem dX3_leftover_29 : decode cX3_leftover 29 = .ok (.iaload, 1) := by decide +kernel
theorem dX3_leftover_30 : decode cX3_leftover 30 = .ok (.aload_n 0, 1) := by decide +kernel
theorem dX3_leftover_31 : decode cX3_leftover 31 = .ok (.getfield 11, 3) := by decide +kernel
theorem dX3_leftover_34 : decode cX3_leftover 34 = .ok (.iload 5, 2) := by decide +kernel
theorem dX3_leftover_36 : decode cX3_leftover 36 = .ok (.aaload, 1) := by decide +kernel
theorem dX3_leftover_37 : decode cX3_leftover 37 = .ok (.iload_n 3, 1) := by decide +kernel
theorem dX3_leftover_38 : decode cX3_leftover 38 = .ok (.iaload, 1) := by decide +kernel
theorem dX3_leftover_39 : decode cX3_leftover 39 = .ok (.imul, 1) := by decide +kernel
theorem dX3_leftover_40 : decode cX3_leftover 40 = .ok (.isub, 1) := by decide +kernel
theorem dX3_leftover_41 : decode cX3_leftover 41 = .ok (.istore 4, 2) := by decide +kernel
theorem dX3_leftover_43 : decode cX3_leftover 43 = .ok (.iinc 5 1, 3) := by decide +kernel
theorem dX3_leftover_46 : decode cX3_leftover 46 = .ok (.goto (-38), 3) := by decide +kernel
theorem dX3_leftover_49 : decode cX3_leftover 49 = .ok (.aload_n 2, 1) := by decide +kernel
theorem dX3_leftover_50 : decode cX3_leftover 50 = .ok (.iload 4, 2) := by decide +kernel
theorem dX3_leftover_52 : decode cX3_leftover 52 = .ok (.invokevirtual 20, 3) := by decide +kernel
theorem dX3_leftover_55 : decode cX3_leftover 55 = .ok (.ireturn, 1) := by decide +kernel
theorem dX3_newLead_0 : decode cX3_newLead 0 = .ok (.iconst 0, 1) := by decide +kernel
theorem dX3_newLead_1 : decode cX3_newLead 1 = .ok (.istore_n 3, 1) := by decide +kernel
theorem dX3_newLead_2 : decode cX3_newLead 2 = .ok (.iload_n 3, 1) := by decide +kernel
theorem dX3_newLead_3 : decode cX3_newLead 3 = .ok (.iconst 5, 1) := by decide +kernel
theorem dX3_newLead_4 : decode cX3_newLead 4 = .ok (.if_icmp .ge 21, 3) := by decide +kernel
theorem dX3_newLead_7 : decode cX3_newLead 7 = .ok (.aload_n 0, 1) := by decide +kernel
theorem dX3_newLead_8 : decode cX3_newLead 8 = .ok (.aload_n 1, 1) := by decide +kernel
theorem dX3_newLead_9 : decode cX3_newLead 9 = .ok (.aload_n 2, 1) := by decide +kernel
theorem dX3_newLead_10 : decode cX3_newLead 10 = .ok (.iload_n 3, 1) := by decide +kernel
theorem dX3_newLead_11 : decode cX3_newLead 11 = .ok (.invokevirtual 33, 3) := by decide +kernel
theorem dX3_newLead_14 : decode cX3_newLead 14 = .ok (.ifCond .eq 5, 3) := by decide +kernel
theorem dX3_newLead_17 : decode cX3_newLead 17 = .ok (.iload_n 3, 1) := by decide +kernel
theorem dX3_newLead_18 : decode cX3_newLead 18 = .ok (.ireturn, 1) := by decide +kernel
theorem dX3_newLead_19 : decode cX3_newLead 19 = .ok (.iinc 3 1, 3) := by decide +kernel
theorem dX3_newLead_22 : decode cX3_newLead 22 = .ok (.goto (-20), 3) := by decide +kernel
theorem dX3_newLead_25 : decode cX3_newLead 25 = .ok (.iconst (-1), 1) := by decide +kernel
theorem dX3_newLead_26 : decode cX3_newLead 26 = .ok (.ireturn, 1) := by decide +kernel
theorem dX3_take_0 : decode cX3_take 0 = .ok (.aload_n 0, 1) := by decide +kernel
theorem dX3_take_1 : decode cX3_take 1 = .ok (.aload_n 1, 1) := by decide +kernel
theorem dX3_take_2 : decode cX3_take 2 = .ok (.aload_n 2, 1) := by decide +kernel
theorem dX3_take_3 : decode cX3_take 3 = .ok (.invokevirtual 37, 3) := by decide +kernel
theorem dX3_take_6 : decode cX3_take 6 = .ok (.istore_n 3, 1) := by decide +kernel
theorem dX3_take_7 : decode cX3_take 7 = .ok (.iload_n 3, 1) := by decide +kernel
theorem dX3_take_8 : decode cX3_take 8 = .ok (.ifCond .ge 5, 3) := by decide +kernel
theorem dX3_take_11 : decode cX3_take 11 = .ok (.iconst 0, 1) := by decide +kernel
theorem dX3_take_12 : decode cX3_take 12 = .ok (.ireturn, 1) := by decide +kernel
theorem dX3_take_13 : decode cX3_take 13 = .ok (.aload_n 2, 1) := by decide +kernel
theorem dX3_take_14 : decode cX3_take 14 = .ok (.aload_n 0, 1) := by decide +kernel
theorem dX3_take_15 : decode cX3_take 15 = .ok (.aload_n 1, 1) := by decide +kernel
theorem dX3_take_16 : decode cX3_take 16 = .ok (.aload_n 2, 1) := by decide +kernel
theorem dX3_take_17 : decode cX3_take 17 = .ok (.iload_n 3, 1) := by decide +kernel
theorem dX3_take_18 : decode cX3_take 18 = .ok (.invokevirtual 33, 3) := by decide +kernel
theorem dX3_take_21 : decode cX3_take 21 = .ok (.invokevirtual 41, 3) := by decide +kernel
theorem dX3_take_24 : decode cX3_take 24 = .ok (.istore 4, 2) := by decide +kernel
theorem dX3_take_26 : decode cX3_take 26 = .ok (.iconst 0, 1) := by decide +kernel
theorem dX3_take_27 : decode cX3_take 27 = .ok (.istore 5, 2) := by decide +kernel
theorem dX3_take_29 : decode cX3_take 29 = .ok (.iload 5, 2) := by decide +kernel
theorem dX3_take_31 : decode cX3_take 31 = .ok (.bipush 8, 2) := by decide +kernel
theorem dX3_take_33 : decode cX3_take 33 = .ok (.if_icmp .ge 33, 3) := by decide +kernel
theorem dX3_take_36 : decode cX3_take 36 = .ok (.aload_n 0, 1) := by decide +kernel
theorem dX3_take_37 : decode cX3_take 37 = .ok (.getfield 11, 3) := by decide +kernel
theorem dX3_take_40 : decode cX3_take 40 = .ok (.iload_n 3, 1) := by decide +kernel
theorem dX3_take_41 : decode cX3_take 41 = .ok (.aaload, 1) := by decide +kernel
theorem dX3_take_42 : decode cX3_take 42 = .ok (.iload 5, 2) := by decide +kernel
theorem dX3_take_44 : decode cX3_take 44 = .ok (.aload_n 2, 1) := by decide +kernel
theorem dX3_take_45 : decode cX3_take 45 = .ok (.iload 4, 2) := by decide +kernel
theorem dX3_take_47 : decode cX3_take 47 = .ok (.aload_n 0, 1) := by decide +kernel
theorem dX3_take_48 : decode cX3_take 48 = .ok (.aload_n 1, 1) := by decide +kernel
theorem dX3_take_49 : decode cX3_take 49 = .ok (.aload_n 2, 1) := by decide +kernel
theorem dX3_take_50 : decode cX3_take 50 = .ok (.iload 5, 2) := by decide +kernel
theorem dX3_take_52 : decode cX3_take 52 = .ok (.invokevirtual 33, 3) := by decide +kernel
theorem dX3_take_55 : decode cX3_take 55 = .ok (.imul, 1) := by decide +kernel
theorem dX3_take_56 : decode cX3_take 56 = .ok (.invokevirtual 20, 3) := by decide +kernel
theorem dX3_take_59 : decode cX3_take 59 = .ok (.iastore, 1) := by decide +kernel
theorem dX3_take_60 : decode cX3_take 60 = .ok (.iinc 5 1, 3) := by decide +kernel
theorem dX3_take_63 : decode cX3_take 63 = .ok (.goto (-34), 3) := by decide +kernel
theorem dX3_take_66 : decode cX3_take 66 = .ok (.iconst 0, 1) := by decide +kernel
theorem dX3_take_67 : decode cX3_take 67 = .ok (.istore 5, 2) := by decide +kernel
theorem dX3_take_69 : decode cX3_take 69 = .ok (.iload 5, 2) := by decide +kernel
theorem dX3_take_71 : decode cX3_take 71 = .ok (.iconst 5, 1) := by decide +kernel
theorem dX3_take_72 : decode cX3_take 72 = .ok (.if_icmp .ge 46, 3) := by decide +kernel
theorem dX3_take_75 : decode cX3_take 75 = .ok (.aload_n 0, 1) := by decide +kernel
theorem dX3_take_76 : decode cX3_take 76 = .ok (.getfield 16, 3) := by decide +kernel
theorem dX3_take_79 : decode cX3_take 79 = .ok (.iload 5, 2) := by decide +kernel
theorem dX3_take_81 : decode cX3_take 81 = .ok (.baload, 1) := by decide +kernel
theorem dX3_take_82 : decode cX3_take 82 = .ok (.ifCond .eq 30, 3) := by decide +kernel
theorem dX3_take_85 : decode cX3_take 85 = .ok (.aload_n 0, 1) := by decide +kernel
theorem dX3_take_86 : decode cX3_take 86 = .ok (.getfield 11, 3) := by decide +kernel
theorem dX3_take_89 : decode cX3_take 89 = .ok (.iload 5, 2) := by decide +kernel
theorem dX3_take_91 : decode cX3_take 91 = .ok (.aaload, 1) := by decide +kernel
theorem dX3_take_92 : decode cX3_take 92 = .ok (.aload_n 2, 1) := by decide +kernel
theorem dX3_take_93 : decode cX3_take 93 = .ok (.aload_n 0, 1) := by decide +kernel
theorem dX3_take_94 : decode cX3_take 94 = .ok (.getfield 11, 3) := by decide +kernel
theorem dX3_take_97 : decode cX3_take 97 = .ok (.iload 5, 2) := by decide +kernel
theorem dX3_take_99 : decode cX3_take 99 = .ok (.aaload, 1) := by decide +kernel
theorem dX3_take_100 : decode cX3_take 100 = .ok (.iload_n 3, 1) := by decide +kernel
theorem dX3_take_101 : decode cX3_take 101 = .ok (.iaload, 1) := by decide +kernel
theorem dX3_take_102 : decode cX3_take 102 = .ok (.ineg, 1) := by decide +kernel
theorem dX3_take_103 : decode cX3_take 103 = .ok (.aload_n 0, 1) := by decide +kernel
theorem dX3_take_104 : decode cX3_take 104 = .ok (.getfield 11, 3) := by decide +kernel
theorem dX3_take_107 : decode cX3_take 107 = .ok (.iload_n 3, 1) := by decide +kernel
theorem dX3_take_108 : decode cX3_take 108 = .ok (.aaload, 1) := by decide +kernel
theorem dX3_take_109 : decode cX3_take 109 = .ok (.invokestatic 26, 3) := by decide +kernel
theorem dX3_take_112 : decode cX3_take 112 = .ok (.iinc 5 1, 3) := by decide +kernel
theorem dX3_take_115 : decode cX3_take 115 = .ok (.goto (-46), 3) := by decide +kernel
theorem dX3_take_118 : decode cX3_take 118 = .ok (.aload_n 0, 1) := by decide +kernel
theorem dX3_take_119 : decode cX3_take 119 = .ok (.getfield 16, 3) := by decide +kernel
theorem dX3_take_122 : decode cX3_take 122 = .ok (.iload_n 3, 1) := by decide +kernel
theorem dX3_take_123 : decode cX3_take 123 = .ok (.iconst 1, 1) := by decide +kernel
theorem dX3_take_124 : decode cX3_take 124 = .ok (.bastore, 1) := by decide +kernel
theorem dX3_take_125 : decode cX3_take 125 = .ok (.iconst 1, 1) := by decide +kernel
theorem dX3_take_126 : decode cX3_take 126 = .ok (.ireturn, 1) := by decide +kernel
theorem dX3_addTimes_0 : decode cX3_addTimes 0 = .ok (.iconst 0, 1) := by decide +kernel
theorem dX3_addTimes_1 : decode cX3_addTimes 1 = .ok (.istore 4, 2) := by decide +kernel
end
section
theorem dX3_addTimes_3 : decode cX3_addTimes 3 = .ok (.iload 4, 2) := by decide +kernel
theorem dX3_addTimes_5 : decode cX3_addTimes 5 = .ok (.bipush 8, 2) := by decide +kernel
theorem dX3_addTimes_7 : decode cX3_addTimes 7 = .ok (.if_icmp .ge 28, 3) := by decide +kernel
theorem dX3_addTimes_10 : decode cX3_addTimes 10 = .ok (.aload_n 0, 1) := by decide +kernel
theorem dX3_addTimes_11 : decode cX3_addTimes 11 = .ok (.iload 4, 2) := by decide +kernel
theorem dX3_addTimes_13 : decode cX3_addTimes 13 = .ok (.aload_n 1, 1) := by decide +kernel
theorem dX3_addTimes_14 : decode cX3_addTimes 14 = .ok (.aload_n 0, 1) := by decide +kernel
theorem dX3_addTimes_15 : decode cX3_addTimes 15 = .ok (.iload 4, 2) := by decide +kernel
theorem dX3_addTimes_17 : decode cX3_addTimes 17 = .ok (.iaload, 1) := by decide +kernel
theorem dX3_addTimes_18 : decode cX3_addTimes 18 = .ok (.iload_n 2, 1) := by decide +kernel
theorem dX3_addTimes_19 : decode cX3_addTimes 19 = .ok (.aload_n 3, 1) := by decide +kernel
theorem dX3_addTimes_20 : decode cX3_addTimes 20 = .ok (.iload 4, 2) := by decide +kernel
theorem dX3_addTimes_22 : decode cX3_addTimes 22 = .ok (.iaload, 1) := by decide +kernel
theorem dX3_addTimes_23 : decode cX3_addTimes 23 = .ok (.imul, 1) := by decide +kernel
theorem dX3_addTimes_24 : decode cX3_addTimes 24 = .ok (.iadd, 1) := by decide +kernel
theorem dX3_addTimes_25 : decode cX3_addTimes 25 = .ok (.invokevirtual 20, 3) := by decide +kernel
theorem dX3_addTimes_28 : decode cX3_addTimes 28 = .ok (.iastore, 1) := by decide +kernel
theorem dX3_addTimes_29 : decode cX3_addTimes 29 = .ok (.iinc 4 1, 3) := by decide +kernel
theorem dX3_addTimes_32 : decode cX3_addTimes 32 = .ok (.goto (-29), 3) := by decide +kernel
theorem dX3_addTimes_35 : decode cX3_addTimes 35 = .ok (.return_, 1) := by decide +kernel
theorem dX4_init_0 : decode cX4_init 0 = .ok (.aload_n 0, 1) := by decide +kernel
theorem dX4_init_1 : decode cX4_init 1 = .ok (.invokespecial 3, 3) := by decide +kernel
theorem dX4_init_4 : decode cX4_init 4 = .ok (.aload_n 0, 1) := by decide +kernel
theorem dX4_init_5 : decode cX4_init 5 = .ok (.bipush 60, 2) := by decide +kernel
theorem dX4_init_7 : decode cX4_init 7 = .ok (.newarray .int, 2) := by decide +kernel
theorem dX4_init_9 : decode cX4_init 9 = .ok (.putfield 9, 3) := by decide +kernel
theorem dX4_init_12 : decode cX4_init 12 = .ok (.return_, 1) := by decide +kernel
theorem dX4_put_0 : decode cX4_put 0 = .ok (.aload_n 0, 1) := by decide +kernel
theorem dX4_put_1 : decode cX4_put 1 = .ok (.getfield 15, 3) := by decide +kernel
theorem dX4_put_4 : decode cX4_put 4 = .ok (.bipush 60, 2) := by decide +kernel
theorem dX4_put_6 : decode cX4_put 6 = .ok (.if_icmp .ge 23, 3) := by decide +kernel
theorem dX4_put_9 : decode cX4_put 9 = .ok (.aload_n 0, 1) := by decide +kernel
theorem dX4_put_10 : decode cX4_put 10 = .ok (.getfield 9, 3) := by decide +kernel
theorem dX4_put_13 : decode cX4_put 13 = .ok (.aload_n 0, 1) := by decide +kernel
theorem dX4_put_14 : decode cX4_put 14 = .ok (.getfield 15, 3) := by decide +kernel
theorem dX4_put_17 : decode cX4_put 17 = .ok (.iload_n 1, 1) := by decide +kernel
theorem dX4_put_18 : decode cX4_put 18 = .ok (.iastore, 1) := by decide +kernel
theorem dX4_put_19 : decode cX4_put 19 = .ok (.aload_n 0, 1) := by decide +kernel
theorem dX4_put_20 : decode cX4_put 20 = .ok (.dup, 1) := by decide +kernel
theorem dX4_put_21 : decode cX4_put 21 = .ok (.getfield 15, 3) := by decide +kernel
theorem dX4_put_24 : decode cX4_put 24 = .ok (.iconst 1, 1) := by decide +kernel
theorem dX4_put_25 : decode cX4_put 25 = .ok (.iadd, 1) := by decide +kernel
theorem dX4_put_26 : decode cX4_put 26 = .ok (.putfield 15, 3) := by decide +kernel
theorem dX4_put_29 : decode cX4_put 29 = .ok (.return_, 1) := by decide +kernel
theorem dX4_putFigure_0 : decode cX4_putFigure 0 = .ok (.aload_n 0, 1) := by decide +kernel
theorem dX4_putFigure_1 : decode cX4_putFigure 1 = .ok (.bipush 48, 2) := by decide +kernel
theorem dX4_putFigure_3 : decode cX4_putFigure 3 = .ok (.iload_n 1, 1) := by decide +kernel
theorem dX4_putFigure_4 : decode cX4_putFigure 4 = .ok (.iadd, 1) := by decide +kernel
theorem dX4_putFigure_5 : decode cX4_putFigure 5 = .ok (.invokevirtual 19, 3) := by decide +kernel
theorem dX4_putFigure_8 : decode cX4_putFigure 8 = .ok (.return_, 1) := by decide +kernel
theorem dX4_putBody_0 : decode cX4_putBody 0 = .ok (.iload_n 1, 1) := by decide +kernel
theorem dX4_putBody_1 : decode cX4_putBody 1 = .ok (.bipush 100, 2) := by decide +kernel
theorem dX4_putBody_3 : decode cX4_putBody 3 = .ok (.if_icmp .lt 11, 3) := by decide +kernel
theorem dX4_putBody_6 : decode cX4_putBody 6 = .ok (.aload_n 0, 1) := by decide +kernel
theorem dX4_putBody_7 : decode cX4_putBody 7 = .ok (.iload_n 1, 1) := by decide +kernel
theorem dX4_putBody_8 : decode cX4_putBody 8 = .ok (.bipush 100, 2) := by decide +kernel
theorem dX4_putBody_10 : decode cX4_putBody 10 = .ok (.idiv, 1) := by decide +kernel
theorem dX4_putBody_11 : decode cX4_putBody 11 = .ok (.invokevirtual 23, 3) := by decide +kernel
theorem dX4_putBody_14 : decode cX4_putBody 14 = .ok (.iload_n 1, 1) := by decide +kernel
theorem dX4_putBody_15 : decode cX4_putBody 15 = .ok (.bipush 10, 2) := by decide +kernel
theorem dX4_putBody_17 : decode cX4_putBody 17 = .ok (.if_icmp .lt 14, 3) := by decide +kernel
theorem dX4_putBody_20 : decode cX4_putBody 20 = .ok (.aload_n 0, 1) := by decide +kernel
theorem dX4_putBody_21 : decode cX4_putBody 21 = .ok (.iload_n 1, 1) := by decide +kernel
theorem dX4_putBody_22 : decode cX4_putBody 22 = .ok (.bipush 10, 2) := by decide +kernel
theorem dX4_putBody_24 : decode cX4_putBody 24 = .ok (.idiv, 1) := by decide +kernel
theorem dX4_putBody_25 : decode cX4_putBody 25 = .ok (.bipush 10, 2) := by decide +kernel
theorem dX4_putBody_27 : decode cX4_putBody 27 = .ok (.irem, 1) := by decide +kernel
theorem dX4_putBody_28 : decode cX4_putBody 28 = .ok (.invokevirtual 23, 3) := by decide +kernel
theorem dX4_putBody_31 : decode cX4_putBody 31 = .ok (.aload_n 0, 1) := by decide +kernel
theorem dX4_putBody_32 : decode cX4_putBody 32 = .ok (.iload_n 1, 1) := by decide +kernel
theorem dX4_putBody_33 : decode cX4_putBody 33 = .ok (.bipush 10, 2) := by decide +kernel
theorem dX4_putBody_35 : decode cX4_putBody 35 = .ok (.irem, 1) := by decide +kernel
theorem dX4_putBody_36 : decode cX4_putBody 36 = .ok (.invokevirtual 23, 3) := by decide +kernel
theorem dX4_putBody_39 : decode cX4_putBody 39 = .ok (.return_, 1) := by decide +kernel
theorem dX4_writeSum_0 : decode cX4_writeSum 0 = .ok (.aload_n 0, 1) := by decide +kernel
theorem dX4_writeSum_1 : decode cX4_writeSum 1 = .ok (.iconst 0, 1) := by decide +kernel
theorem dX4_writeSum_2 : decode cX4_writeSum 2 = .ok (.putfield 15, 3) := by decide +kernel
theorem dX4_writeSum_5 : decode cX4_writeSum 5 = .ok (.iconst 0, 1) := by decide +kernel
theorem dX4_writeSum_6 : decode cX4_writeSum 6 = .ok (.istore_n 3, 1) := by decide +kernel
theorem dX4_writeSum_7 : decode cX4_writeSum 7 = .ok (.iload_n 3, 1) := by decide +kernel
theorem dX4_writeSum_8 : decode cX4_writeSum 8 = .ok (.bipush 10, 2) := by decide +kernel
theorem dX4_writeSum_10 : decode cX4_writeSum 10 = .ok (.if_icmp .ge 36, 3) := by decide +kernel
theorem dX4_writeSum_13 : decode cX4_writeSum 13 = .ok (.iload_n 1, 1) := by decide +kernel
theorem dX4_writeSum_14 : decode cX4_writeSum 14 = .ok (.iload_n 3, 1) := by decide +kernel
theorem dX4_writeSum_15 : decode cX4_writeSum 15 = .ok (.ishr, 1) := by decide +kernel
theorem dX4_writeSum_16 : decode cX4_writeSum 16 = .ok (.iconst 1, 1) := by decide +kernel
theorem dX4_writeSum_17 : decode cX4_writeSum 17 = .ok (.iand, 1) := by decide +kernel
theorem dX4_writeSum_18 : decode cX4_writeSum 18 = .ok (.iconst 1, 1) := by decide +kernel
theorem dX4_writeSum_19 : decode cX4_writeSum 19 = .ok (.if_icmp .ne 21, 3) := by decide +kernel
theorem dX4_writeSum_22 : decode cX4_writeSum 22 = .ok (.aload_n 0, 1) := by decide +kernel
theorem dX4_writeSum_23 : decode cX4_writeSum 23 = .ok (.getfield 15, 3) := by decide +kernel
theorem dX4_writeSum_26 : decode cX4_writeSum 26 = .ok (.ifCond .le 9, 3) := by decide +kernel
theorem dX4_writeSum_29 : decode cX4_writeSum 29 = .ok (.aload_n 0, 1) := by decide +kernel
theorem dX4_writeSum_30 : decode cX4_writeSum 30 = .ok (.bipush 43, 2) := by decide +kernel
theorem dX4_writeSum_32 : decode cX4_writeSum 32 = .ok (.invokevirtual 19, 3) := by decide +kernel
theorem dX4_writeSum_35 : decode cX4_writeSum 35 = .ok (.aload_n 0, 1) := by decide +kernel
theorem dX4_writeSum_36 : decode cX4_writeSum 36 = .ok (.iload_n 3, 1) := by decide +kernel
theorem dX4_writeSum_37 : decode cX4_writeSum 37 = .ok (.invokevirtual 23, 3) := by decide +kernel
theorem dX4_writeSum_40 : decode cX4_writeSum 40 = .ok (.iinc 3 1, 3) := by decide +kernel
theorem dX4_writeSum_43 : decode cX4_writeSum 43 = .ok (.goto (-36), 3) := by decide +kernel
theorem dX4_writeSum_46 : decode cX4_writeSum 46 = .ok (.aload_n 0, 1) := by decide +kernel
theorem dX4_writeSum_47 : decode cX4_writeSum 47 = .ok (.bipush 32, 2) := by decide +kernel
theorem dX4_writeSum_49 : decode cX4_writeSum 49 = .ok (.invokevirtual 19, 3) := by decide +kernel
theorem dX4_writeSum_52 : decode cX4_writeSum 52 = .ok (.aload_n 0, 1) := by decide +kernel
theorem dX4_writeSum_53 : decode cX4_writeSum 53 = .ok (.iload_n 2, 1) := by decide +kernel
theorem dX4_writeSum_54 : decode cX4_writeSum 54 = .ok (.invokevirtual 26, 3) := by decide +kernel
theorem dX4_writeSum_57 : decode cX4_writeSum 57 = .ok (.return_, 1) := by decide +kernel
theorem dX4_writeRows_0 : decode cX4_writeRows 0 = .ok (.aload_n 0, 1) := by decide +kernel
theorem dX4_writeRows_1 : decode cX4_writeRows 1 = .ok (.iconst 0, 1) := by decide +kernel
theorem dX4_writeRows_2 : decode cX4_writeRows 2 = .ok (.putfield 15, 3) := by decide +kernel
theorem dX4_writeRows_5 : decode cX4_writeRows 5 = .ok (.iconst 0, 1) := by decide +kernel
theorem dX4_writeRows_6 : decode cX4_writeRows 6 = .ok (.istore_n 3, 1) := by decide +kernel
theorem dX4_writeRows_7 : decode cX4_writeRows 7 = .ok (.iload_n 3, 1) := by decide +kernel
theorem dX4_writeRows_8 : decode cX4_writeRows 8 = .ok (.iconst 5, 1) := by decide +kernel
theorem dX4_writeRows_9 : decode cX4_writeRows 9 = .ok (.if_icmp .ge 38, 3) := by decide +kernel
theorem dX4_writeRows_12 : decode cX4_writeRows 12 = .ok (.aload_n 1, 1) := by decide +kernel
theorem dX4_writeRows_13 : decode cX4_writeRows 13 = .ok (.getfield 29, 3) := by decide +kernel
theorem dX4_writeRows_16 : decode cX4_writeRows 16 = .ok (.iload_n 3, 1) := by decide +kernel
theorem dX4_writeRows_17 : decode cX4_writeRows 17 = .ok (.baload, 1) := by decide +kernel
theorem dX4_writeRows_18 : decode cX4_writeRows 18 = .ok (.ifCond .eq 23, 3) := by decide +kernel
theorem dX4_writeRows_21 : decode cX4_writeRows 21 = .ok (.aload_n 0, 1) := by decide +kernel
theorem dX4_writeRows_22 : decode cX4_writeRows 22 = .ok (.getfield 15, 3) := by decide +kernel
theorem dX4_writeRows_25 : decode cX4_writeRows 25 = .ok (.ifCond .le 9, 3) := by decide +kernel
theorem dX4_writeRows_28 : decode cX4_writeRows 28 = .ok (.aload_n 0, 1) := by decide +kernel
theorem dX4_writeRows_29 : decode cX4_writeRows 29 = .ok (.bipush 32, 2) := by decide +kernel
theorem dX4_writeRows_31 : decode cX4_writeRows 31 = .ok (.invokevirtual 19, 3) := by decide +kernel
theorem dX4_writeRows_34 : decode cX4_writeRows 34 = .ok (.aload_n 0, 1) := by decide +kernel
theorem dX4_writeRows_35 : decode cX4_writeRows 35 = .ok (.aload_n 1, 1) := by decide +kernel
theorem dX4_writeRows_36 : decode cX4_writeRows 36 = .ok (.iload_n 3, 1) := by decide +kernel
theorem dX4_writeRows_37 : decode cX4_writeRows 37 = .ok (.iload_n 2, 1) := by decide +kernel
theorem dX4_writeRows_38 : decode cX4_writeRows 38 = .ok (.invokevirtual 35, 3) := by decide +kernel
theorem dX4_writeRows_41 : decode cX4_writeRows 41 = .ok (.iinc 3 1, 3) := by decide +kernel
theorem dX4_writeRows_44 : decode cX4_writeRows 44 = .ok (.goto (-37), 3) := by decide +kernel
theorem dX4_writeRows_47 : decode cX4_writeRows 47 = .ok (.return_, 1) := by decide +kernel
theorem dX4_writeRow_0 : decode cX4_writeRow 0 = .ok (.iconst 0, 1) := by decide +kernel
theorem dX4_writeRow_1 : decode cX4_writeRow 1 = .ok (.istore 4, 2) := by decide +kernel
theorem dX4_writeRow_3 : decode cX4_writeRow 3 = .ok (.iload 4, 2) := by decide +kernel
theorem dX4_writeRow_5 : decode cX4_writeRow 5 = .ok (.iload_n 3, 1) := by decide +kernel
theorem dX4_writeRow_6 : decode cX4_writeRow 6 = .ok (.if_icmp .ge 20, 3) := by decide +kernel
theorem dX4_writeRow_9 : decode cX4_writeRow 9 = .ok (.aload_n 0, 1) := by decide +kernel
theorem dX4_writeRow_10 : decode cX4_writeRow 10 = .ok (.aload_n 1, 1) := by decide +kernel
theorem dX4_writeRow_11 : decode cX4_writeRow 11 = .ok (.iload_n 2, 1) := by decide +kernel
theorem dX4_writeRow_12 : decode cX4_writeRow 12 = .ok (.iload 4, 2) := by decide +kernel
theorem dX4_writeRow_14 : decode cX4_writeRow 14 = .ok (.invokevirtual 39, 3) := by decide +kernel
theorem dX4_writeRow_17 : decode cX4_writeRow 17 = .ok (.invokevirtual 23, 3) := by decide +kernel
theorem dX4_writeRow_20 : decode cX4_writeRow 20 = .ok (.iinc 4 1, 3) := by decide +kernel
theorem dX4_writeRow_23 : decode cX4_writeRow 23 = .ok (.goto (-20), 3) := by decide +kernel
theorem dX4_writeRow_26 : decode cX4_writeRow 26 = .ok (.aload_n 0, 1) := by decide +kernel
theorem dX4_writeRow_27 : decode cX4_writeRow 27 = .ok (.bipush 58, 2) := by decide +kernel
theorem dX4_writeRow_29 : decode cX4_writeRow 29 = .ok (.invokevirtual 19, 3) := by decide +kernel
theorem dX4_writeRow_32 : decode cX4_writeRow 32 = .ok (.iconst 0, 1) := by decide +kernel
theorem dX4_writeRow_33 : decode cX4_writeRow 33 = .ok (.istore 4, 2) := by decide +kernel
theorem dX4_writeRow_35 : decode cX4_writeRow 35 = .ok (.iload 4, 2) := by decide +kernel
theorem dX4_writeRow_37 : decode cX4_writeRow 37 = .ok (.iconst 3, 1) := by decide +kernel
theorem dX4_writeRow_38 : decode cX4_writeRow 38 = .ok (.if_icmp .ge 22, 3) := by decide +kernel
theorem dX4_writeRow_41 : decode cX4_writeRow 41 = .ok (.aload_n 0, 1) := by decide +kernel
theorem dX4_writeRow_42 : decode cX4_writeRow 42 = .ok (.aload_n 1, 1) := by decide +kernel
theorem dX4_writeRow_43 : decode cX4_writeRow 43 = .ok (.iload_n 2, 1) := by decide +kernel
theorem dX4_writeRow_44 : decode cX4_writeRow 44 = .ok (.iconst 5, 1) := by decide +kernel
theorem dX4_writeRow_45 : decode cX4_writeRow 45 = .ok (.iload 4, 2) := by decide +kernel
theorem dX4_writeRow_47 : decode cX4_writeRow 47 = .ok (.iadd, 1) := by decide +kernel
theorem dX4_writeRow_48 : decode cX4_writeRow 48 = .ok (.invokevirtual 39, 3) := by decide +kernel
theorem dX4_writeRow_51 : decode cX4_writeRow 51 = .ok (.invokevirtual 23, 3) := by decide +kernel
theorem dX4_writeRow_54 : decode cX4_writeRow 54 = .ok (.iinc 4 1, 3) := by decide +kernel
theorem dX4_writeRow_57 : decode cX4_writeRow 57 = .ok (.goto (-22), 3) := by decide +kernel
theorem dX4_writeRow_60 : decode cX4_writeRow 60 = .ok (.return_, 1) := by decide +kernel
theorem dX4_answer_0 : decode cX4_answer 0 = .ok (.iload_n 1, 1) := by decide +kernel
theorem dX4_answer_1 : decode cX4_answer 1 = .ok (.ifCond .ge 8, 3) := by decide +kernel
theorem dX4_answer_4 : decode cX4_answer 4 = .ok (.aload_n 0, 1) := by decide +kernel
theorem dX4_answer_5 : decode cX4_answer 5 = .ok (.getfield 15, 3) := by decide +kernel
theorem dX4_answer_8 : decode cX4_answer 8 = .ok (.ireturn, 1) := by decide +kernel
theorem dX4_answer_9 : decode cX4_answer 9 = .ok (.iload_n 1, 1) := by decide +kernel
theorem dX4_answer_10 : decode cX4_answer 10 = .ok (.aload_n 0, 1) := by decide +kernel
theorem dX4_answer_11 : decode cX4_answer 11 = .ok (.getfield 15, 3) := by decide +kernel
theorem dX4_answer_14 : decode cX4_answer 14 = .ok (.if_icmp .ge 12, 3) := by decide +kernel
theorem dX4_answer_17 : decode cX4_answer 17 = .ok (.aload_n 0, 1) := by decide +kernel
theorem dX4_answer_18 : decode cX4_answer 18 = .ok (.getfield 9, 3) := by decide +kernel
theorem dX4_answer_21 : decode cX4_answer 21 = .ok (.iload_n 1, 1) := by decide +kernel
theorem dX4_answer_22 : decode cX4_answer 22 = .ok (.iaload, 1) := by decide +kernel
theorem dX4_answer_23 : decode cX4_answer 23 = .ok (.goto 5, 3) := by decide +kernel
theorem dX4_answer_26 : decode cX4_answer 26 = .ok (.bipush (-9), 2) := by decide +kernel
theorem dX4_answer_28 : decode cX4_answer 28 = .ok (.ireturn, 1) := by decide +kernel
theorem dX5_init_0 : decode cX5_init 0 = .ok (.aload_n 0, 1) := by decide +kernel
theorem dX5_init_1 : decode cX5_init 1 = .ok (.invokespecial 3, 3) := by decide +kernel
theorem dX5_init_4 : decode cX5_init 4 = .ok (.aload_n 0, 1) := by decide +kernel
theorem dX5_init_5 : decode cX5_init 5 = .ok (.bipush 16, 2) := by decide +kernel
theorem dX5_init_7 : decode cX5_init 7 = .ok (.newarray .int, 2) := by decide +kernel
theorem dX5_init_9 : decode cX5_init 9 = .ok (.putfield 9, 3) := by decide +kernel
theorem dX5_init_12 : decode cX5_init 12 = .ok (.aload_n 0, 1) := by decide +kernel
theorem dX5_init_13 : decode cX5_init 13 = .ok (.bipush 16, 2) := by decide +kernel
theorem dX5_init_15 : decode cX5_init 15 = .ok (.newarray .int, 2) := by decide +kernel
theorem dX5_init_17 : decode cX5_init 17 = .ok (.putfield 15, 3) := by decide +kernel
theorem dX5_init_20 : decode cX5_init 20 = .ok (.return_, 1) := by decide +kernel
theorem dX5_indexOf_0 : decode cX5_indexOf 0 = .ok (.iconst 0, 1) := by decide +kernel
theorem dX5_indexOf_1 : decode cX5_indexOf 1 = .ok (.istore_n 3, 1) := by decide +kernel
theorem dX5_indexOf_2 : decode cX5_indexOf 2 = .ok (.iload_n 3, 1) := by decide +kernel
theorem dX5_indexOf_3 : decode cX5_indexOf 3 = .ok (.aload_n 0, 1) := by decide +kernel
theorem dX5_indexOf_4 : decode cX5_indexOf 4 = .ok (.getfield 18, 3) := by decide +kernel
theorem dX5_indexOf_7 : decode cX5_indexOf 7 = .ok (.if_icmp .ge 31, 3) := by decide +kernel
theorem dX5_indexOf_10 : decode cX5_indexOf 10 = .ok (.aload_n 0, 1) := by decide +kernel
theorem dX5_indexOf_11 : decode cX5_indexOf 11 = .ok (.getfield 9, 3) := by decide +kernel
theorem dX5_indexOf_14 : decode cX5_indexOf 14 = .ok (.iload_n 3, 1) := by decide +kernel
theorem dX5_indexOf_15 : decode cX5_indexOf 15 = .ok (.iaload, 1) := by decide +kernel
theorem dX5_indexOf_16 : decode cX5_indexOf 16 = .ok (.iload_n 1, 1) := by decide +kernel
theorem dX5_indexOf_17 : decode cX5_indexOf 17 = .ok (.if_icmp .ne 15, 3) := by decide +kernel
theorem dX5_indexOf_20 : decode cX5_indexOf 20 = .ok (.aload_n 0, 1) := by decide +kernel
theorem dX5_indexOf_21 : decode cX5_indexOf 21 = .ok (.getfield 15, 3) := by decide +kernel
theorem dX5_indexOf_24 : decode cX5_indexOf 24 = .ok (.iload_n 3, 1) := by decide +kernel
theorem dX5_indexOf_25 : decode cX5_indexOf 25 = .ok (.iaload, 1) := by decide +kernel
theorem dX5_indexOf_26 : decode cX5_indexOf 26 = .ok (.iload_n 2, 1) := by decide +kernel
theorem dX5_indexOf_27 : decode cX5_indexOf 27 = .ok (.if_icmp .ne 5, 3) := by decide +kernel
theorem dX5_indexOf_30 : decode cX5_indexOf 30 = .ok (.iload_n 3, 1) := by decide +kernel
theorem dX5_indexOf_31 : decode cX5_indexOf 31 = .ok (.ireturn, 1) := by decide +kernel
theorem dX5_indexOf_32 : decode cX5_indexOf 32 = .ok (.iinc 3 1, 3) := by decide +kernel
theorem dX5_indexOf_35 : decode cX5_indexOf 35 = .ok (.goto (-33), 3) := by decide +kernel
theorem dX5_indexOf_38 : decode cX5_indexOf 38 = .ok (.iconst (-1), 1) := by decide +kernel
theorem dX5_indexOf_39 : decode cX5_indexOf 39 = .ok (.ireturn, 1) := by decide +kernel
theorem dX5_add_0 : decode cX5_add 0 = .ok (.aload_n 0, 1) := by decide +kernel
theorem dX5_add_1 : decode cX5_add 1 = .ok (.getfield 18, 3) := by decide +kernel
theorem dX5_add_4 : decode cX5_add 4 = .ok (.bipush 16, 2) := by decide +kernel
theorem dX5_add_6 : decode cX5_add 6 = .ok (.if_icmp .lt 5, 3) := by decide +kernel
theorem dX5_add_9 : decode cX5_add 9 = .ok (.iconst 0, 1) := by decide +kernel
theorem dX5_add_10 : decode cX5_add 10 = .ok (.ireturn, 1) := by decide +kernel
theorem dX5_add_11 : decode cX5_add 11 = .ok (.aload_n 0, 1) := by decide +kernel
theorem dX5_add_12 : decode cX5_add 12 = .ok (.getfield 9, 3) := by decide +kernel
theorem dX5_add_15 : decode cX5_add 15 = .ok (.aload_n 0, 1) := by decide +kernel
theorem dX5_add_16 : decode cX5_add 16 = .ok (.getfield 18, 3) := by decide +kernel
theorem dX5_add_19 : decode cX5_add 19 = .ok (.iload_n 1, 1) := by decide +kernel
theorem dX5_add_20 : decode cX5_add 20 = .ok (.iastore, 1) := by decide +kernel
theorem dX5_add_21 : decode cX5_add 21 = .ok (.aload_n 0, 1) := by decide +kernel
theorem dX5_add_22 : decode cX5_add 22 = .ok (.getfield 15, 3) := by decide +kernel
theorem dX5_add_25 : decode cX5_add 25 = .ok (.aload_n 0, 1) := by decide +kernel
theorem dX5_add_26 : decode cX5_add 26 = .ok (.getfield 18, 3) := by decide +kernel
theorem dX5_add_29 : decode cX5_add 29 = .ok (.iload_n 2, 1) := by decide +kernel
theorem dX5_add_30 : decode cX5_add 30 = .ok (.iastore, 1) := by decide +kernel
theorem dX5_add_31 : decode cX5_add 31 = .ok (.aload_n 0, 1) := by decide +kernel
theorem dX5_add_32 : decode cX5_add 32 = .ok (.dup, 1) := by decide +kernel
theorem dX5_add_33 : decode cX5_add 33 = .ok (.getfield 18, 3) := by decide +kernel
theorem dX5_add_36 : decode cX5_add 36 = .ok (.iconst 1, 1) := by decide +kernel
theorem dX5_add_37 : decode cX5_add 37 = .ok (.iadd, 1) := by decide +kernel
theorem dX5_add_38 : decode cX5_add 38 = .ok (.putfield 18, 3) := by decide +kernel
theorem dX5_add_41 : decode cX5_add 41 = .ok (.iconst 1, 1) := by decide +kernel
theorem dX5_add_42 : decode cX5_add 42 = .ok (.ireturn, 1) := by decide +kernel
theorem dX5_removePair_0 : decode cX5_removePair 0 = .ok (.aload_n 0, 1) := by decide +kernel
theorem dX5_removePair_1 : decode cX5_removePair 1 = .ok (.iload_n 1, 1) := by decide +kernel
theorem dX5_removePair_2 : decode cX5_removePair 2 = .ok (.iload_n 2, 1) := by decide +kernel
theorem dX5_removePair_3 : decode cX5_removePair 3 = .ok (.invokevirtual 22, 3) := by decide +kernel
theorem dX5_removePair_6 : decode cX5_removePair 6 = .ok (.istore_n 3, 1) := by decide +kernel
theorem dX5_removePair_7 : decode cX5_removePair 7 = .ok (.iload_n 3, 1) := by decide +kernel
theorem dX5_removePair_8 : decode cX5_removePair 8 = .ok (.ifCond .ge 5, 3) := by decide +kernel
theorem dX5_removePair_11 : decode cX5_removePair 11 = .ok (.iconst 0, 1) := by decide +kernel
theorem dX5_removePair_12 : decode cX5_removePair 12 = .ok (.ireturn, 1) := by decide +kernel
theorem dX5_removePair_13 : decode cX5_removePair 13 = .ok (.aload_n 0, 1) := by decide +kernel
theorem dX5_removePair_14 : decode cX5_removePair 14 = .ok (.dup, 1) := by decide +kernel
theorem dX5_removePair_15 : decode cX5_removePair 15 = .ok (.getfield 18, 3) := by decide +kernel
theorem dX5_removePair_18 : decode cX5_removePair 18 = .ok (.iconst 1, 1) := by decide +kernel
theorem dX5_removePair_19 : decode cX5_removePair 19 = .ok (.isub, 1) := by decide +kernel
theorem dX5_removePair_20 : decode cX5_removePair 20 = .ok (.putfield 18, 3) := by decide +kernel
theorem dX5_removePair_23 : decode cX5_removePair 23 = .ok (.iload_n 3, 1) := by decide +kernel
theorem dX5_removePair_24 : decode cX5_removePair 24 = .ok (.istore 4, 2) := by decide +kernel
theorem dX5_removePair_26 : decode cX5_removePair 26 = .ok (.iload 4, 2) := by decide +kernel
theorem dX5_removePair_28 : decode cX5_removePair 28 = .ok (.aload_n 0, 1) := by decide +kernel
theorem dX5_removePair_29 : decode cX5_removePair 29 = .ok (.getfield 18, 3) := by decide +kernel
theorem dX5_removePair_32 : decode cX5_removePair 32 = .ok (.if_icmp .ge 41, 3) := by decide +kernel
theorem dX5_removePair_35 : decode cX5_removePair 35 = .ok (.aload_n 0, 1) := by decide +kernel
theorem dX5_removePair_36 : decode cX5_removePair 36 = .ok (.getfield 9, 3) := by decide +kernel
theorem dX5_removePair_39 : decode cX5_removePair 39 = .ok (.iload 4, 2) := by decide +kernel
theorem dX5_removePair_41 : decode cX5_removePair 41 = .ok (.aload_n 0, 1) := by decide +kernel
theorem dX5_removePair_42 : decode cX5_removePair 42 = .ok (.getfield 9, 3) := by decide +kernel
theorem dX5_removePair_45 : decode cX5_removePair 45 = .ok (.iload 4, 2) := by decide +kernel
theorem dX5_removePair_47 : decode cX5_removePair 47 = .ok (.iconst 1, 1) := by decide +kernel
theorem dX5_removePair_48 : decode cX5_removePair 48 = .ok (.iadd, 1) := by decide +kernel
theorem dX5_removePair_49 : decode cX5_removePair 49 = .ok (.iaload, 1) := by decide +kernel
theorem dX5_removePair_50 : decode cX5_removePair 50 = .ok (.iastore, 1) := by decide +kernel
theorem dX5_removePair_51 : decode cX5_removePair 51 = .ok (.aload_n 0, 1) := by decide +kernel
theorem dX5_removePair_52 : decode cX5_removePair 52 = .ok (.getfield 15, 3) := by decide +kernel
theorem dX5_removePair_55 : decode cX5_removePair 55 = .ok (.iload 4, 2) := by decide +kernel
theorem dX5_removePair_57 : decode cX5_removePair 57 = .ok (.aload_n 0, 1) := by decide +kernel
theorem dX5_removePair_58 : decode cX5_removePair 58 = .ok (.getfield 15, 3) := by decide +kernel
theorem dX5_removePair_61 : decode cX5_removePair 61 = .ok (.iload 4, 2) := by decide +kernel
theorem dX5_removePair_63 : decode cX5_removePair 63 = .ok (.iconst 1, 1) := by decide +kernel
theorem dX5_removePair_64 : decode cX5_removePair 64 = .ok (.iadd, 1) := by decide +kernel
theorem dX5_removePair_65 : decode cX5_removePair 65 = .ok (.iaload, 1) := by decide +kernel
theorem dX5_removePair_66 : decode cX5_removePair 66 = .ok (.iastore, 1) := by decide +kernel
theorem dX5_removePair_67 : decode cX5_removePair 67 = .ok (.iinc 4 1, 3) := by decide +kernel
theorem dX5_removePair_70 : decode cX5_removePair 70 = .ok (.goto (-44), 3) := by decide +kernel
theorem dX5_removePair_73 : decode cX5_removePair 73 = .ok (.iconst 1, 1) := by decide +kernel
theorem dX5_removePair_74 : decode cX5_removePair 74 = .ok (.ireturn, 1) := by decide +kernel
theorem dX5_removeLetter_0 : decode cX5_removeLetter 0 = .ok (.iconst 0, 1) := by decide +kernel
theorem dX5_removeLetter_1 : decode cX5_removeLetter 1 = .ok (.istore_n 2, 1) := by decide +kernel
theorem dX5_removeLetter_2 : decode cX5_removeLetter 2 = .ok (.iconst 0, 1) := by decide +kernel
theorem dX5_removeLetter_3 : decode cX5_removeLetter 3 = .ok (.istore_n 3, 1) := by decide +kernel
theorem dX5_removeLetter_4 : decode cX5_removeLetter 4 = .ok (.iload_n 3, 1) := by decide +kernel
theorem dX5_removeLetter_5 : decode cX5_removeLetter 5 = .ok (.aload_n 0, 1) := by decide +kernel
theorem dX5_removeLetter_6 : decode cX5_removeLetter 6 = .ok (.getfield 18, 3) := by decide +kernel
theorem dX5_removeLetter_9 : decode cX5_removeLetter 9 = .ok (.if_icmp .ge 46, 3) := by decide +kernel
theorem dX5_removeLetter_12 : decode cX5_removeLetter 12 = .ok (.aload_n 0, 1) := by decide +kernel
theorem dX5_removeLetter_13 : decode cX5_removeLetter 13 = .ok (.getfield 9, 3) := by decide +kernel
theorem dX5_removeLetter_16 : decode cX5_removeLetter 16 = .ok (.iload_n 3, 1) := by decide +kernel
theorem dX5_removeLetter_17 : decode cX5_removeLetter 17 = .ok (.iaload, 1) := by decide +kernel
theorem dX5_removeLetter_18 : decode cX5_removeLetter 18 = .ok (.iload_n 1, 1) := by decide +kernel
theorem dX5_removeLetter_19 : decode cX5_removeLetter 19 = .ok (.if_icmp .eq 30, 3) := by decide +kernel
theorem dX5_removeLetter_22 : decode cX5_removeLetter 22 = .ok (.aload_n 0, 1) := by decide +kernel
theorem dX5_removeLetter_23 : decode cX5_removeLetter 23 = .ok (.getfield 9, 3) := by decide +kernel
theorem dX5_removeLetter_26 : decode cX5_removeLetter 26 = .ok (.iload_n 2, 1) := by decide +kernel
theorem dX5_removeLetter_27 : decode cX5_removeLetter 27 = .ok (.aload_n 0, 1) := by decide +kernel
theorem dX5_removeLetter_28 : decode cX5_removeLetter 28 = .ok (.getfield 9, 3) := by decide +kernel
theorem dX5_removeLetter_31 : decode cX5_removeLetter 31 = .ok (.iload_n 3, 1) := by decide +kernel
theorem dX5_removeLetter_32 : decode cX5_removeLetter 32 = .ok (.iaload, 1) := by decide +kernel
theorem dX5_removeLetter_33 : decode cX5_removeLetter 33 = .ok (.iastore, 1) := by decide +kernel
theorem dX5_removeLetter_34 : decode cX5_removeLetter 34 = .ok (.aload_n 0, 1) := by decide +kernel
theorem dX5_removeLetter_35 : decode cX5_removeLetter 35 = .ok (.getfield 15, 3) := by decide +kernel
theorem dX5_removeLetter_38 : decode cX5_removeLetter 38 = .ok (.iload_n 2, 1) := by decide +kernel
theorem dX5_removeLetter_39 : decode cX5_removeLetter 39 = .ok (.aload_n 0, 1) := by decide +kernel
theorem dX5_removeLetter_40 : decode cX5_removeLetter 40 = .ok (.getfield 15, 3) := by decide +kernel
theorem dX5_removeLetter_43 : decode cX5_removeLetter 43 = .ok (.iload_n 3, 1) := by decide +kernel
theorem dX5_removeLetter_44 : decode cX5_removeLetter 44 = .ok (.iaload, 1) := by decide +kernel
theorem dX5_removeLetter_45 : decode cX5_removeLetter 45 = .ok (.iastore, 1) := by decide +kernel
theorem dX5_removeLetter_46 : decode cX5_removeLetter 46 = .ok (.iinc 2 1, 3) := by decide +kernel
theorem dX5_removeLetter_49 : decode cX5_removeLetter 49 = .ok (.iinc 3 1, 3) := by decide +kernel
theorem dX5_removeLetter_52 : decode cX5_removeLetter 52 = .ok (.goto (-48), 3) := by decide +kernel
theorem dX5_removeLetter_55 : decode cX5_removeLetter 55 = .ok (.aload_n 0, 1) := by decide +kernel
theorem dX5_removeLetter_56 : decode cX5_removeLetter 56 = .ok (.getfield 18, 3) := by decide +kernel
theorem dX5_removeLetter_59 : decode cX5_removeLetter 59 = .ok (.iload_n 2, 1) := by decide +kernel
theorem dX5_removeLetter_60 : decode cX5_removeLetter 60 = .ok (.isub, 1) := by decide +kernel
theorem dX5_removeLetter_61 : decode cX5_removeLetter 61 = .ok (.istore_n 3, 1) := by decide +kernel
theorem dX5_removeLetter_62 : decode cX5_removeLetter 62 = .ok (.aload_n 0, 1) := by decide +kernel
theorem dX5_removeLetter_63 : decode cX5_removeLetter 63 = .ok (.iload_n 2, 1) := by decide +kernel
theorem dX5_removeLetter_64 : decode cX5_removeLetter 64 = .ok (.putfield 18, 3) := by decide +kernel
theorem dX5_removeLetter_67 : decode cX5_removeLetter 67 = .ok (.iload_n 3, 1) := by decide +kernel
theorem dX5_removeLetter_68 : decode cX5_removeLetter 68 = .ok (.ireturn, 1) := by decide +kernel
theorem dX6_init_0 : decode cX6_init 0 = .ok (.aload_n 0, 1) := by decide +kernel
theorem dX6_init_1 : decode cX6_init 1 = .ok (.invokespecial 3, 3) := by decide +kernel
theorem dX6_init_4 : decode cX6_init 4 = .ok (.aload_n 0, 1) := by decide +kernel
theorem dX6_init_5 : decode cX6_init 5 = .ok (.bipush 10, 2) := by decide +kernel
theorem dX6_init_7 : decode cX6_init 7 = .ok (.newarray .int, 2) := by decide +kernel
theorem dX6_init_9 : decode cX6_init 9 = .ok (.putfield 9, 3) := by decide +kernel
theorem dX6_init_12 : decode cX6_init 12 = .ok (.aload_n 0, 1) := by decide +kernel
theorem dX6_init_13 : decode cX6_init 13 = .ok (.bipush 8, 2) := by decide +kernel
theorem dX6_init_15 : decode cX6_init 15 = .ok (.newarray .int, 2) := by decide +kernel
theorem dX6_init_17 : decode cX6_init 17 = .ok (.putfield 15, 3) := by decide +kernel
theorem dX6_init_20 : decode cX6_init 20 = .ok (.aload_n 0, 1) := by decide +kernel
theorem dX6_init_21 : decode cX6_init 21 = .ok (.new 18, 3) := by decide +kernel
theorem dX6_init_24 : decode cX6_init 24 = .ok (.dup, 1) := by decide +kernel
theorem dX6_init_25 : decode cX6_init 25 = .ok (.invokespecial 20, 3) := by decide +kernel
theorem dX6_init_28 : decode cX6_init 28 = .ok (.putfield 21, 3) := by decide +kernel
theorem dX6_init_31 : decode cX6_init 31 = .ok (.aload_n 0, 1) := by decide +kernel
theorem dX6_init_32 : decode cX6_init 32 = .ok (.sipush 255, 3) := by decide +kernel
theorem dX6_init_35 : decode cX6_init 35 = .ok (.putfield 25, 3) := by decide +kernel
theorem dX6_init_38 : decode cX6_init 38 = .ok (.aload_n 0, 1) := by decide +kernel
theorem dX6_init_39 : decode cX6_init 39 = .ok (.iconst 4, 1) := by decide +kernel
theorem dX6_init_40 : decode cX6_init 40 = .ok (.putfield 29, 3) := by decide +kernel
theorem dX6_init_43 : decode cX6_init 43 = .ok (.return_, 1) := by decide +kernel
theorem dX6_isThere_0 : decode cX6_isThere 0 = .ok (.iload_n 1, 1) := by decide +kernel
theorem dX6_isThere_1 : decode cX6_isThere 1 = .ok (.ifCond .lt 25, 3) := by decide +kernel
theorem dX6_isThere_4 : decode cX6_isThere 4 = .ok (.iload_n 1, 1) := by decide +kernel
theorem dX6_isThere_5 : decode cX6_isThere 5 = .ok (.bipush 10, 2) := by decide +kernel
theorem dX6_isThere_7 : decode cX6_isThere 7 = .ok (.if_icmp .ge 19, 3) := by decide +kernel
theorem dX6_isThere_10 : decode cX6_isThere 10 = .ok (.aload_n 0, 1) := by decide +kernel
theorem dX6_isThere_11 : decode cX6_isThere 11 = .ok (.getfield 32, 3) := by decide +kernel
theorem dX6_isThere_14 : decode cX6_isThere 14 = .ok (.iload_n 1, 1) := by decide +kernel
theorem dX6_isThere_15 : decode cX6_isThere 15 = .ok (.ishr, 1) := by decide +kernel
theorem dX6_isThere_16 : decode cX6_isThere 16 = .ok (.iconst 1, 1) := by decide +kernel
theorem dX6_isThere_17 : decode cX6_isThere 17 = .ok (.iand, 1) := by decide +kernel
theorem dX6_isThere_18 : decode cX6_isThere 18 = .ok (.iconst 1, 1) := by decide +kernel
theorem dX6_isThere_19 : decode cX6_isThere 19 = .ok (.if_icmp .ne 7, 3) := by decide +kernel
theorem dX6_isThere_22 : decode cX6_isThere 22 = .ok (.iconst 1, 1) := by decide +kernel
theorem dX6_isThere_23 : decode cX6_isThere 23 = .ok (.goto 4, 3) := by decide +kernel
theorem dX6_isThere_26 : decode cX6_isThere 26 = .ok (.iconst 0, 1) := by decide +kernel
theorem dX6_isThere_27 : decode cX6_isThere 27 = .ok (.ireturn, 1) := by decide +kernel
theorem dX6_putLetter_0 : decode cX6_putLetter 0 = .ok (.aload_n 0, 1) := by decide +kernel
theorem dX6_putLetter_1 : decode cX6_putLetter 1 = .ok (.iload_n 1, 1) := by decide +kernel
theorem dX6_putLetter_2 : decode cX6_putLetter 2 = .ok (.invokevirtual 35, 3) := by decide +kernel
theorem dX6_putLetter_5 : decode cX6_putLetter 5 = .ok (.istore_n 3, 1) := by decide +kernel
theorem dX6_putLetter_6 : decode cX6_putLetter 6 = .ok (.aload_n 0, 1) := by decide +kernel
theorem dX6_putLetter_7 : decode cX6_putLetter 7 = .ok (.dup, 1) := by decide +kernel
theorem dX6_putLetter_8 : decode cX6_putLetter 8 = .ok (.getfield 32, 3) := by decide +kernel
theorem dX6_putLetter_11 : decode cX6_putLetter 11 = .ok (.iconst 1, 1) := by decide +kernel
theorem dX6_putLetter_12 : decode cX6_putLetter 12 = .ok (.iload_n 1, 1) := by decide +kernel
theorem dX6_putLetter_13 : decode cX6_putLetter 13 = .ok (.ishl, 1) := by decide +kernel
theorem dX6_putLetter_14 : decode cX6_putLetter 14 = .ok (.ior, 1) := by decide +kernel
theorem dX6_putLetter_15 : decode cX6_putLetter 15 = .ok (.putfield 32, 3) := by decide +kernel
theorem dX6_putLetter_18 : decode cX6_putLetter 18 = .ok (.aload_n 0, 1) := by decide +kernel
theorem dX6_putLetter_19 : decode cX6_putLetter 19 = .ok (.getfield 9, 3) := by decide +kernel
theorem dX6_putLetter_22 : decode cX6_putLetter 22 = .ok (.iload_n 1, 1) := by decide +kernel
theorem dX6_putLetter_23 : decode cX6_putLetter 23 = .ok (.iload_n 2, 1) := by decide +kernel
theorem dX6_putLetter_24 : decode cX6_putLetter 24 = .ok (.iastore, 1) := by decide +kernel
theorem dX6_putLetter_25 : decode cX6_putLetter 25 = .ok (.iload_n 3, 1) := by decide +kernel
theorem dX6_putLetter_26 : decode cX6_putLetter 26 = .ok (.ireturn, 1) := by decide +kernel
theorem dX6_takeLetter_0 : decode cX6_takeLetter 0 = .ok (.aload_n 0, 1) := by decide +kernel
theorem dX6_takeLetter_1 : decode cX6_takeLetter 1 = .ok (.dup, 1) := by decide +kernel
theorem dX6_takeLetter_2 : decode cX6_takeLetter 2 = .ok (.getfield 32, 3) := by decide +kernel
theorem dX6_takeLetter_5 : decode cX6_takeLetter 5 = .ok (.iconst 1, 1) := by decide +kernel
theorem dX6_takeLetter_6 : decode cX6_takeLetter 6 = .ok (.iload_n 1, 1) := by decide +kernel
theorem dX6_takeLetter_7 : decode cX6_takeLetter 7 = .ok (.ishl, 1) := by decide +kernel
theorem dX6_takeLetter_8 : decode cX6_takeLetter 8 = .ok (.iconst (-1), 1) := by decide +kernel
theorem dX6_takeLetter_9 : decode cX6_takeLetter 9 = .ok (.ixor, 1) := by decide +kernel
theorem dX6_takeLetter_10 : decode cX6_takeLetter 10 = .ok (.iand, 1) := by decide +kernel
theorem dX6_takeLetter_11 : decode cX6_takeLetter 11 = .ok (.putfield 32, 3) := by decide +kernel
theorem dX6_takeLetter_14 : decode cX6_takeLetter 14 = .ok (.iconst 0, 1) := by decide +kernel
end
section
theorem dX6_takeLetter_15 : decode cX6_takeLetter 15 = .ok (.istore_n 2, 1) := by decide +kernel
theorem dX6_takeLetter_16 : decode cX6_takeLetter 16 = .ok (.iload_n 2, 1) := by decide +kernel
theorem dX6_takeLetter_17 : decode cX6_takeLetter 17 = .ok (.bipush 8, 2) := by decide +kernel
theorem dX6_takeLetter_19 : decode cX6_takeLetter 19 = .ok (.if_icmp .ge 15, 3) := by decide +kernel
theorem dX6_takeLetter_22 : decode cX6_takeLetter 22 = .ok (.aload_n 0, 1) := by decide +kernel
theorem dX6_takeLetter_23 : decode cX6_takeLetter 23 = .ok (.iload_n 2, 1) := by decide +kernel
theorem dX6_takeLetter_24 : decode cX6_takeLetter 24 = .ok (.iload_n 1, 1) := by decide +kernel
theorem dX6_takeLetter_25 : decode cX6_takeLetter 25 = .ok (.invokevirtual 39, 3) := by decide +kernel
theorem dX6_takeLetter_28 : decode cX6_takeLetter 28 = .ok (.iinc 2 1, 3) := by decide +kernel
theorem dX6_takeLetter_31 : decode cX6_takeLetter 31 = .ok (.goto (-15), 3) := by decide +kernel
theorem dX6_takeLetter_34 : decode cX6_takeLetter 34 = .ok (.aload_n 0, 1) := by decide +kernel
theorem dX6_takeLetter_35 : decode cX6_takeLetter 35 = .ok (.getfield 21, 3) := by decide +kernel
theorem dX6_takeLetter_38 : decode cX6_takeLetter 38 = .ok (.iload_n 1, 1) := by decide +kernel
theorem dX6_takeLetter_39 : decode cX6_takeLetter 39 = .ok (.invokevirtual 43, 3) := by decide +kernel
theorem dX6_takeLetter_42 : decode cX6_takeLetter 42 = .ok (.ireturn, 1) := by decide +kernel
theorem dX6_holds_0 : decode cX6_holds 0 = .ok (.aload_n 0, 1) := by decide +kernel
theorem dX6_holds_1 : decode cX6_holds 1 = .ok (.getfield 15, 3) := by decide +kernel
theorem dX6_holds_4 : decode cX6_holds 4 = .ok (.iload_n 1, 1) := by decide +kernel
theorem dX6_holds_5 : decode cX6_holds 5 = .ok (.iaload, 1) := by decide +kernel
theorem dX6_holds_6 : decode cX6_holds 6 = .ok (.iload_n 2, 1) := by decide +kernel
theorem dX6_holds_7 : decode cX6_holds 7 = .ok (.ishr, 1) := by decide +kernel
theorem dX6_holds_8 : decode cX6_holds 8 = .ok (.iconst 1, 1) := by decide +kernel
theorem dX6_holds_9 : decode cX6_holds 9 = .ok (.iand, 1) := by decide +kernel
theorem dX6_holds_10 : decode cX6_holds 10 = .ok (.iconst 1, 1) := by decide +kernel
theorem dX6_holds_11 : decode cX6_holds 11 = .ok (.if_icmp .ne 7, 3) := by decide +kernel
theorem dX6_holds_14 : decode cX6_holds 14 = .ok (.iconst 1, 1) := by decide +kernel
theorem dX6_holds_15 : decode cX6_holds 15 = .ok (.goto 4, 3) := by decide +kernel
theorem dX6_holds_18 : decode cX6_holds 18 = .ok (.iconst 0, 1) := by decide +kernel
theorem dX6_holds_19 : decode cX6_holds 19 = .ok (.ireturn, 1) := by decide +kernel
theorem dX6_give_0 : decode cX6_give 0 = .ok (.aload_n 0, 1) := by decide +kernel
theorem dX6_give_1 : decode cX6_give 1 = .ok (.getfield 15, 3) := by decide +kernel
theorem dX6_give_4 : decode cX6_give 4 = .ok (.iload_n 1, 1) := by decide +kernel
theorem dX6_give_5 : decode cX6_give 5 = .ok (.dup2, 1) := by decide +kernel
theorem dX6_give_6 : decode cX6_give 6 = .ok (.iaload, 1) := by decide +kernel
theorem dX6_give_7 : decode cX6_give 7 = .ok (.iconst 1, 1) := by decide +kernel
theorem dX6_give_8 : decode cX6_give 8 = .ok (.iload_n 2, 1) := by decide +kernel
theorem dX6_give_9 : decode cX6_give 9 = .ok (.ishl, 1) := by decide +kernel
theorem dX6_give_10 : decode cX6_give 10 = .ok (.ior, 1) := by decide +kernel
theorem dX6_give_11 : decode cX6_give 11 = .ok (.iastore, 1) := by decide +kernel
theorem dX6_give_12 : decode cX6_give 12 = .ok (.aload_n 0, 1) := by decide +kernel
theorem dX6_give_13 : decode cX6_give 13 = .ok (.getfield 21, 3) := by decide +kernel
theorem dX6_give_16 : decode cX6_give 16 = .ok (.iload_n 2, 1) := by decide +kernel
theorem dX6_give_17 : decode cX6_give 17 = .ok (.iload_n 1, 1) := by decide +kernel
theorem dX6_give_18 : decode cX6_give 18 = .ok (.invokevirtual 47, 3) := by decide +kernel
theorem dX6_give_21 : decode cX6_give 21 = .ok (.ireturn, 1) := by decide +kernel
theorem dX6_takeFrom_0 : decode cX6_takeFrom 0 = .ok (.aload_n 0, 1) := by decide +kernel
theorem dX6_takeFrom_1 : decode cX6_takeFrom 1 = .ok (.getfield 15, 3) := by decide +kernel
theorem dX6_takeFrom_4 : decode cX6_takeFrom 4 = .ok (.iload_n 1, 1) := by decide +kernel
theorem dX6_takeFrom_5 : decode cX6_takeFrom 5 = .ok (.dup2, 1) := by decide +kernel
theorem dX6_takeFrom_6 : decode cX6_takeFrom 6 = .ok (.iaload, 1) := by decide +kernel
theorem dX6_takeFrom_7 : decode cX6_takeFrom 7 = .ok (.iconst 1, 1) := by decide +kernel
theorem dX6_takeFrom_8 : decode cX6_takeFrom 8 = .ok (.iload_n 2, 1) := by decide +kernel
theorem dX6_takeFrom_9 : decode cX6_takeFrom 9 = .ok (.ishl, 1) := by decide +kernel
theorem dX6_takeFrom_10 : decode cX6_takeFrom 10 = .ok (.iconst (-1), 1) := by decide +kernel
theorem dX6_takeFrom_11 : decode cX6_takeFrom 11 = .ok (.ixor, 1) := by decide +kernel
theorem dX6_takeFrom_12 : decode cX6_takeFrom 12 = .ok (.iand, 1) := by decide +kernel
theorem dX6_takeFrom_13 : decode cX6_takeFrom 13 = .ok (.iastore, 1) := by decide +kernel
theorem dX6_takeFrom_14 : decode cX6_takeFrom 14 = .ok (.return_, 1) := by decide +kernel
theorem dX6_clear_0 : decode cX6_clear 0 = .ok (.aload_n 0, 1) := by decide +kernel
theorem dX6_clear_1 : decode cX6_clear 1 = .ok (.iconst 0, 1) := by decide +kernel
theorem dX6_clear_2 : decode cX6_clear 2 = .ok (.putfield 32, 3) := by decide +kernel
theorem dX6_clear_5 : decode cX6_clear 5 = .ok (.iconst 0, 1) := by decide +kernel
theorem dX6_clear_6 : decode cX6_clear 6 = .ok (.istore_n 1, 1) := by decide +kernel
theorem dX6_clear_7 : decode cX6_clear 7 = .ok (.iload_n 1, 1) := by decide +kernel
theorem dX6_clear_8 : decode cX6_clear 8 = .ok (.bipush 8, 2) := by decide +kernel
theorem dX6_clear_10 : decode cX6_clear 10 = .ok (.if_icmp .ge 16, 3) := by decide +kernel
theorem dX6_clear_13 : decode cX6_clear 13 = .ok (.aload_n 0, 1) := by decide +kernel
theorem dX6_clear_14 : decode cX6_clear 14 = .ok (.getfield 15, 3) := by decide +kernel
theorem dX6_clear_17 : decode cX6_clear 17 = .ok (.iload_n 1, 1) := by decide +kernel
theorem dX6_clear_18 : decode cX6_clear 18 = .ok (.iconst 0, 1) := by decide +kernel
theorem dX6_clear_19 : decode cX6_clear 19 = .ok (.iastore, 1) := by decide +kernel
theorem dX6_clear_20 : decode cX6_clear 20 = .ok (.iinc 1 1, 3) := by decide +kernel
theorem dX6_clear_23 : decode cX6_clear 23 = .ok (.goto (-16), 3) := by decide +kernel
theorem dX6_clear_26 : decode cX6_clear 26 = .ok (.aload_n 0, 1) := by decide +kernel
theorem dX6_clear_27 : decode cX6_clear 27 = .ok (.getfield 21, 3) := by decide +kernel
theorem dX6_clear_30 : decode cX6_clear 30 = .ok (.iconst 0, 1) := by decide +kernel
theorem dX6_clear_31 : decode cX6_clear 31 = .ok (.putfield 51, 3) := by decide +kernel
theorem dX6_clear_34 : decode cX6_clear 34 = .ok (.aload_n 0, 1) := by decide +kernel
theorem dX6_clear_35 : decode cX6_clear 35 = .ok (.iconst 0, 1) := by decide +kernel
theorem dX6_clear_36 : decode cX6_clear 36 = .ok (.putfield 54, 3) := by decide +kernel
theorem dX6_clear_39 : decode cX6_clear 39 = .ok (.aload_n 0, 1) := by decide +kernel
theorem dX6_clear_40 : decode cX6_clear 40 = .ok (.iconst 0, 1) := by decide +kernel
theorem dX6_clear_41 : decode cX6_clear 41 = .ok (.putfield 57, 3) := by decide +kernel
theorem dX6_clear_44 : decode cX6_clear 44 = .ok (.return_, 1) := by decide +kernel
theorem dX6_isSum_0 : decode cX6_isSum 0 = .ok (.iload_n 1, 1) := by decide +kernel
theorem dX6_isSum_1 : decode cX6_isSum 1 = .ok (.ifCond .le 18, 3) := by decide +kernel
theorem dX6_isSum_4 : decode cX6_isSum 4 = .ok (.iload_n 1, 1) := by decide +kernel
theorem dX6_isSum_5 : decode cX6_isSum 5 = .ok (.aload_n 0, 1) := by decide +kernel
theorem dX6_isSum_6 : decode cX6_isSum 6 = .ok (.getfield 32, 3) := by decide +kernel
theorem dX6_isSum_9 : decode cX6_isSum 9 = .ok (.iconst (-1), 1) := by decide +kernel
theorem dX6_isSum_10 : decode cX6_isSum 10 = .ok (.ixor, 1) := by decide +kernel
theorem dX6_isSum_11 : decode cX6_isSum 11 = .ok (.iand, 1) := by decide +kernel
theorem dX6_isSum_12 : decode cX6_isSum 12 = .ok (.ifCond .ne 7, 3) := by decide +kernel
theorem dX6_isSum_15 : decode cX6_isSum 15 = .ok (.iconst 1, 1) := by decide +kernel
theorem dX6_isSum_16 : decode cX6_isSum 16 = .ok (.goto 4, 3) := by decide +kernel
theorem dX6_isSum_19 : decode cX6_isSum 19 = .ok (.iconst 0, 1) := by decide +kernel
theorem dX6_isSum_20 : decode cX6_isSum 20 = .ok (.ireturn, 1) := by decide +kernel
theorem dX6_isOnAir_0 : decode cX6_isOnAir 0 = .ok (.aload_n 0, 1) := by decide +kernel
theorem dX6_isOnAir_1 : decode cX6_isOnAir 1 = .ok (.getfield 25, 3) := by decide +kernel
theorem dX6_isOnAir_4 : decode cX6_isOnAir 4 = .ok (.iload_n 1, 1) := by decide +kernel
theorem dX6_isOnAir_5 : decode cX6_isOnAir 5 = .ok (.ishr, 1) := by decide +kernel
theorem dX6_isOnAir_6 : decode cX6_isOnAir 6 = .ok (.iconst 1, 1) := by decide +kernel
theorem dX6_isOnAir_7 : decode cX6_isOnAir 7 = .ok (.iand, 1) := by decide +kernel
theorem dX6_isOnAir_8 : decode cX6_isOnAir 8 = .ok (.iconst 1, 1) := by decide +kernel
theorem dX6_isOnAir_9 : decode cX6_isOnAir 9 = .ok (.if_icmp .ne 7, 3) := by decide +kernel
theorem dX6_isOnAir_12 : decode cX6_isOnAir 12 = .ok (.iconst 1, 1) := by decide +kernel
theorem dX6_isOnAir_13 : decode cX6_isOnAir 13 = .ok (.goto 4, 3) := by decide +kernel
theorem dX6_isOnAir_16 : decode cX6_isOnAir 16 = .ok (.iconst 0, 1) := by decide +kernel
theorem dX6_isOnAir_17 : decode cX6_isOnAir 17 = .ok (.ireturn, 1) := by decide +kernel
theorem dX6_bodyOf_0 : decode cX6_bodyOf 0 = .ok (.iconst 0, 1) := by decide +kernel
theorem dX6_bodyOf_1 : decode cX6_bodyOf 1 = .ok (.istore_n 2, 1) := by decide +kernel
theorem dX6_bodyOf_2 : decode cX6_bodyOf 2 = .ok (.iconst 0, 1) := by decide +kernel
theorem dX6_bodyOf_3 : decode cX6_bodyOf 3 = .ok (.istore_n 3, 1) := by decide +kernel
theorem dX6_bodyOf_4 : decode cX6_bodyOf 4 = .ok (.iload_n 3, 1) := by decide +kernel
theorem dX6_bodyOf_5 : decode cX6_bodyOf 5 = .ok (.bipush 10, 2) := by decide +kernel
theorem dX6_bodyOf_7 : decode cX6_bodyOf 7 = .ok (.if_icmp .ge 27, 3) := by decide +kernel
theorem dX6_bodyOf_10 : decode cX6_bodyOf 10 = .ok (.iload_n 1, 1) := by decide +kernel
theorem dX6_bodyOf_11 : decode cX6_bodyOf 11 = .ok (.iload_n 3, 1) := by decide +kernel
theorem dX6_bodyOf_12 : decode cX6_bodyOf 12 = .ok (.ishr, 1) := by decide +kernel
theorem dX6_bodyOf_13 : decode cX6_bodyOf 13 = .ok (.iconst 1, 1) := by decide +kernel
theorem dX6_bodyOf_14 : decode cX6_bodyOf 14 = .ok (.iand, 1) := by decide +kernel
theorem dX6_bodyOf_15 : decode cX6_bodyOf 15 = .ok (.iconst 1, 1) := by decide +kernel
theorem dX6_bodyOf_16 : decode cX6_bodyOf 16 = .ok (.if_icmp .ne 12, 3) := by decide +kernel
theorem dX6_bodyOf_19 : decode cX6_bodyOf 19 = .ok (.iload_n 2, 1) := by decide +kernel
theorem dX6_bodyOf_20 : decode cX6_bodyOf 20 = .ok (.aload_n 0, 1) := by decide +kernel
theorem dX6_bodyOf_21 : decode cX6_bodyOf 21 = .ok (.getfield 9, 3) := by decide +kernel
theorem dX6_bodyOf_24 : decode cX6_bodyOf 24 = .ok (.iload_n 3, 1) := by decide +kernel
theorem dX6_bodyOf_25 : decode cX6_bodyOf 25 = .ok (.iaload, 1) := by decide +kernel
theorem dX6_bodyOf_26 : decode cX6_bodyOf 26 = .ok (.ixor, 1) := by decide +kernel
theorem dX6_bodyOf_27 : decode cX6_bodyOf 27 = .ok (.istore_n 2, 1) := by decide +kernel
theorem dX6_bodyOf_28 : decode cX6_bodyOf 28 = .ok (.iinc 3 1, 3) := by decide +kernel
theorem dX6_bodyOf_31 : decode cX6_bodyOf 31 = .ok (.goto (-27), 3) := by decide +kernel
theorem dX6_bodyOf_34 : decode cX6_bodyOf 34 = .ok (.iload_n 2, 1) := by decide +kernel
theorem dX6_bodyOf_35 : decode cX6_bodyOf 35 = .ok (.ireturn, 1) := by decide +kernel
theorem dX6_readBy_0 : decode cX6_readBy 0 = .ok (.iload_n 2, 1) := by decide +kernel
theorem dX6_readBy_1 : decode cX6_readBy 1 = .ok (.aload_n 0, 1) := by decide +kernel
theorem dX6_readBy_2 : decode cX6_readBy 2 = .ok (.getfield 15, 3) := by decide +kernel
theorem dX6_readBy_5 : decode cX6_readBy 5 = .ok (.iload_n 1, 1) := by decide +kernel
theorem dX6_readBy_6 : decode cX6_readBy 6 = .ok (.iaload, 1) := by decide +kernel
theorem dX6_readBy_7 : decode cX6_readBy 7 = .ok (.iconst (-1), 1) := by decide +kernel
theorem dX6_readBy_8 : decode cX6_readBy 8 = .ok (.ixor, 1) := by decide +kernel
theorem dX6_readBy_9 : decode cX6_readBy 9 = .ok (.iand, 1) := by decide +kernel
theorem dX6_readBy_10 : decode cX6_readBy 10 = .ok (.istore_n 3, 1) := by decide +kernel
theorem dX6_readBy_11 : decode cX6_readBy 11 = .ok (.iload_n 3, 1) := by decide +kernel
theorem dX6_readBy_12 : decode cX6_readBy 12 = .ok (.invokestatic 60, 3) := by decide +kernel
theorem dX6_readBy_15 : decode cX6_readBy 15 = .ok (.iconst 1, 1) := by decide +kernel
theorem dX6_readBy_16 : decode cX6_readBy 16 = .ok (.if_icmp .ne 12, 3) := by decide +kernel
theorem dX6_readBy_19 : decode cX6_readBy 19 = .ok (.iload_n 3, 1) := by decide +kernel
theorem dX6_readBy_20 : decode cX6_readBy 20 = .ok (.iconst 1, 1) := by decide +kernel
theorem dX6_readBy_21 : decode cX6_readBy 21 = .ok (.isub, 1) := by decide +kernel
theorem dX6_readBy_22 : decode cX6_readBy 22 = .ok (.invokestatic 60, 3) := by decide +kernel
theorem dX6_readBy_25 : decode cX6_readBy 25 = .ok (.goto 5, 3) := by decide +kernel
theorem dX6_readBy_28 : decode cX6_readBy 28 = .ok (.bipush (-9), 2) := by decide +kernel
theorem dX6_readBy_30 : decode cX6_readBy 30 = .ok (.ireturn, 1) := by decide +kernel
theorem dX6_openers_0 : decode cX6_openers 0 = .ok (.iconst 0, 1) := by decide +kernel
theorem dX6_openers_1 : decode cX6_openers 1 = .ok (.istore_n 2, 1) := by decide +kernel
theorem dX6_openers_2 : decode cX6_openers 2 = .ok (.iconst 0, 1) := by decide +kernel
theorem dX6_openers_3 : decode cX6_openers 3 = .ok (.istore_n 3, 1) := by decide +kernel
theorem dX6_openers_4 : decode cX6_openers 4 = .ok (.iload_n 3, 1) := by decide +kernel
theorem dX6_openers_5 : decode cX6_openers 5 = .ok (.bipush 8, 2) := by decide +kernel
theorem dX6_openers_7 : decode cX6_openers 7 = .ok (.if_icmp .ge 34, 3) := by decide +kernel
theorem dX6_openers_10 : decode cX6_openers 10 = .ok (.aload_n 0, 1) := by decide +kernel
theorem dX6_openers_11 : decode cX6_openers 11 = .ok (.iload_n 3, 1) := by decide +kernel
theorem dX6_openers_12 : decode cX6_openers 12 = .ok (.invokevirtual 65, 3) := by decide +kernel
theorem dX6_openers_15 : decode cX6_openers 15 = .ok (.ifCond .eq 20, 3) := by decide +kernel
theorem dX6_openers_18 : decode cX6_openers 18 = .ok (.aload_n 0, 1) := by decide +kernel
theorem dX6_openers_19 : decode cX6_openers 19 = .ok (.iload_n 3, 1) := by decide +kernel
theorem dX6_openers_20 : decode cX6_openers 20 = .ok (.iload_n 1, 1) := by decide +kernel
theorem dX6_openers_21 : decode cX6_openers 21 = .ok (.invokevirtual 68, 3) := by decide +kernel
theorem dX6_openers_24 : decode cX6_openers 24 = .ok (.bipush (-9), 2) := by decide +kernel
theorem dX6_openers_26 : decode cX6_openers 26 = .ok (.if_icmp .eq 9, 3) := by decide +kernel
theorem dX6_openers_29 : decode cX6_openers 29 = .ok (.iload_n 2, 1) := by decide +kernel
theorem dX6_openers_30 : decode cX6_openers 30 = .ok (.iconst 1, 1) := by decide +kernel
theorem dX6_openers_31 : decode cX6_openers 31 = .ok (.iload_n 3, 1) := by decide +kernel
theorem dX6_openers_32 : decode cX6_openers 32 = .ok (.ishl, 1) := by decide +kernel
theorem dX6_openers_33 : decode cX6_openers 33 = .ok (.ior, 1) := by decide +kernel
theorem dX6_openers_34 : decode cX6_openers 34 = .ok (.istore_n 2, 1) := by decide +kernel
theorem dX6_openers_35 : decode cX6_openers 35 = .ok (.iinc 3 1, 3) := by decide +kernel
theorem dX6_openers_38 : decode cX6_openers 38 = .ok (.goto (-34), 3) := by decide +kernel
theorem dX6_openers_41 : decode cX6_openers 41 = .ok (.iload_n 2, 1) := by decide +kernel
theorem dX6_openers_42 : decode cX6_openers 42 = .ok (.ireturn, 1) := by decide +kernel
theorem dX6_countServed_0 : decode cX6_countServed 0 = .ok (.iconst 0, 1) := by decide +kernel
theorem dX6_countServed_1 : decode cX6_countServed 1 = .ok (.istore_n 2, 1) := by decide +kernel
theorem dX6_countServed_2 : decode cX6_countServed 2 = .ok (.iconst 0, 1) := by decide +kernel
theorem dX6_countServed_3 : decode cX6_countServed 3 = .ok (.istore_n 3, 1) := by decide +kernel
theorem dX6_countServed_4 : decode cX6_countServed 4 = .ok (.iload_n 3, 1) := by decide +kernel
theorem dX6_countServed_5 : decode cX6_countServed 5 = .ok (.aload_n 0, 1) := by decide +kernel
theorem dX6_countServed_6 : decode cX6_countServed 6 = .ok (.getfield 21, 3) := by decide +kernel
theorem dX6_countServed_9 : decode cX6_countServed 9 = .ok (.getfield 51, 3) := by decide +kernel
theorem dX6_countServed_12 : decode cX6_countServed 12 = .ok (.if_icmp .ge 51, 3) := by decide +kernel
theorem dX6_countServed_15 : decode cX6_countServed 15 = .ok (.aload_n 0, 1) := by decide +kernel
theorem dX6_countServed_16 : decode cX6_countServed 16 = .ok (.getfield 21, 3) := by decide +kernel
theorem dX6_countServed_19 : decode cX6_countServed 19 = .ok (.getfield 72, 3) := by decide +kernel
theorem dX6_countServed_22 : decode cX6_countServed 22 = .ok (.iload_n 3, 1) := by decide +kernel
theorem dX6_countServed_23 : decode cX6_countServed 23 = .ok (.iaload, 1) := by decide +kernel
theorem dX6_countServed_24 : decode cX6_countServed 24 = .ok (.istore 4, 2) := by decide +kernel
theorem dX6_countServed_26 : decode cX6_countServed 26 = .ok (.aload_n 0, 1) := by decide +kernel
theorem dX6_countServed_27 : decode cX6_countServed 27 = .ok (.iload 4, 2) := by decide +kernel
theorem dX6_countServed_29 : decode cX6_countServed 29 = .ok (.invokevirtual 65, 3) := by decide +kernel
theorem dX6_countServed_32 : decode cX6_countServed 32 = .ok (.ifCond .eq 25, 3) := by decide +kernel
theorem dX6_countServed_35 : decode cX6_countServed 35 = .ok (.aload_n 0, 1) := by decide +kernel
theorem dX6_countServed_36 : decode cX6_countServed 36 = .ok (.iload 4, 2) := by decide +kernel
theorem dX6_countServed_38 : decode cX6_countServed 38 = .ok (.iload_n 1, 1) := by decide +kernel
theorem dX6_countServed_39 : decode cX6_countServed 39 = .ok (.invokevirtual 68, 3) := by decide +kernel
theorem dX6_countServed_42 : decode cX6_countServed 42 = .ok (.aload_n 0, 1) := by decide +kernel
theorem dX6_countServed_43 : decode cX6_countServed 43 = .ok (.getfield 21, 3) := by decide +kernel
theorem dX6_countServed_46 : decode cX6_countServed 46 = .ok (.getfield 75, 3) := by decide +kernel
theorem dX6_countServed_49 : decode cX6_countServed 49 = .ok (.iload_n 3, 1) := by decide +kernel
theorem dX6_countServed_50 : decode cX6_countServed 50 = .ok (.iaload, 1) := by decide +kernel
theorem dX6_countServed_51 : decode cX6_countServed 51 = .ok (.if_icmp .ne 6, 3) := by decide +kernel
theorem dX6_countServed_54 : decode cX6_countServed 54 = .ok (.iinc 2 1, 3) := by decide +kernel
theorem dX6_countServed_57 : decode cX6_countServed 57 = .ok (.iinc 3 1, 3) := by decide +kernel
theorem dX6_countServed_60 : decode cX6_countServed 60 = .ok (.goto (-56), 3) := by decide +kernel
theorem dX6_countServed_63 : decode cX6_countServed 63 = .ok (.iload_n 2, 1) := by decide +kernel
theorem dX6_countServed_64 : decode cX6_countServed 64 = .ok (.ireturn, 1) := by decide +kernel
theorem dX6_firstOnAir_0 : decode cX6_firstOnAir 0 = .ok (.iconst 0, 1) := by decide +kernel
theorem dX6_firstOnAir_1 : decode cX6_firstOnAir 1 = .ok (.istore_n 1, 1) := by decide +kernel
theorem dX6_firstOnAir_2 : decode cX6_firstOnAir 2 = .ok (.iload_n 1, 1) := by decide +kernel
theorem dX6_firstOnAir_3 : decode cX6_firstOnAir 3 = .ok (.aload_n 0, 1) := by decide +kernel
theorem dX6_firstOnAir_4 : decode cX6_firstOnAir 4 = .ok (.getfield 21, 3) := by decide +kernel
theorem dX6_firstOnAir_7 : decode cX6_firstOnAir 7 = .ok (.getfield 51, 3) := by decide +kernel
theorem dX6_firstOnAir_10 : decode cX6_firstOnAir 10 = .ok (.if_icmp .ge 27, 3) := by decide +kernel
theorem dX6_firstOnAir_13 : decode cX6_firstOnAir 13 = .ok (.aload_n 0, 1) := by decide +kernel
theorem dX6_firstOnAir_14 : decode cX6_firstOnAir 14 = .ok (.aload_n 0, 1) := by decide +kernel
theorem dX6_firstOnAir_15 : decode cX6_firstOnAir 15 = .ok (.getfield 21, 3) := by decide +kernel
theorem dX6_firstOnAir_18 : decode cX6_firstOnAir 18 = .ok (.getfield 72, 3) := by decide +kernel
theorem dX6_firstOnAir_21 : decode cX6_firstOnAir 21 = .ok (.iload_n 1, 1) := by decide +kernel
theorem dX6_firstOnAir_22 : decode cX6_firstOnAir 22 = .ok (.iaload, 1) := by decide +kernel
theorem dX6_firstOnAir_23 : decode cX6_firstOnAir 23 = .ok (.invokevirtual 65, 3) := by decide +kernel
theorem dX6_firstOnAir_26 : decode cX6_firstOnAir 26 = .ok (.ifCond .eq 5, 3) := by decide +kernel
theorem dX6_firstOnAir_29 : decode cX6_firstOnAir 29 = .ok (.iload_n 1, 1) := by decide +kernel
theorem dX6_firstOnAir_30 : decode cX6_firstOnAir 30 = .ok (.ireturn, 1) := by decide +kernel
theorem dX6_firstOnAir_31 : decode cX6_firstOnAir 31 = .ok (.iinc 1 1, 3) := by decide +kernel
theorem dX6_firstOnAir_34 : decode cX6_firstOnAir 34 = .ok (.goto (-32), 3) := by decide +kernel
theorem dX6_firstOnAir_37 : decode cX6_firstOnAir 37 = .ok (.iconst (-1), 1) := by decide +kernel
theorem dX6_firstOnAir_38 : decode cX6_firstOnAir 38 = .ok (.ireturn, 1) := by decide +kernel
theorem dX6_findBest_0 : decode cX6_findBest 0 = .ok (.aload_n 0, 1) := by decide +kernel
theorem dX6_findBest_1 : decode cX6_findBest 1 = .ok (.invokevirtual 78, 3) := by decide +kernel
theorem dX6_findBest_4 : decode cX6_findBest 4 = .ok (.istore_n 1, 1) := by decide +kernel
theorem dX6_findBest_5 : decode cX6_findBest 5 = .ok (.iload_n 1, 1) := by decide +kernel
theorem dX6_findBest_6 : decode cX6_findBest 6 = .ok (.ifCond .ge 5, 3) := by decide +kernel
theorem dX6_findBest_9 : decode cX6_findBest 9 = .ok (.iconst 0, 1) := by decide +kernel
theorem dX6_findBest_10 : decode cX6_findBest 10 = .ok (.ireturn, 1) := by decide +kernel
theorem dX6_findBest_11 : decode cX6_findBest 11 = .ok (.iconst 1, 1) := by decide +kernel
theorem dX6_findBest_12 : decode cX6_findBest 12 = .ok (.aload_n 0, 1) := by decide +kernel
theorem dX6_findBest_13 : decode cX6_findBest 13 = .ok (.getfield 21, 3) := by decide +kernel
theorem dX6_findBest_16 : decode cX6_findBest 16 = .ok (.getfield 75, 3) := by decide +kernel
theorem dX6_findBest_19 : decode cX6_findBest 19 = .ok (.iload_n 1, 1) := by decide +kernel
theorem dX6_findBest_20 : decode cX6_findBest 20 = .ok (.iaload, 1) := by decide +kernel
theorem dX6_findBest_21 : decode cX6_findBest 21 = .ok (.ishl, 1) := by decide +kernel
theorem dX6_findBest_22 : decode cX6_findBest 22 = .ok (.istore_n 2, 1) := by decide +kernel
theorem dX6_findBest_23 : decode cX6_findBest 23 = .ok (.aload_n 0, 1) := by decide +kernel
theorem dX6_findBest_24 : decode cX6_findBest 24 = .ok (.getfield 15, 3) := by decide +kernel
theorem dX6_findBest_27 : decode cX6_findBest 27 = .ok (.aload_n 0, 1) := by decide +kernel
theorem dX6_findBest_28 : decode cX6_findBest 28 = .ok (.getfield 21, 3) := by decide +kernel
theorem dX6_findBest_31 : decode cX6_findBest 31 = .ok (.getfield 72, 3) := by decide +kernel
theorem dX6_findBest_34 : decode cX6_findBest 34 = .ok (.iload_n 1, 1) := by decide +kernel
theorem dX6_findBest_35 : decode cX6_findBest 35 = .ok (.iaload, 1) := by decide +kernel
theorem dX6_findBest_36 : decode cX6_findBest 36 = .ok (.iaload, 1) := by decide +kernel
theorem dX6_findBest_37 : decode cX6_findBest 37 = .ok (.istore_n 3, 1) := by decide +kernel
theorem dX6_findBest_38 : decode cX6_findBest 38 = .ok (.iconst 0, 1) := by decide +kernel
theorem dX6_findBest_39 : decode cX6_findBest 39 = .ok (.istore 4, 2) := by decide +kernel
theorem dX6_findBest_41 : decode cX6_findBest 41 = .ok (.iconst 0, 1) := by decide +kernel
theorem dX6_findBest_42 : decode cX6_findBest 42 = .ok (.istore 5, 2) := by decide +kernel
theorem dX6_findBest_44 : decode cX6_findBest 44 = .ok (.iconst 1, 1) := by decide +kernel
theorem dX6_findBest_45 : decode cX6_findBest 45 = .ok (.istore 6, 2) := by decide +kernel
theorem dX6_findBest_47 : decode cX6_findBest 47 = .ok (.iload 6, 2) := by decide +kernel
theorem dX6_findBest_49 : decode cX6_findBest 49 = .ok (.sipush 1023, 3) := by decide +kernel
theorem dX6_findBest_52 : decode cX6_findBest 52 = .ok (.if_icmp .gt 86, 3) := by decide +kernel
theorem dX6_findBest_55 : decode cX6_findBest 55 = .ok (.iload 6, 2) := by decide +kernel
theorem dX6_findBest_57 : decode cX6_findBest 57 = .ok (.iload_n 3, 1) := by decide +kernel
theorem dX6_findBest_58 : decode cX6_findBest 58 = .ok (.iconst (-1), 1) := by decide +kernel
theorem dX6_findBest_59 : decode cX6_findBest 59 = .ok (.ixor, 1) := by decide +kernel
theorem dX6_findBest_60 : decode cX6_findBest 60 = .ok (.iand, 1) := by decide +kernel
theorem dX6_findBest_61 : decode cX6_findBest 61 = .ok (.iload_n 2, 1) := by decide +kernel
theorem dX6_findBest_62 : decode cX6_findBest 62 = .ok (.if_icmp .ne 70, 3) := by decide +kernel
theorem dX6_findBest_65 : decode cX6_findBest 65 = .ok (.iload 6, 2) := by decide +kernel
theorem dX6_findBest_67 : decode cX6_findBest 67 = .ok (.invokestatic 60, 3) := by decide +kernel
theorem dX6_findBest_70 : decode cX6_findBest 70 = .ok (.aload_n 0, 1) := by decide +kernel
theorem dX6_findBest_71 : decode cX6_findBest 71 = .ok (.getfield 29, 3) := by decide +kernel
theorem dX6_findBest_74 : decode cX6_findBest 74 = .ok (.if_icmp .gt 58, 3) := by decide +kernel
theorem dX6_findBest_77 : decode cX6_findBest 77 = .ok (.aload_n 0, 1) := by decide +kernel
theorem dX6_findBest_78 : decode cX6_findBest 78 = .ok (.iload 6, 2) := by decide +kernel
theorem dX6_findBest_80 : decode cX6_findBest 80 = .ok (.invokevirtual 82, 3) := by decide +kernel
theorem dX6_findBest_83 : decode cX6_findBest 83 = .ok (.istore 7, 2) := by decide +kernel
theorem dX6_findBest_85 : decode cX6_findBest 85 = .ok (.iload 6, 2) := by decide +kernel
theorem dX6_findBest_87 : decode cX6_findBest 87 = .ok (.invokestatic 60, 3) := by decide +kernel
theorem dX6_findBest_90 : decode cX6_findBest 90 = .ok (.iload 4, 2) := by decide +kernel
theorem dX6_findBest_92 : decode cX6_findBest 92 = .ok (.invokestatic 60, 3) := by decide +kernel
theorem dX6_findBest_95 : decode cX6_findBest 95 = .ok (.if_icmp .ge 7, 3) := by decide +kernel
theorem dX6_findBest_98 : decode cX6_findBest 98 = .ok (.iconst 1, 1) := by decide +kernel
theorem dX6_findBest_99 : decode cX6_findBest 99 = .ok (.goto 4, 3) := by decide +kernel
theorem dX6_findBest_102 : decode cX6_findBest 102 = .ok (.iconst 0, 1) := by decide +kernel
theorem dX6_findBest_103 : decode cX6_findBest 103 = .ok (.istore 8, 2) := by decide +kernel
theorem dX6_findBest_105 : decode cX6_findBest 105 = .ok (.iload 7, 2) := by decide +kernel
theorem dX6_findBest_107 : decode cX6_findBest 107 = .ok (.iload 5, 2) := by decide +kernel
theorem dX6_findBest_109 : decode cX6_findBest 109 = .ok (.if_icmp .gt 15, 3) := by decide +kernel
theorem dX6_findBest_112 : decode cX6_findBest 112 = .ok (.iload 7, 2) := by decide +kernel
theorem dX6_findBest_114 : decode cX6_findBest 114 = .ok (.iload 5, 2) := by decide +kernel
theorem dX6_findBest_116 : decode cX6_findBest 116 = .ok (.if_icmp .ne 16, 3) := by decide +kernel
theorem dX6_findBest_119 : decode cX6_findBest 119 = .ok (.iload 8, 2) := by decide +kernel
theorem dX6_findBest_121 : decode cX6_findBest 121 = .ok (.ifCond .eq 11, 3) := by decide +kernel
theorem dX6_findBest_124 : decode cX6_findBest 124 = .ok (.iload 6, 2) := by decide +kernel
theorem dX6_findBest_126 : decode cX6_findBest 126 = .ok (.istore 4, 2) := by decide +kernel
theorem dX6_findBest_128 : decode cX6_findBest 128 = .ok (.iload 7, 2) := by decide +kernel
theorem dX6_findBest_130 : decode cX6_findBest 130 = .ok (.istore 5, 2) := by decide +kernel
theorem dX6_findBest_132 : decode cX6_findBest 132 = .ok (.iinc 6 1, 3) := by decide +kernel
theorem dX6_findBest_135 : decode cX6_findBest 135 = .ok (.goto (-88), 3) := by decide +kernel
theorem dX6_findBest_138 : decode cX6_findBest 138 = .ok (.iload 4, 2) := by decide +kernel
theorem dX6_findBest_140 : decode cX6_findBest 140 = .ok (.ireturn, 1) := by decide +kernel
theorem dX6_deliver_0 : decode cX6_deliver 0 = .ok (.iconst 0, 1) := by decide +kernel
theorem dX6_deliver_1 : decode cX6_deliver 1 = .ok (.istore_n 2, 1) := by decide +kernel
theorem dX6_deliver_2 : decode cX6_deliver 2 = .ok (.iconst 0, 1) := by decide +kernel
theorem dX6_deliver_3 : decode cX6_deliver 3 = .ok (.istore_n 3, 1) := by decide +kernel
theorem dX6_deliver_4 : decode cX6_deliver 4 = .ok (.iload_n 3, 1) := by decide +kernel
theorem dX6_deliver_5 : decode cX6_deliver 5 = .ok (.bipush 8, 2) := by decide +kernel
theorem dX6_deliver_7 : decode cX6_deliver 7 = .ok (.if_icmp .ge 45, 3) := by decide +kernel
theorem dX6_deliver_10 : decode cX6_deliver 10 = .ok (.aload_n 0, 1) := by decide +kernel
theorem dX6_deliver_11 : decode cX6_deliver 11 = .ok (.iload_n 3, 1) := by decide +kernel
theorem dX6_deliver_12 : decode cX6_deliver 12 = .ok (.iload_n 1, 1) := by decide +kernel
theorem dX6_deliver_13 : decode cX6_deliver 13 = .ok (.invokevirtual 68, 3) := by decide +kernel
theorem dX6_deliver_16 : decode cX6_deliver 16 = .ok (.istore 4, 2) := by decide +kernel
theorem dX6_deliver_18 : decode cX6_deliver 18 = .ok (.aload_n 0, 1) := by decide +kernel
theorem dX6_deliver_19 : decode cX6_deliver 19 = .ok (.iload_n 3, 1) := by decide +kernel
theorem dX6_deliver_20 : decode cX6_deliver 20 = .ok (.invokevirtual 65, 3) := by decide +kernel
theorem dX6_deliver_23 : decode cX6_deliver 23 = .ok (.ifCond .eq 23, 3) := by decide +kernel
theorem dX6_deliver_26 : decode cX6_deliver 26 = .ok (.iload 4, 2) := by decide +kernel
theorem dX6_deliver_28 : decode cX6_deliver 28 = .ok (.bipush (-9), 2) := by decide +kernel
theorem dX6_deliver_30 : decode cX6_deliver 30 = .ok (.if_icmp .eq 16, 3) := by decide +kernel
theorem dX6_deliver_33 : decode cX6_deliver 33 = .ok (.aload_n 0, 1) := by decide +kernel
theorem dX6_deliver_34 : decode cX6_deliver 34 = .ok (.iload_n 3, 1) := by decide +kernel
theorem dX6_deliver_35 : decode cX6_deliver 35 = .ok (.iload 4, 2) := by decide +kernel
theorem dX6_deliver_37 : decode cX6_deliver 37 = .ok (.invokevirtual 85, 3) := by decide +kernel
theorem dX6_deliver_40 : decode cX6_deliver 40 = .ok (.ifCond .eq 6, 3) := by decide +kernel
theorem dX6_deliver_43 : decode cX6_deliver 43 = .ok (.iinc 2 1, 3) := by decide +kernel
theorem dX6_deliver_46 : decode cX6_deliver 46 = .ok (.iinc 3 1, 3) := by decide +kernel
theorem dX6_deliver_49 : decode cX6_deliver 49 = .ok (.goto (-45), 3) := by decide +kernel
theorem dX6_deliver_52 : decode cX6_deliver 52 = .ok (.aload_n 0, 1) := by decide +kernel
theorem dX6_deliver_53 : decode cX6_deliver 53 = .ok (.dup, 1) := by decide +kernel
theorem dX6_deliver_54 : decode cX6_deliver 54 = .ok (.getfield 54, 3) := by decide +kernel
theorem dX6_deliver_57 : decode cX6_deliver 57 = .ok (.iconst 1, 1) := by decide +kernel
theorem dX6_deliver_58 : decode cX6_deliver 58 = .ok (.iadd, 1) := by decide +kernel
theorem dX6_deliver_59 : decode cX6_deliver 59 = .ok (.putfield 54, 3) := by decide +kernel
theorem dX6_deliver_62 : decode cX6_deliver 62 = .ok (.aload_n 0, 1) := by decide +kernel
theorem dX6_deliver_63 : decode cX6_deliver 63 = .ok (.dup, 1) := by decide +kernel
theorem dX6_deliver_64 : decode cX6_deliver 64 = .ok (.getfield 57, 3) := by decide +kernel
theorem dX6_deliver_67 : decode cX6_deliver 67 = .ok (.iload_n 2, 1) := by decide +kernel
theorem dX6_deliver_68 : decode cX6_deliver 68 = .ok (.iadd, 1) := by decide +kernel
theorem dX6_deliver_69 : decode cX6_deliver 69 = .ok (.putfield 57, 3) := by decide +kernel
theorem dX6_deliver_72 : decode cX6_deliver 72 = .ok (.iload_n 2, 1) := by decide +kernel
theorem dX6_deliver_73 : decode cX6_deliver 73 = .ok (.ireturn, 1) := by decide +kernel
theorem dX7_init_0 : decode cX7_init 0 = .ok (.aload_n 0, 1) := by decide +kernel
theorem dX7_init_1 : decode cX7_init 1 = .ok (.invokespecial 3, 3) := by decide +kernel
theorem dX7_init_4 : decode cX7_init 4 = .ok (.aload_n 0, 1) := by decide +kernel
theorem dX7_init_5 : decode cX7_init 5 = .ok (.bipush 12, 2) := by decide +kernel
theorem dX7_init_7 : decode cX7_init 7 = .ok (.newarray .int, 2) := by decide +kernel
theorem dX7_init_9 : decode cX7_init 9 = .ok (.putfield 9, 3) := by decide +kernel
theorem dX7_init_12 : decode cX7_init 12 = .ok (.return_, 1) := by decide +kernel
theorem dX7_add_0 : decode cX7_add 0 = .ok (.aload_n 0, 1) := by decide +kernel
theorem dX7_add_1 : decode cX7_add 1 = .ok (.getfield 15, 3) := by decide +kernel
theorem dX7_add_4 : decode cX7_add 4 = .ok (.bipush 12, 2) := by decide +kernel
theorem dX7_add_6 : decode cX7_add 6 = .ok (.if_icmp .lt 5, 3) := by decide +kernel
theorem dX7_add_9 : decode cX7_add 9 = .ok (.iconst 0, 1) := by decide +kernel
theorem dX7_add_10 : decode cX7_add 10 = .ok (.ireturn, 1) := by decide +kernel
theorem dX7_add_11 : decode cX7_add 11 = .ok (.aload_n 0, 1) := by decide +kernel
theorem dX7_add_12 : decode cX7_add 12 = .ok (.getfield 9, 3) := by decide +kernel
theorem dX7_add_15 : decode cX7_add 15 = .ok (.aload_n 0, 1) := by decide +kernel
theorem dX7_add_16 : decode cX7_add 16 = .ok (.getfield 15, 3) := by decide +kernel
theorem dX7_add_19 : decode cX7_add 19 = .ok (.iload_n 1, 1) := by decide +kernel
theorem dX7_add_20 : decode cX7_add 20 = .ok (.iastore, 1) := by decide +kernel
theorem dX7_add_21 : decode cX7_add 21 = .ok (.aload_n 0, 1) := by decide +kernel
theorem dX7_add_22 : decode cX7_add 22 = .ok (.dup, 1) := by decide +kernel
theorem dX7_add_23 : decode cX7_add 23 = .ok (.getfield 15, 3) := by decide +kernel
theorem dX7_add_26 : decode cX7_add 26 = .ok (.iconst 1, 1) := by decide +kernel
theorem dX7_add_27 : decode cX7_add 27 = .ok (.iadd, 1) := by decide +kernel
theorem dX7_add_28 : decode cX7_add 28 = .ok (.putfield 15, 3) := by decide +kernel
theorem dX7_add_31 : decode cX7_add 31 = .ok (.iconst 1, 1) := by decide +kernel
theorem dX7_add_32 : decode cX7_add 32 = .ok (.ireturn, 1) := by decide +kernel
theorem dX7_spells_0 : decode cX7_spells 0 = .ok (.aload_n 1, 1) := by decide +kernel
theorem dX7_spells_1 : decode cX7_spells 1 = .ok (.invokevirtual 19, 3) := by decide +kernel
theorem dX7_spells_4 : decode cX7_spells 4 = .ok (.aload_n 0, 1) := by decide +kernel
theorem dX7_spells_5 : decode cX7_spells 5 = .ok (.getfield 15, 3) := by decide +kernel
theorem dX7_spells_8 : decode cX7_spells 8 = .ok (.if_icmp .eq 5, 3) := by decide +kernel
theorem dX7_spells_11 : decode cX7_spells 11 = .ok (.iconst 0, 1) := by decide +kernel
theorem dX7_spells_12 : decode cX7_spells 12 = .ok (.ireturn, 1) := by decide +kernel
theorem dX7_spells_13 : decode cX7_spells 13 = .ok (.iconst 0, 1) := by decide +kernel
theorem dX7_spells_14 : decode cX7_spells 14 = .ok (.istore_n 2, 1) := by decide +kernel
theorem dX7_spells_15 : decode cX7_spells 15 = .ok (.iload_n 2, 1) := by decide +kernel
theorem dX7_spells_16 : decode cX7_spells 16 = .ok (.aload_n 0, 1) := by decide +kernel
theorem dX7_spells_17 : decode cX7_spells 17 = .ok (.getfield 15, 3) := by decide +kernel
theorem dX7_spells_20 : decode cX7_spells 20 = .ok (.if_icmp .ge 25, 3) := by decide +kernel
theorem dX7_spells_23 : decode cX7_spells 23 = .ok (.aload_n 1, 1) := by decide +kernel
theorem dX7_spells_24 : decode cX7_spells 24 = .ok (.iload_n 2, 1) := by decide +kernel
theorem dX7_spells_25 : decode cX7_spells 25 = .ok (.invokevirtual 25, 3) := by decide +kernel
theorem dX7_spells_28 : decode cX7_spells 28 = .ok (.aload_n 0, 1) := by decide +kernel
theorem dX7_spells_29 : decode cX7_spells 29 = .ok (.getfield 9, 3) := by decide +kernel
theorem dX7_spells_32 : decode cX7_spells 32 = .ok (.iload_n 2, 1) := by decide +kernel
theorem dX7_spells_33 : decode cX7_spells 33 = .ok (.iaload, 1) := by decide +kernel
theorem dX7_spells_34 : decode cX7_spells 34 = .ok (.if_icmp .eq 5, 3) := by decide +kernel
theorem dX7_spells_37 : decode cX7_spells 37 = .ok (.iconst 0, 1) := by decide +kernel
end
section
theorem dX7_spells_38 : decode cX7_spells 38 = .ok (.ireturn, 1) := by decide +kernel
theorem dX7_spells_39 : decode cX7_spells 39 = .ok (.iinc 2 1, 3) := by decide +kernel
theorem dX7_spells_42 : decode cX7_spells 42 = .ok (.goto (-27), 3) := by decide +kernel
theorem dX7_spells_45 : decode cX7_spells 45 = .ok (.iconst 1, 1) := by decide +kernel
theorem dX7_spells_46 : decode cX7_spells 46 = .ok (.ireturn, 1) := by decide +kernel
theorem dX7_toldNumber_0 : decode cX7_toldNumber 0 = .ok (.aload_n 0, 1) := by decide +kernel
theorem dX7_toldNumber_1 : decode cX7_toldNumber 1 = .ok (.ldc 29, 2) := by decide +kernel
theorem dX7_toldNumber_3 : decode cX7_toldNumber 3 = .ok (.invokevirtual 31, 3) := by decide +kernel
theorem dX7_toldNumber_6 : decode cX7_toldNumber 6 = .ok (.ifCond .eq 5, 3) := by decide +kernel
theorem dX7_toldNumber_9 : decode cX7_toldNumber 9 = .ok (.iconst 2, 1) := by decide +kernel
theorem dX7_toldNumber_10 : decode cX7_toldNumber 10 = .ok (.ireturn, 1) := by decide +kernel
theorem dX7_toldNumber_11 : decode cX7_toldNumber 11 = .ok (.aload_n 0, 1) := by decide +kernel
theorem dX7_toldNumber_12 : decode cX7_toldNumber 12 = .ok (.ldc 35, 2) := by decide +kernel
theorem dX7_toldNumber_14 : decode cX7_toldNumber 14 = .ok (.invokevirtual 31, 3) := by decide +kernel
theorem dX7_toldNumber_17 : decode cX7_toldNumber 17 = .ok (.ifCond .eq 5, 3) := by decide +kernel
theorem dX7_toldNumber_20 : decode cX7_toldNumber 20 = .ok (.iconst 3, 1) := by decide +kernel
theorem dX7_toldNumber_21 : decode cX7_toldNumber 21 = .ok (.ireturn, 1) := by decide +kernel
theorem dX7_toldNumber_22 : decode cX7_toldNumber 22 = .ok (.aload_n 0, 1) := by decide +kernel
theorem dX7_toldNumber_23 : decode cX7_toldNumber 23 = .ok (.ldc 37, 2) := by decide +kernel
theorem dX7_toldNumber_25 : decode cX7_toldNumber 25 = .ok (.invokevirtual 31, 3) := by decide +kernel
theorem dX7_toldNumber_28 : decode cX7_toldNumber 28 = .ok (.ifCond .eq 5, 3) := by decide +kernel
theorem dX7_toldNumber_31 : decode cX7_toldNumber 31 = .ok (.iconst 5, 1) := by decide +kernel
theorem dX7_toldNumber_32 : decode cX7_toldNumber 32 = .ok (.ireturn, 1) := by decide +kernel
theorem dX7_toldNumber_33 : decode cX7_toldNumber 33 = .ok (.aload_n 0, 1) := by decide +kernel
theorem dX7_toldNumber_34 : decode cX7_toldNumber 34 = .ok (.ldc 39, 2) := by decide +kernel
theorem dX7_toldNumber_36 : decode cX7_toldNumber 36 = .ok (.invokevirtual 31, 3) := by decide +kernel
theorem dX7_toldNumber_39 : decode cX7_toldNumber 39 = .ok (.ifCond .eq 8, 3) := by decide +kernel
theorem dX7_toldNumber_42 : decode cX7_toldNumber 42 = .ok (.bipush 7, 2) := by decide +kernel
theorem dX7_toldNumber_44 : decode cX7_toldNumber 44 = .ok (.goto 4, 3) := by decide +kernel
theorem dX7_toldNumber_47 : decode cX7_toldNumber 47 = .ok (.iconst 0, 1) := by decide +kernel
theorem dX7_toldNumber_48 : decode cX7_toldNumber 48 = .ok (.ireturn, 1) := by decide +kernel
theorem dX8_init_0 : decode cX8_init 0 = .ok (.aload_n 0, 1) := by decide +kernel
theorem dX8_init_1 : decode cX8_init 1 = .ok (.invokespecial 3, 3) := by decide +kernel
theorem dX8_init_4 : decode cX8_init 4 = .ok (.aload_n 0, 1) := by decide +kernel
theorem dX8_init_5 : decode cX8_init 5 = .ok (.new 9, 3) := by decide +kernel
theorem dX8_init_8 : decode cX8_init 8 = .ok (.dup, 1) := by decide +kernel
theorem dX8_init_9 : decode cX8_init 9 = .ok (.invokespecial 11, 3) := by decide +kernel
theorem dX8_init_12 : decode cX8_init 12 = .ok (.putfield 12, 3) := by decide +kernel
theorem dX8_init_15 : decode cX8_init 15 = .ok (.aload_n 0, 1) := by decide +kernel
theorem dX8_init_16 : decode cX8_init 16 = .ok (.new 16, 3) := by decide +kernel
theorem dX8_init_19 : decode cX8_init 19 = .ok (.dup, 1) := by decide +kernel
theorem dX8_init_20 : decode cX8_init 20 = .ok (.invokespecial 18, 3) := by decide +kernel
theorem dX8_init_23 : decode cX8_init 23 = .ok (.putfield 19, 3) := by decide +kernel
theorem dX8_init_26 : decode cX8_init 26 = .ok (.aload_n 0, 1) := by decide +kernel
theorem dX8_init_27 : decode cX8_init 27 = .ok (.new 23, 3) := by decide +kernel
theorem dX8_init_30 : decode cX8_init 30 = .ok (.dup, 1) := by decide +kernel
theorem dX8_init_31 : decode cX8_init 31 = .ok (.invokespecial 25, 3) := by decide +kernel
theorem dX8_init_34 : decode cX8_init 34 = .ok (.putfield 26, 3) := by decide +kernel
theorem dX8_init_37 : decode cX8_init 37 = .ok (.aload_n 0, 1) := by decide +kernel
theorem dX8_init_38 : decode cX8_init 38 = .ok (.new 30, 3) := by decide +kernel
theorem dX8_init_41 : decode cX8_init 41 = .ok (.dup, 1) := by decide +kernel
theorem dX8_init_42 : decode cX8_init 42 = .ok (.aload_n 0, 1) := by decide +kernel
theorem dX8_init_43 : decode cX8_init 43 = .ok (.getfield 26, 3) := by decide +kernel
theorem dX8_init_46 : decode cX8_init 46 = .ok (.invokespecial 32, 3) := by decide +kernel
theorem dX8_init_49 : decode cX8_init 49 = .ok (.putfield 35, 3) := by decide +kernel
theorem dX8_init_52 : decode cX8_init 52 = .ok (.aload_n 0, 1) := by decide +kernel
theorem dX8_init_53 : decode cX8_init 53 = .ok (.new 39, 3) := by decide +kernel
theorem dX8_init_56 : decode cX8_init 56 = .ok (.dup, 1) := by decide +kernel
theorem dX8_init_57 : decode cX8_init 57 = .ok (.invokespecial 41, 3) := by decide +kernel
theorem dX8_init_60 : decode cX8_init 60 = .ok (.putfield 42, 3) := by decide +kernel
theorem dX8_init_63 : decode cX8_init 63 = .ok (.return_, 1) := by decide +kernel
theorem dX8_letter_0 : decode cX8_letter 0 = .ok (.iload_n 1, 1) := by decide +kernel
theorem dX8_letter_1 : decode cX8_letter 1 = .ok (.ifCond .lt 9, 3) := by decide +kernel
theorem dX8_letter_4 : decode cX8_letter 4 = .ok (.iload_n 1, 1) := by decide +kernel
theorem dX8_letter_5 : decode cX8_letter 5 = .ok (.bipush 10, 2) := by decide +kernel
theorem dX8_letter_7 : decode cX8_letter 7 = .ok (.if_icmp .lt 5, 3) := by decide +kernel
theorem dX8_letter_10 : decode cX8_letter 10 = .ok (.iconst (-1), 1) := by decide +kernel
theorem dX8_letter_11 : decode cX8_letter 11 = .ok (.ireturn, 1) := by decide +kernel
theorem dX8_letter_12 : decode cX8_letter 12 = .ok (.iload_n 2, 1) := by decide +kernel
theorem dX8_letter_13 : decode cX8_letter 13 = .ok (.ifCond .lt 10, 3) := by decide +kernel
theorem dX8_letter_16 : decode cX8_letter 16 = .ok (.iload_n 2, 1) := by decide +kernel
theorem dX8_letter_17 : decode cX8_letter 17 = .ok (.sipush 255, 3) := by decide +kernel
theorem dX8_letter_20 : decode cX8_letter 20 = .ok (.if_icmp .le 6, 3) := by decide +kernel
theorem dX8_letter_23 : decode cX8_letter 23 = .ok (.bipush (-2), 2) := by decide +kernel
theorem dX8_letter_25 : decode cX8_letter 25 = .ok (.ireturn, 1) := by decide +kernel
theorem dX8_letter_26 : decode cX8_letter 26 = .ok (.aload_n 0, 1) := by decide +kernel
theorem dX8_letter_27 : decode cX8_letter 27 = .ok (.getfield 12, 3) := by decide +kernel
theorem dX8_letter_30 : decode cX8_letter 30 = .ok (.iload_n 1, 1) := by decide +kernel
theorem dX8_letter_31 : decode cX8_letter 31 = .ok (.iload_n 2, 1) := by decide +kernel
theorem dX8_letter_32 : decode cX8_letter 32 = .ok (.invokevirtual 46, 3) := by decide +kernel
theorem dX8_letter_35 : decode cX8_letter 35 = .ok (.ifCond .eq 7, 3) := by decide +kernel
theorem dX8_letter_38 : decode cX8_letter 38 = .ok (.iconst 1, 1) := by decide +kernel
theorem dX8_letter_39 : decode cX8_letter 39 = .ok (.goto 4, 3) := by decide +kernel
theorem dX8_letter_42 : decode cX8_letter 42 = .ok (.iconst 0, 1) := by decide +kernel
theorem dX8_letter_43 : decode cX8_letter 43 = .ok (.ireturn, 1) := by decide +kernel
theorem dX8_drop_0 : decode cX8_drop 0 = .ok (.aload_n 0, 1) := by decide +kernel
theorem dX8_drop_1 : decode cX8_drop 1 = .ok (.getfield 12, 3) := by decide +kernel
theorem dX8_drop_4 : decode cX8_drop 4 = .ok (.iload_n 1, 1) := by decide +kernel
theorem dX8_drop_5 : decode cX8_drop 5 = .ok (.invokevirtual 50, 3) := by decide +kernel
theorem dX8_drop_8 : decode cX8_drop 8 = .ok (.ifCond .eq 14, 3) := by decide +kernel
theorem dX8_drop_11 : decode cX8_drop 11 = .ok (.aload_n 0, 1) := by decide +kernel
theorem dX8_drop_12 : decode cX8_drop 12 = .ok (.getfield 12, 3) := by decide +kernel
theorem dX8_drop_15 : decode cX8_drop 15 = .ok (.iload_n 1, 1) := by decide +kernel
theorem dX8_drop_16 : decode cX8_drop 16 = .ok (.invokevirtual 54, 3) := by decide +kernel
theorem dX8_drop_19 : decode cX8_drop 19 = .ok (.goto 4, 3) := by decide +kernel
theorem dX8_drop_22 : decode cX8_drop 22 = .ok (.iconst (-1), 1) := by decide +kernel
theorem dX8_drop_23 : decode cX8_drop 23 = .ok (.ireturn, 1) := by decide +kernel
theorem dX8_has_0 : decode cX8_has 0 = .ok (.iload_n 1, 1) := by decide +kernel
theorem dX8_has_1 : decode cX8_has 1 = .ok (.invokestatic 58, 3) := by decide +kernel
theorem dX8_has_4 : decode cX8_has 4 = .ok (.ifCond .eq 14, 3) := by decide +kernel
theorem dX8_has_7 : decode cX8_has 7 = .ok (.aload_n 0, 1) := by decide +kernel
theorem dX8_has_8 : decode cX8_has 8 = .ok (.getfield 12, 3) := by decide +kernel
theorem dX8_has_11 : decode cX8_has 11 = .ok (.iload_n 2, 1) := by decide +kernel
theorem dX8_has_12 : decode cX8_has 12 = .ok (.invokevirtual 50, 3) := by decide +kernel
theorem dX8_has_15 : decode cX8_has 15 = .ok (.ifCond .ne 5, 3) := by decide +kernel
theorem dX8_has_18 : decode cX8_has 18 = .ok (.iconst (-1), 1) := by decide +kernel
theorem dX8_has_19 : decode cX8_has 19 = .ok (.ireturn, 1) := by decide +kernel
theorem dX8_has_20 : decode cX8_has 20 = .ok (.iload_n 3, 1) := by decide +kernel
theorem dX8_has_21 : decode cX8_has 21 = .ok (.ifCond .eq 11, 3) := by decide +kernel
theorem dX8_has_24 : decode cX8_has 24 = .ok (.iload_n 3, 1) := by decide +kernel
theorem dX8_has_25 : decode cX8_has 25 = .ok (.iconst 1, 1) := by decide +kernel
theorem dX8_has_26 : decode cX8_has 26 = .ok (.if_icmp .eq 6, 3) := by decide +kernel
theorem dX8_has_29 : decode cX8_has 29 = .ok (.bipush (-2), 2) := by decide +kernel
theorem dX8_has_31 : decode cX8_has 31 = .ok (.ireturn, 1) := by decide +kernel
theorem dX8_has_32 : decode cX8_has 32 = .ok (.aload_n 0, 1) := by decide +kernel
theorem dX8_has_33 : decode cX8_has 33 = .ok (.getfield 12, 3) := by decide +kernel
theorem dX8_has_36 : decode cX8_has 36 = .ok (.iload_n 1, 1) := by decide +kernel
theorem dX8_has_37 : decode cX8_has 37 = .ok (.iload_n 2, 1) := by decide +kernel
theorem dX8_has_38 : decode cX8_has 38 = .ok (.invokevirtual 61, 3) := by decide +kernel
theorem dX8_has_41 : decode cX8_has 41 = .ok (.istore 4, 2) := by decide +kernel
theorem dX8_has_43 : decode cX8_has 43 = .ok (.iload_n 3, 1) := by decide +kernel
theorem dX8_has_44 : decode cX8_has 44 = .ok (.iconst 1, 1) := by decide +kernel
theorem dX8_has_45 : decode cX8_has 45 = .ok (.if_icmp .ne 16, 3) := by decide +kernel
theorem dX8_has_48 : decode cX8_has 48 = .ok (.aload_n 0, 1) := by decide +kernel
theorem dX8_has_49 : decode cX8_has 49 = .ok (.getfield 12, 3) := by decide +kernel
theorem dX8_has_52 : decode cX8_has 52 = .ok (.iload_n 1, 1) := by decide +kernel
theorem dX8_has_53 : decode cX8_has 53 = .ok (.iload_n 2, 1) := by decide +kernel
theorem dX8_has_54 : decode cX8_has 54 = .ok (.invokevirtual 64, 3) := by decide +kernel
theorem dX8_has_57 : decode cX8_has 57 = .ok (.pop, 1) := by decide +kernel
theorem dX8_has_58 : decode cX8_has 58 = .ok (.goto 12, 3) := by decide +kernel
theorem dX8_has_61 : decode cX8_has 61 = .ok (.aload_n 0, 1) := by decide +kernel
theorem dX8_has_62 : decode cX8_has 62 = .ok (.getfield 12, 3) := by decide +kernel
theorem dX8_has_65 : decode cX8_has 65 = .ok (.iload_n 1, 1) := by decide +kernel
theorem dX8_has_66 : decode cX8_has 66 = .ok (.iload_n 2, 1) := by decide +kernel
theorem dX8_has_67 : decode cX8_has 67 = .ok (.invokevirtual 67, 3) := by decide +kernel
theorem dX8_has_70 : decode cX8_has 70 = .ok (.iload 4, 2) := by decide +kernel
theorem dX8_has_72 : decode cX8_has 72 = .ok (.ifCond .eq 7, 3) := by decide +kernel
theorem dX8_has_75 : decode cX8_has 75 = .ok (.iconst 1, 1) := by decide +kernel
theorem dX8_has_76 : decode cX8_has 76 = .ok (.goto 4, 3) := by decide +kernel
theorem dX8_has_79 : decode cX8_has 79 = .ok (.iconst 0, 1) := by decide +kernel
theorem dX8_has_80 : decode cX8_has 80 = .ok (.ireturn, 1) := by decide +kernel
theorem dX8_want_0 : decode cX8_want 0 = .ok (.iload_n 2, 1) := by decide +kernel
theorem dX8_want_1 : decode cX8_want 1 = .ok (.invokestatic 58, 3) := by decide +kernel
theorem dX8_want_4 : decode cX8_want 4 = .ok (.ifCond .eq 14, 3) := by decide +kernel
theorem dX8_want_7 : decode cX8_want 7 = .ok (.aload_n 0, 1) := by decide +kernel
theorem dX8_want_8 : decode cX8_want 8 = .ok (.getfield 12, 3) := by decide +kernel
theorem dX8_want_11 : decode cX8_want 11 = .ok (.iload_n 1, 1) := by decide +kernel
theorem dX8_want_12 : decode cX8_want 12 = .ok (.invokevirtual 50, 3) := by decide +kernel
theorem dX8_want_15 : decode cX8_want 15 = .ok (.ifCond .ne 5, 3) := by decide +kernel
theorem dX8_want_18 : decode cX8_want 18 = .ok (.iconst (-1), 1) := by decide +kernel
theorem dX8_want_19 : decode cX8_want 19 = .ok (.ireturn, 1) := by decide +kernel
theorem dX8_want_20 : decode cX8_want 20 = .ok (.aload_n 0, 1) := by decide +kernel
theorem dX8_want_21 : decode cX8_want 21 = .ok (.getfield 12, 3) := by decide +kernel
theorem dX8_want_24 : decode cX8_want 24 = .ok (.iload_n 2, 1) := by decide +kernel
theorem dX8_want_25 : decode cX8_want 25 = .ok (.iload_n 1, 1) := by decide +kernel
theorem dX8_want_26 : decode cX8_want 26 = .ok (.invokevirtual 61, 3) := by decide +kernel
theorem dX8_want_29 : decode cX8_want 29 = .ok (.ifCond .ne 18, 3) := by decide +kernel
theorem dX8_want_32 : decode cX8_want 32 = .ok (.aload_n 0, 1) := by decide +kernel
theorem dX8_want_33 : decode cX8_want 33 = .ok (.getfield 12, 3) := by decide +kernel
theorem dX8_want_36 : decode cX8_want 36 = .ok (.getfield 71, 3) := by decide +kernel
theorem dX8_want_39 : decode cX8_want 39 = .ok (.iload_n 1, 1) := by decide +kernel
theorem dX8_want_40 : decode cX8_want 40 = .ok (.iload_n 2, 1) := by decide +kernel
theorem dX8_want_41 : decode cX8_want 41 = .ok (.invokevirtual 75, 3) := by decide +kernel
theorem dX8_want_44 : decode cX8_want 44 = .ok (.ifCond .lt 6, 3) := by decide +kernel
theorem dX8_want_47 : decode cX8_want 47 = .ok (.bipush (-3), 2) := by decide +kernel
theorem dX8_want_49 : decode cX8_want 49 = .ok (.ireturn, 1) := by decide +kernel
theorem dX8_want_50 : decode cX8_want 50 = .ok (.aload_n 0, 1) := by decide +kernel
theorem dX8_want_51 : decode cX8_want 51 = .ok (.getfield 12, 3) := by decide +kernel
theorem dX8_want_54 : decode cX8_want 54 = .ok (.getfield 71, 3) := by decide +kernel
theorem dX8_want_57 : decode cX8_want 57 = .ok (.iload_n 1, 1) := by decide +kernel
theorem dX8_want_58 : decode cX8_want 58 = .ok (.iload_n 2, 1) := by decide +kernel
theorem dX8_want_59 : decode cX8_want 59 = .ok (.invokevirtual 81, 3) := by decide +kernel
theorem dX8_want_62 : decode cX8_want 62 = .ok (.ifCond .eq 16, 3) := by decide +kernel
theorem dX8_want_65 : decode cX8_want 65 = .ok (.aload_n 0, 1) := by decide +kernel
theorem dX8_want_66 : decode cX8_want 66 = .ok (.getfield 12, 3) := by decide +kernel
theorem dX8_want_69 : decode cX8_want 69 = .ok (.getfield 71, 3) := by decide +kernel
theorem dX8_want_72 : decode cX8_want 72 = .ok (.getfield 84, 3) := by decide +kernel
theorem dX8_want_75 : decode cX8_want 75 = .ok (.goto 5, 3) := by decide +kernel
theorem dX8_want_78 : decode cX8_want 78 = .ok (.bipush (-4), 2) := by decide +kernel
theorem dX8_want_80 : decode cX8_want 80 = .ok (.ireturn, 1) := by decide +kernel
theorem dX8_air_0 : decode cX8_air 0 = .ok (.iload_n 1, 1) := by decide +kernel
theorem dX8_air_1 : decode cX8_air 1 = .ok (.ifCond .lt 10, 3) := by decide +kernel
theorem dX8_air_4 : decode cX8_air 4 = .ok (.iload_n 1, 1) := by decide +kernel
theorem dX8_air_5 : decode cX8_air 5 = .ok (.sipush 255, 3) := by decide +kernel
theorem dX8_air_8 : decode cX8_air 8 = .ok (.if_icmp .le 6, 3) := by decide +kernel
theorem dX8_air_11 : decode cX8_air 11 = .ok (.bipush (-2), 2) := by decide +kernel
theorem dX8_air_13 : decode cX8_air 13 = .ok (.ireturn, 1) := by decide +kernel
theorem dX8_air_14 : decode cX8_air 14 = .ok (.aload_n 0, 1) := by decide +kernel
theorem dX8_air_15 : decode cX8_air 15 = .ok (.getfield 12, 3) := by decide +kernel
theorem dX8_air_18 : decode cX8_air 18 = .ok (.getfield 88, 3) := by decide +kernel
theorem dX8_air_21 : decode cX8_air 21 = .ok (.istore_n 2, 1) := by decide +kernel
theorem dX8_air_22 : decode cX8_air 22 = .ok (.aload_n 0, 1) := by decide +kernel
theorem dX8_air_23 : decode cX8_air 23 = .ok (.getfield 12, 3) := by decide +kernel
theorem dX8_air_26 : decode cX8_air 26 = .ok (.iload_n 1, 1) := by decide +kernel
theorem dX8_air_27 : decode cX8_air 27 = .ok (.putfield 88, 3) := by decide +kernel
theorem dX8_air_30 : decode cX8_air 30 = .ok (.iload_n 2, 1) := by decide +kernel
theorem dX8_air_31 : decode cX8_air 31 = .ok (.ireturn, 1) := by decide +kernel
theorem dX8_most_0 : decode cX8_most 0 = .ok (.iload_n 1, 1) := by decide +kernel
theorem dX8_most_1 : decode cX8_most 1 = .ok (.iconst 1, 1) := by decide +kernel
theorem dX8_most_2 : decode cX8_most 2 = .ok (.if_icmp .lt 9, 3) := by decide +kernel
theorem dX8_most_5 : decode cX8_most 5 = .ok (.iload_n 1, 1) := by decide +kernel
theorem dX8_most_6 : decode cX8_most 6 = .ok (.bipush 10, 2) := by decide +kernel
theorem dX8_most_8 : decode cX8_most 8 = .ok (.if_icmp .le 6, 3) := by decide +kernel
theorem dX8_most_11 : decode cX8_most 11 = .ok (.bipush (-2), 2) := by decide +kernel
theorem dX8_most_13 : decode cX8_most 13 = .ok (.ireturn, 1) := by decide +kernel
theorem dX8_most_14 : decode cX8_most 14 = .ok (.aload_n 0, 1) := by decide +kernel
theorem dX8_most_15 : decode cX8_most 15 = .ok (.getfield 12, 3) := by decide +kernel
theorem dX8_most_18 : decode cX8_most 18 = .ok (.getfield 91, 3) := by decide +kernel
theorem dX8_most_21 : decode cX8_most 21 = .ok (.istore_n 2, 1) := by decide +kernel
theorem dX8_most_22 : decode cX8_most 22 = .ok (.aload_n 0, 1) := by decide +kernel
theorem dX8_most_23 : decode cX8_most 23 = .ok (.getfield 12, 3) := by decide +kernel
theorem dX8_most_26 : decode cX8_most 26 = .ok (.iload_n 1, 1) := by decide +kernel
theorem dX8_most_27 : decode cX8_most 27 = .ok (.putfield 91, 3) := by decide +kernel
theorem dX8_most_30 : decode cX8_most 30 = .ok (.iload_n 2, 1) := by decide +kernel
theorem dX8_most_31 : decode cX8_most 31 = .ok (.ireturn, 1) := by decide +kernel
theorem dX8_anew_0 : decode cX8_anew 0 = .ok (.aload_n 0, 1) := by decide +kernel
theorem dX8_anew_1 : decode cX8_anew 1 = .ok (.getfield 12, 3) := by decide +kernel
theorem dX8_anew_4 : decode cX8_anew 4 = .ok (.getfield 71, 3) := by decide +kernel
theorem dX8_anew_7 : decode cX8_anew 7 = .ok (.getfield 84, 3) := by decide +kernel
theorem dX8_anew_10 : decode cX8_anew 10 = .ok (.istore_n 1, 1) := by decide +kernel
theorem dX8_anew_11 : decode cX8_anew 11 = .ok (.aload_n 0, 1) := by decide +kernel
theorem dX8_anew_12 : decode cX8_anew 12 = .ok (.getfield 12, 3) := by decide +kernel
theorem dX8_anew_15 : decode cX8_anew 15 = .ok (.invokevirtual 94, 3) := by decide +kernel
theorem dX8_anew_18 : decode cX8_anew 18 = .ok (.iload_n 1, 1) := by decide +kernel
theorem dX8_anew_19 : decode cX8_anew 19 = .ok (.ireturn, 1) := by decide +kernel
theorem dX8_entry_0 : decode cX8_entry 0 = .ok (.iload_n 1, 1) := by decide +kernel
theorem dX8_entry_1 : decode cX8_entry 1 = .ok (.ifCond .lt 17, 3) := by decide +kernel
theorem dX8_entry_4 : decode cX8_entry 4 = .ok (.iload_n 1, 1) := by decide +kernel
theorem dX8_entry_5 : decode cX8_entry 5 = .ok (.aload_n 0, 1) := by decide +kernel
theorem dX8_entry_6 : decode cX8_entry 6 = .ok (.getfield 12, 3) := by decide +kernel
theorem dX8_entry_9 : decode cX8_entry 9 = .ok (.getfield 71, 3) := by decide +kernel
theorem dX8_entry_12 : decode cX8_entry 12 = .ok (.getfield 84, 3) := by decide +kernel
theorem dX8_entry_15 : decode cX8_entry 15 = .ok (.if_icmp .lt 5, 3) := by decide +kernel
theorem dX8_entry_18 : decode cX8_entry 18 = .ok (.iconst (-1), 1) := by decide +kernel
theorem dX8_entry_19 : decode cX8_entry 19 = .ok (.ireturn, 1) := by decide +kernel
theorem dX8_entry_20 : decode cX8_entry 20 = .ok (.iload_n 2, 1) := by decide +kernel
theorem dX8_entry_21 : decode cX8_entry 21 = .ok (.ifCond .eq 11, 3) := by decide +kernel
theorem dX8_entry_24 : decode cX8_entry 24 = .ok (.iload_n 2, 1) := by decide +kernel
theorem dX8_entry_25 : decode cX8_entry 25 = .ok (.iconst 1, 1) := by decide +kernel
theorem dX8_entry_26 : decode cX8_entry 26 = .ok (.if_icmp .eq 6, 3) := by decide +kernel
theorem dX8_entry_29 : decode cX8_entry 29 = .ok (.bipush (-2), 2) := by decide +kernel
theorem dX8_entry_31 : decode cX8_entry 31 = .ok (.ireturn, 1) := by decide +kernel
theorem dX8_entry_32 : decode cX8_entry 32 = .ok (.iload_n 2, 1) := by decide +kernel
theorem dX8_entry_33 : decode cX8_entry 33 = .ok (.ifCond .ne 18, 3) := by decide +kernel
theorem dX8_entry_36 : decode cX8_entry 36 = .ok (.aload_n 0, 1) := by decide +kernel
theorem dX8_entry_37 : decode cX8_entry 37 = .ok (.getfield 12, 3) := by decide +kernel
theorem dX8_entry_40 : decode cX8_entry 40 = .ok (.getfield 71, 3) := by decide +kernel
theorem dX8_entry_43 : decode cX8_entry 43 = .ok (.getfield 97, 3) := by decide +kernel
theorem dX8_entry_46 : decode cX8_entry 46 = .ok (.iload_n 1, 1) := by decide +kernel
theorem dX8_entry_47 : decode cX8_entry 47 = .ok (.iaload, 1) := by decide +kernel
theorem dX8_entry_48 : decode cX8_entry 48 = .ok (.goto 15, 3) := by decide +kernel
theorem dX8_entry_51 : decode cX8_entry 51 = .ok (.aload_n 0, 1) := by decide +kernel
theorem dX8_entry_52 : decode cX8_entry 52 = .ok (.getfield 12, 3) := by decide +kernel
theorem dX8_entry_55 : decode cX8_entry 55 = .ok (.getfield 71, 3) := by decide +kernel
theorem dX8_entry_58 : decode cX8_entry 58 = .ok (.getfield 101, 3) := by decide +kernel
theorem dX8_entry_61 : decode cX8_entry 61 = .ok (.iload_n 1, 1) := by decide +kernel
theorem dX8_entry_62 : decode cX8_entry 62 = .ok (.iaload, 1) := by decide +kernel
theorem dX8_entry_63 : decode cX8_entry 63 = .ok (.ireturn, 1) := by decide +kernel
theorem dX8_having_0 : decode cX8_having 0 = .ok (.iload_n 1, 1) := by decide +kernel
theorem dX8_having_1 : decode cX8_having 1 = .ok (.invokestatic 58, 3) := by decide +kernel
theorem dX8_having_4 : decode cX8_having 4 = .ok (.ifCond .eq 15, 3) := by decide +kernel
theorem dX8_having_7 : decode cX8_having 7 = .ok (.aload_n 0, 1) := by decide +kernel
theorem dX8_having_8 : decode cX8_having 8 = .ok (.getfield 12, 3) := by decide +kernel
theorem dX8_having_11 : decode cX8_having 11 = .ok (.getfield 104, 3) := by decide +kernel
theorem dX8_having_14 : decode cX8_having 14 = .ok (.iload_n 1, 1) := by decide +kernel
theorem dX8_having_15 : decode cX8_having 15 = .ok (.iaload, 1) := by decide +kernel
theorem dX8_having_16 : decode cX8_having 16 = .ok (.goto 4, 3) := by decide +kernel
theorem dX8_having_19 : decode cX8_having 19 = .ok (.iconst (-1), 1) := by decide +kernel
theorem dX8_having_20 : decode cX8_having 20 = .ok (.ireturn, 1) := by decide +kernel
theorem dX8_reads_0 : decode cX8_reads 0 = .ok (.iload_n 1, 1) := by decide +kernel
theorem dX8_reads_1 : decode cX8_reads 1 = .ok (.invokestatic 58, 3) := by decide +kernel
theorem dX8_reads_4 : decode cX8_reads 4 = .ok (.ifCond .ne 5, 3) := by decide +kernel
theorem dX8_reads_7 : decode cX8_reads 7 = .ok (.iconst (-1), 1) := by decide +kernel
theorem dX8_reads_8 : decode cX8_reads 8 = .ok (.ireturn, 1) := by decide +kernel
theorem dX8_reads_9 : decode cX8_reads 9 = .ok (.aload_n 0, 1) := by decide +kernel
theorem dX8_reads_10 : decode cX8_reads 10 = .ok (.getfield 12, 3) := by decide +kernel
theorem dX8_reads_13 : decode cX8_reads 13 = .ok (.iload_n 2, 1) := by decide +kernel
theorem dX8_reads_14 : decode cX8_reads 14 = .ok (.invokevirtual 107, 3) := by decide +kernel
theorem dX8_reads_17 : decode cX8_reads 17 = .ok (.ifCond .eq 15, 3) := by decide +kernel
theorem dX8_reads_20 : decode cX8_reads 20 = .ok (.aload_n 0, 1) := by decide +kernel
theorem dX8_reads_21 : decode cX8_reads 21 = .ok (.getfield 12, 3) := by decide +kernel
theorem dX8_reads_24 : decode cX8_reads 24 = .ok (.iload_n 1, 1) := by decide +kernel
theorem dX8_reads_25 : decode cX8_reads 25 = .ok (.iload_n 2, 1) := by decide +kernel
theorem dX8_reads_26 : decode cX8_reads 26 = .ok (.invokevirtual 110, 3) := by decide +kernel
theorem dX8_reads_29 : decode cX8_reads 29 = .ok (.goto 5, 3) := by decide +kernel
theorem dX8_reads_32 : decode cX8_reads 32 = .ok (.bipush (-2), 2) := by decide +kernel
theorem dX8_reads_34 : decode cX8_reads 34 = .ok (.ireturn, 1) := by decide +kernel
theorem dX8_sum_0 : decode cX8_sum 0 = .ok (.aload_n 0, 1) := by decide +kernel
theorem dX8_sum_1 : decode cX8_sum 1 = .ok (.getfield 12, 3) := by decide +kernel
theorem dX8_sum_4 : decode cX8_sum 4 = .ok (.iload_n 1, 1) := by decide +kernel
theorem dX8_sum_5 : decode cX8_sum 5 = .ok (.invokevirtual 107, 3) := by decide +kernel
theorem dX8_sum_8 : decode cX8_sum 8 = .ok (.ifCond .ne 6, 3) := by decide +kernel
theorem dX8_sum_11 : decode cX8_sum 11 = .ok (.bipush (-2), 2) := by decide +kernel
theorem dX8_sum_13 : decode cX8_sum 13 = .ok (.ireturn, 1) := by decide +kernel
theorem dX8_sum_14 : decode cX8_sum 14 = .ok (.iload_n 2, 1) := by decide +kernel
theorem dX8_sum_15 : decode cX8_sum 15 = .ok (.tableswitch 52 0 2 #[25, 34, 43], 25) := by decide +kernel
theorem dX8_sum_40 : decode cX8_sum 40 = .ok (.aload_n 0, 1) := by decide +kernel
theorem dX8_sum_41 : decode cX8_sum 41 = .ok (.getfield 12, 3) := by decide +kernel
theorem dX8_sum_44 : decode cX8_sum 44 = .ok (.iload_n 1, 1) := by decide +kernel
theorem dX8_sum_45 : decode cX8_sum 45 = .ok (.invokevirtual 113, 3) := by decide +kernel
theorem dX8_sum_48 : decode cX8_sum 48 = .ok (.ireturn, 1) := by decide +kernel
theorem dX8_sum_49 : decode cX8_sum 49 = .ok (.aload_n 0, 1) := by decide +kernel
theorem dX8_sum_50 : decode cX8_sum 50 = .ok (.getfield 12, 3) := by decide +kernel
theorem dX8_sum_53 : decode cX8_sum 53 = .ok (.iload_n 1, 1) := by decide +kernel
theorem dX8_sum_54 : decode cX8_sum 54 = .ok (.invokevirtual 116, 3) := by decide +kernel
theorem dX8_sum_57 : decode cX8_sum 57 = .ok (.ireturn, 1) := by decide +kernel
theorem dX8_sum_58 : decode cX8_sum 58 = .ok (.aload_n 0, 1) := by decide +kernel
theorem dX8_sum_59 : decode cX8_sum 59 = .ok (.getfield 12, 3) := by decide +kernel
theorem dX8_sum_62 : decode cX8_sum 62 = .ok (.iload_n 1, 1) := by decide +kernel
theorem dX8_sum_63 : decode cX8_sum 63 = .ok (.invokevirtual 119, 3) := by decide +kernel
theorem dX8_sum_66 : decode cX8_sum 66 = .ok (.ireturn, 1) := by decide +kernel
theorem dX8_sum_67 : decode cX8_sum 67 = .ok (.bipush (-2), 2) := by decide +kernel
theorem dX8_sum_69 : decode cX8_sum 69 = .ok (.ireturn, 1) := by decide +kernel
theorem dX8_best_0 : decode cX8_best 0 = .ok (.aload_n 0, 1) := by decide +kernel
theorem dX8_best_1 : decode cX8_best 1 = .ok (.getfield 12, 3) := by decide +kernel
theorem dX8_best_4 : decode cX8_best 4 = .ok (.invokevirtual 122, 3) := by decide +kernel
theorem dX8_best_7 : decode cX8_best 7 = .ok (.ireturn, 1) := by decide +kernel
theorem dX8_send_0 : decode cX8_send 0 = .ok (.aload_n 0, 1) := by decide +kernel
theorem dX8_send_1 : decode cX8_send 1 = .ok (.getfield 12, 3) := by decide +kernel
theorem dX8_send_4 : decode cX8_send 4 = .ok (.iload_n 1, 1) := by decide +kernel
theorem dX8_send_5 : decode cX8_send 5 = .ok (.invokevirtual 107, 3) := by decide +kernel
theorem dX8_send_8 : decode cX8_send 8 = .ok (.ifCond .eq 14, 3) := by decide +kernel
theorem dX8_send_11 : decode cX8_send 11 = .ok (.aload_n 0, 1) := by decide +kernel
theorem dX8_send_12 : decode cX8_send 12 = .ok (.getfield 12, 3) := by decide +kernel
theorem dX8_send_15 : decode cX8_send 15 = .ok (.iload_n 1, 1) := by decide +kernel
theorem dX8_send_16 : decode cX8_send 16 = .ok (.invokevirtual 126, 3) := by decide +kernel
theorem dX8_send_19 : decode cX8_send 19 = .ok (.goto 5, 3) := by decide +kernel
theorem dX8_send_22 : decode cX8_send 22 = .ok (.bipush (-2), 2) := by decide +kernel
theorem dX8_send_24 : decode cX8_send 24 = .ok (.ireturn, 1) := by decide +kernel
theorem dX8_serve_0 : decode cX8_serve 0 = .ok (.iload_n 1, 1) := by decide +kernel
theorem dX8_serve_1 : decode cX8_serve 1 = .ok (.ifCond .lt 9, 3) := by decide +kernel
theorem dX8_serve_4 : decode cX8_serve 4 = .ok (.iload_n 1, 1) := by decide +kernel
theorem dX8_serve_5 : decode cX8_serve 5 = .ok (.bipush 16, 2) := by decide +kernel
theorem dX8_serve_7 : decode cX8_serve 7 = .ok (.if_icmp .le 6, 3) := by decide +kernel
theorem dX8_serve_10 : decode cX8_serve 10 = .ok (.bipush (-2), 2) := by decide +kernel
theorem dX8_serve_12 : decode cX8_serve 12 = .ok (.ireturn, 1) := by decide +kernel
theorem dX8_serve_13 : decode cX8_serve 13 = .ok (.iconst 0, 1) := by decide +kernel
theorem dX8_serve_14 : decode cX8_serve 14 = .ok (.istore_n 2, 1) := by decide +kernel
theorem dX8_serve_15 : decode cX8_serve 15 = .ok (.iload_n 2, 1) := by decide +kernel
theorem dX8_serve_16 : decode cX8_serve 16 = .ok (.iload_n 1, 1) := by decide +kernel
theorem dX8_serve_17 : decode cX8_serve 17 = .ok (.if_icmp .ge 32, 3) := by decide +kernel
theorem dX8_serve_20 : decode cX8_serve 20 = .ok (.aload_n 0, 1) := by decide +kernel
theorem dX8_serve_21 : decode cX8_serve 21 = .ok (.getfield 12, 3) := by decide +kernel
theorem dX8_serve_24 : decode cX8_serve 24 = .ok (.invokevirtual 122, 3) := by decide +kernel
theorem dX8_serve_27 : decode cX8_serve 27 = .ok (.istore_n 3, 1) := by decide +kernel
theorem dX8_serve_28 : decode cX8_serve 28 = .ok (.iload_n 3, 1) := by decide +kernel
theorem dX8_serve_29 : decode cX8_serve 29 = .ok (.ifCond .ne 5, 3) := by decide +kernel
theorem dX8_serve_32 : decode cX8_serve 32 = .ok (.iload_n 2, 1) := by decide +kernel
theorem dX8_serve_33 : decode cX8_serve 33 = .ok (.ireturn, 1) := by decide +kernel
theorem dX8_serve_34 : decode cX8_serve 34 = .ok (.aload_n 0, 1) := by decide +kernel
theorem dX8_serve_35 : decode cX8_serve 35 = .ok (.getfield 12, 3) := by decide +kernel
theorem dX8_serve_38 : decode cX8_serve 38 = .ok (.iload_n 3, 1) := by decide +kernel
theorem dX8_serve_39 : decode cX8_serve 39 = .ok (.invokevirtual 126, 3) := by decide +kernel
theorem dX8_serve_42 : decode cX8_serve 42 = .ok (.pop, 1) := by decide +kernel
theorem dX8_serve_43 : decode cX8_serve 43 = .ok (.iinc 2 1, 3) := by decide +kernel
theorem dX8_serve_46 : decode cX8_serve 46 = .ok (.goto (-31), 3) := by decide +kernel
theorem dX8_serve_49 : decode cX8_serve 49 = .ok (.iload_n 1, 1) := by decide +kernel
theorem dX8_serve_50 : decode cX8_serve 50 = .ok (.ireturn, 1) := by decide +kernel
theorem dX8_key_0 : decode cX8_key 0 = .ok (.iload_n 1, 1) := by decide +kernel
theorem dX8_key_1 : decode cX8_key 1 = .ok (.ifCond .lt 9, 3) := by decide +kernel
theorem dX8_key_4 : decode cX8_key 4 = .ok (.iload_n 1, 1) := by decide +kernel
theorem dX8_key_5 : decode cX8_key 5 = .ok (.bipush 127, 2) := by decide +kernel
theorem dX8_key_7 : decode cX8_key 7 = .ok (.if_icmp .le 6, 3) := by decide +kernel
theorem dX8_key_10 : decode cX8_key 10 = .ok (.bipush (-2), 2) := by decide +kernel
theorem dX8_key_12 : decode cX8_key 12 = .ok (.ireturn, 1) := by decide +kernel
theorem dX8_key_13 : decode cX8_key 13 = .ok (.aload_n 0, 1) := by decide +kernel
theorem dX8_key_14 : decode cX8_key 14 = .ok (.getfield 19, 3) := by decide +kernel
theorem dX8_key_17 : decode cX8_key 17 = .ok (.iload_n 1, 1) := by decide +kernel
theorem dX8_key_18 : decode cX8_key 18 = .ok (.invokevirtual 129, 3) := by decide +kernel
theorem dX8_key_21 : decode cX8_key 21 = .ok (.ifCond .eq 13, 3) := by decide +kernel
theorem dX8_key_24 : decode cX8_key 24 = .ok (.aload_n 0, 1) := by decide +kernel
theorem dX8_key_25 : decode cX8_key 25 = .ok (.getfield 19, 3) := by decide +kernel
theorem dX8_key_28 : decode cX8_key 28 = .ok (.getfield 131, 3) := by decide +kernel
theorem dX8_key_31 : decode cX8_key 31 = .ok (.goto 5, 3) := by decide +kernel
theorem dX8_key_34 : decode cX8_key 34 = .ok (.bipush (-4), 2) := by decide +kernel
theorem dX8_key_36 : decode cX8_key 36 = .ok (.ireturn, 1) := by decide +kernel
theorem dX8_wipe_0 : decode cX8_wipe 0 = .ok (.aload_n 0, 1) := by decide +kernel
theorem dX8_wipe_1 : decode cX8_wipe 1 = .ok (.getfield 19, 3) := by decide +kernel
theorem dX8_wipe_4 : decode cX8_wipe 4 = .ok (.getfield 131, 3) := by decide +kernel
theorem dX8_wipe_7 : decode cX8_wipe 7 = .ok (.istore_n 1, 1) := by decide +kernel
theorem dX8_wipe_8 : decode cX8_wipe 8 = .ok (.aload_n 0, 1) := by decide +kernel
theorem dX8_wipe_9 : decode cX8_wipe 9 = .ok (.getfield 19, 3) := by decide +kernel
theorem dX8_wipe_12 : decode cX8_wipe 12 = .ok (.iconst 0, 1) := by decide +kernel
theorem dX8_wipe_13 : decode cX8_wipe 13 = .ok (.putfield 131, 3) := by decide +kernel
theorem dX8_wipe_16 : decode cX8_wipe 16 = .ok (.iload_n 1, 1) := by decide +kernel
theorem dX8_wipe_17 : decode cX8_wipe 17 = .ok (.ireturn, 1) := by decide +kernel
theorem dX8_word_0 : decode cX8_word 0 = .ok (.aload_n 0, 1) := by decide +kernel
theorem dX8_word_1 : decode cX8_word 1 = .ok (.getfield 19, 3) := by decide +kernel
theorem dX8_word_4 : decode cX8_word 4 = .ok (.invokevirtual 132, 3) := by decide +kernel
theorem dX8_word_7 : decode cX8_word 7 = .ok (.istore_n 1, 1) := by decide +kernel
theorem dX8_word_8 : decode cX8_word 8 = .ok (.iload_n 1, 1) := by decide +kernel
theorem dX8_word_9 : decode cX8_word 9 = .ok (.ifCond .ne 5, 3) := by decide +kernel
theorem dX8_word_12 : decode cX8_word 12 = .ok (.iconst (-1), 1) := by decide +kernel
theorem dX8_word_13 : decode cX8_word 13 = .ok (.ireturn, 1) := by decide +kernel
theorem dX8_word_14 : decode cX8_word 14 = .ok (.aload_n 0, 1) := by decide +kernel
theorem dX8_word_15 : decode cX8_word 15 = .ok (.getfield 19, 3) := by decide +kernel
theorem dX8_word_18 : decode cX8_word 18 = .ok (.iconst 0, 1) := by decide +kernel
theorem dX8_word_19 : decode cX8_word 19 = .ok (.putfield 131, 3) := by decide +kernel
theorem dX8_word_22 : decode cX8_word 22 = .ok (.aload_n 0, 1) := by decide +kernel
theorem dX8_word_23 : decode cX8_word 23 = .ok (.getfield 26, 3) := by decide +kernel
end
section
theorem dX8_word_26 : decode cX8_word 26 = .ok (.iload_n 1, 1) := by decide +kernel
theorem dX8_word_27 : decode cX8_word 27 = .ok (.putfield 135, 3) := by decide +kernel
theorem dX8_word_30 : decode cX8_word 30 = .ok (.aload_n 0, 1) := by decide +kernel
theorem dX8_word_31 : decode cX8_word 31 = .ok (.getfield 35, 3) := by decide +kernel
theorem dX8_word_34 : decode cX8_word 34 = .ok (.invokevirtual 138, 3) := by decide +kernel
theorem dX8_word_37 : decode cX8_word 37 = .ok (.iload_n 1, 1) := by decide +kernel
theorem dX8_word_38 : decode cX8_word 38 = .ok (.ireturn, 1) := by decide +kernel
theorem dX8_open_0 : decode cX8_open 0 = .ok (.iload_n 1, 1) := by decide +kernel
theorem dX8_open_1 : decode cX8_open 1 = .ok (.iconst 1, 1) := by decide +kernel
theorem dX8_open_2 : decode cX8_open 2 = .ok (.if_icmp .lt 8, 3) := by decide +kernel
theorem dX8_open_5 : decode cX8_open 5 = .ok (.iload_n 1, 1) := by decide +kernel
theorem dX8_open_6 : decode cX8_open 6 = .ok (.iconst 5, 1) := by decide +kernel
theorem dX8_open_7 : decode cX8_open 7 = .ok (.if_icmp .le 6, 3) := by decide +kernel
theorem dX8_open_10 : decode cX8_open 10 = .ok (.bipush (-2), 2) := by decide +kernel
theorem dX8_open_12 : decode cX8_open 12 = .ok (.ireturn, 1) := by decide +kernel
theorem dX8_open_13 : decode cX8_open 13 = .ok (.aload_n 0, 1) := by decide +kernel
theorem dX8_open_14 : decode cX8_open 14 = .ok (.getfield 35, 3) := by decide +kernel
theorem dX8_open_17 : decode cX8_open 17 = .ok (.iload_n 1, 1) := by decide +kernel
theorem dX8_open_18 : decode cX8_open 18 = .ok (.iload_n 2, 1) := by decide +kernel
theorem dX8_open_19 : decode cX8_open 19 = .ok (.invokevirtual 141, 3) := by decide +kernel
theorem dX8_open_22 : decode cX8_open 22 = .ok (.ireturn, 1) := by decide +kernel
theorem dX8_rank_0 : decode cX8_rank 0 = .ok (.aload_n 0, 1) := by decide +kernel
theorem dX8_rank_1 : decode cX8_rank 1 = .ok (.getfield 35, 3) := by decide +kernel
theorem dX8_rank_4 : decode cX8_rank 4 = .ok (.iload_n 1, 1) := by decide +kernel
theorem dX8_rank_5 : decode cX8_rank 5 = .ok (.iload_n 2, 1) := by decide +kernel
theorem dX8_rank_6 : decode cX8_rank 6 = .ok (.invokevirtual 144, 3) := by decide +kernel
theorem dX8_rank_9 : decode cX8_rank 9 = .ok (.astore_n 3, 1) := by decide +kernel
theorem dX8_rank_10 : decode cX8_rank 10 = .ok (.aload_n 3, 1) := by decide +kernel
theorem dX8_rank_11 : decode cX8_rank 11 = .ok (.ifnonnull 7, 3) := by decide +kernel
theorem dX8_rank_14 : decode cX8_rank 14 = .ok (.iconst (-1), 1) := by decide +kernel
theorem dX8_rank_15 : decode cX8_rank 15 = .ok (.goto 7, 3) := by decide +kernel
theorem dX8_rank_18 : decode cX8_rank 18 = .ok (.aload_n 3, 1) := by decide +kernel
theorem dX8_rank_19 : decode cX8_rank 19 = .ok (.invokevirtual 148, 3) := by decide +kernel
theorem dX8_rank_22 : decode cX8_rank 22 = .ok (.ireturn, 1) := by decide +kernel
theorem dX8_row_0 : decode cX8_row 0 = .ok (.aload_n 0, 1) := by decide +kernel
theorem dX8_row_1 : decode cX8_row 1 = .ok (.getfield 35, 3) := by decide +kernel
theorem dX8_row_4 : decode cX8_row 4 = .ok (.iload_n 1, 1) := by decide +kernel
theorem dX8_row_5 : decode cX8_row 5 = .ok (.invokevirtual 153, 3) := by decide +kernel
theorem dX8_row_8 : decode cX8_row 8 = .ok (.astore 5, 2) := by decide +kernel
theorem dX8_row_10 : decode cX8_row 10 = .ok (.aload_n 0, 1) := by decide +kernel
theorem dX8_row_11 : decode cX8_row 11 = .ok (.getfield 35, 3) := by decide +kernel
theorem dX8_row_14 : decode cX8_row 14 = .ok (.iload_n 1, 1) := by decide +kernel
theorem dX8_row_15 : decode cX8_row 15 = .ok (.iload_n 2, 1) := by decide +kernel
theorem dX8_row_16 : decode cX8_row 16 = .ok (.invokevirtual 144, 3) := by decide +kernel
theorem dX8_row_19 : decode cX8_row 19 = .ok (.astore 6, 2) := by decide +kernel
theorem dX8_row_21 : decode cX8_row 21 = .ok (.aload 5, 2) := by decide +kernel
theorem dX8_row_23 : decode cX8_row 23 = .ok (.ifnull 8, 3) := by decide +kernel
theorem dX8_row_26 : decode cX8_row 26 = .ok (.aload 6, 2) := by decide +kernel
theorem dX8_row_28 : decode cX8_row 28 = .ok (.ifnonnull 5, 3) := by decide +kernel
theorem dX8_row_31 : decode cX8_row 31 = .ok (.iconst (-1), 1) := by decide +kernel
theorem dX8_row_32 : decode cX8_row 32 = .ok (.ireturn, 1) := by decide +kernel
theorem dX8_row_33 : decode cX8_row 33 = .ok (.aload 6, 2) := by decide +kernel
theorem dX8_row_35 : decode cX8_row 35 = .ok (.iload_n 3, 1) := by decide +kernel
theorem dX8_row_36 : decode cX8_row 36 = .ok (.invokevirtual 157, 3) := by decide +kernel
theorem dX8_row_39 : decode cX8_row 39 = .ok (.istore 7, 2) := by decide +kernel
theorem dX8_row_41 : decode cX8_row 41 = .ok (.iload 7, 2) := by decide +kernel
theorem dX8_row_43 : decode cX8_row 43 = .ok (.ifCond .ge 5, 3) := by decide +kernel
theorem dX8_row_46 : decode cX8_row 46 = .ok (.iconst (-1), 1) := by decide +kernel
theorem dX8_row_47 : decode cX8_row 47 = .ok (.ireturn, 1) := by decide +kernel
theorem dX8_row_48 : decode cX8_row 48 = .ok (.iload 4, 2) := by decide +kernel
theorem dX8_row_50 : decode cX8_row 50 = .ok (.ifCond .lt 15, 3) := by decide +kernel
theorem dX8_row_53 : decode cX8_row 53 = .ok (.iload 4, 2) := by decide +kernel
theorem dX8_row_55 : decode cX8_row 55 = .ok (.aload 5, 2) := by decide +kernel
theorem dX8_row_57 : decode cX8_row 57 = .ok (.getfield 160, 3) := by decide +kernel
theorem dX8_row_60 : decode cX8_row 60 = .ok (.iconst 3, 1) := by decide +kernel
theorem dX8_row_61 : decode cX8_row 61 = .ok (.iadd, 1) := by decide +kernel
theorem dX8_row_62 : decode cX8_row 62 = .ok (.if_icmp .lt 6, 3) := by decide +kernel
theorem dX8_row_65 : decode cX8_row 65 = .ok (.bipush (-2), 2) := by decide +kernel
theorem dX8_row_67 : decode cX8_row 67 = .ok (.ireturn, 1) := by decide +kernel
theorem dX8_row_68 : decode cX8_row 68 = .ok (.aload 6, 2) := by decide +kernel
theorem dX8_row_70 : decode cX8_row 70 = .ok (.iload 7, 2) := by decide +kernel
theorem dX8_row_72 : decode cX8_row 72 = .ok (.iload 4, 2) := by decide +kernel
theorem dX8_row_74 : decode cX8_row 74 = .ok (.aload 5, 2) := by decide +kernel
theorem dX8_row_76 : decode cX8_row 76 = .ok (.getfield 160, 3) := by decide +kernel
theorem dX8_row_79 : decode cX8_row 79 = .ok (.if_icmp .ge 8, 3) := by decide +kernel
theorem dX8_row_82 : decode cX8_row 82 = .ok (.iload 4, 2) := by decide +kernel
theorem dX8_row_84 : decode cX8_row 84 = .ok (.goto 13, 3) := by decide +kernel
theorem dX8_row_87 : decode cX8_row 87 = .ok (.iconst 5, 1) := by decide +kernel
theorem dX8_row_88 : decode cX8_row 88 = .ok (.iload 4, 2) := by decide +kernel
theorem dX8_row_90 : decode cX8_row 90 = .ok (.iadd, 1) := by decide +kernel
theorem dX8_row_91 : decode cX8_row 91 = .ok (.aload 5, 2) := by decide +kernel
theorem dX8_row_93 : decode cX8_row 93 = .ok (.getfield 160, 3) := by decide +kernel
theorem dX8_row_96 : decode cX8_row 96 = .ok (.isub, 1) := by decide +kernel
theorem dX8_row_97 : decode cX8_row 97 = .ok (.invokevirtual 165, 3) := by decide +kernel
theorem dX8_row_100 : decode cX8_row 100 = .ok (.ireturn, 1) := by decide +kernel
theorem dX8_read_0 : decode cX8_read 0 = .ok (.aload_n 0, 1) := by decide +kernel
theorem dX8_read_1 : decode cX8_read 1 = .ok (.getfield 35, 3) := by decide +kernel
theorem dX8_read_4 : decode cX8_read 4 = .ok (.iload_n 1, 1) := by decide +kernel
theorem dX8_read_5 : decode cX8_read 5 = .ok (.invokevirtual 153, 3) := by decide +kernel
theorem dX8_read_8 : decode cX8_read 8 = .ok (.astore 5, 2) := by decide +kernel
theorem dX8_read_10 : decode cX8_read 10 = .ok (.aload_n 0, 1) := by decide +kernel
theorem dX8_read_11 : decode cX8_read 11 = .ok (.getfield 35, 3) := by decide +kernel
theorem dX8_read_14 : decode cX8_read 14 = .ok (.iload_n 1, 1) := by decide +kernel
theorem dX8_read_15 : decode cX8_read 15 = .ok (.iload_n 2, 1) := by decide +kernel
theorem dX8_read_16 : decode cX8_read 16 = .ok (.invokevirtual 144, 3) := by decide +kernel
theorem dX8_read_19 : decode cX8_read 19 = .ok (.astore 6, 2) := by decide +kernel
theorem dX8_read_21 : decode cX8_read 21 = .ok (.aload 5, 2) := by decide +kernel
theorem dX8_read_23 : decode cX8_read 23 = .ok (.ifnull 8, 3) := by decide +kernel
theorem dX8_read_26 : decode cX8_read 26 = .ok (.aload 6, 2) := by decide +kernel
theorem dX8_read_28 : decode cX8_read 28 = .ok (.ifnonnull 5, 3) := by decide +kernel
theorem dX8_read_31 : decode cX8_read 31 = .ok (.iconst (-1), 1) := by decide +kernel
theorem dX8_read_32 : decode cX8_read 32 = .ok (.ireturn, 1) := by decide +kernel
theorem dX8_read_33 : decode cX8_read 33 = .ok (.iload_n 3, 1) := by decide +kernel
theorem dX8_read_34 : decode cX8_read 34 = .ok (.ifCond .lt 23, 3) := by decide +kernel
theorem dX8_read_37 : decode cX8_read 37 = .ok (.iload_n 3, 1) := by decide +kernel
theorem dX8_read_38 : decode cX8_read 38 = .ok (.aload 5, 2) := by decide +kernel
theorem dX8_read_40 : decode cX8_read 40 = .ok (.getfield 160, 3) := by decide +kernel
theorem dX8_read_43 : decode cX8_read 43 = .ok (.if_icmp .ge 14, 3) := by decide +kernel
theorem dX8_read_46 : decode cX8_read 46 = .ok (.iload 4, 2) := by decide +kernel
theorem dX8_read_48 : decode cX8_read 48 = .ok (.ifCond .lt 9, 3) := by decide +kernel
theorem dX8_read_51 : decode cX8_read 51 = .ok (.iload 4, 2) := by decide +kernel
theorem dX8_read_53 : decode cX8_read 53 = .ok (.iconst 3, 1) := by decide +kernel
theorem dX8_read_54 : decode cX8_read 54 = .ok (.if_icmp .lt 6, 3) := by decide +kernel
theorem dX8_read_57 : decode cX8_read 57 = .ok (.bipush (-2), 2) := by decide +kernel
theorem dX8_read_59 : decode cX8_read 59 = .ok (.ireturn, 1) := by decide +kernel
theorem dX8_read_60 : decode cX8_read 60 = .ok (.aload 6, 2) := by decide +kernel
theorem dX8_read_62 : decode cX8_read 62 = .ok (.iload_n 3, 1) := by decide +kernel
theorem dX8_read_63 : decode cX8_read 63 = .ok (.invokevirtual 168, 3) := by decide +kernel
theorem dX8_read_66 : decode cX8_read 66 = .ok (.ifCond .eq 16, 3) := by decide +kernel
theorem dX8_read_69 : decode cX8_read 69 = .ok (.aload 6, 2) := by decide +kernel
theorem dX8_read_71 : decode cX8_read 71 = .ok (.iload_n 3, 1) := by decide +kernel
theorem dX8_read_72 : decode cX8_read 72 = .ok (.iconst 5, 1) := by decide +kernel
theorem dX8_read_73 : decode cX8_read 73 = .ok (.iload 4, 2) := by decide +kernel
theorem dX8_read_75 : decode cX8_read 75 = .ok (.iadd, 1) := by decide +kernel
theorem dX8_read_76 : decode cX8_read 76 = .ok (.invokevirtual 165, 3) := by decide +kernel
theorem dX8_read_79 : decode cX8_read 79 = .ok (.goto 5, 3) := by decide +kernel
theorem dX8_read_82 : decode cX8_read 82 = .ok (.bipush (-9), 2) := by decide +kernel
theorem dX8_read_84 : decode cX8_read 84 = .ok (.ireturn, 1) := by decide +kernel
theorem dX8_mix_0 : decode cX8_mix 0 = .ok (.aload_n 0, 1) := by decide +kernel
theorem dX8_mix_1 : decode cX8_mix 1 = .ok (.getfield 35, 3) := by decide +kernel
theorem dX8_mix_4 : decode cX8_mix 4 = .ok (.iload_n 1, 1) := by decide +kernel
theorem dX8_mix_5 : decode cX8_mix 5 = .ok (.iload_n 2, 1) := by decide +kernel
theorem dX8_mix_6 : decode cX8_mix 6 = .ok (.invokevirtual 144, 3) := by decide +kernel
theorem dX8_mix_9 : decode cX8_mix 9 = .ok (.astore 5, 2) := by decide +kernel
theorem dX8_mix_11 : decode cX8_mix 11 = .ok (.aload_n 0, 1) := by decide +kernel
theorem dX8_mix_12 : decode cX8_mix 12 = .ok (.getfield 35, 3) := by decide +kernel
theorem dX8_mix_15 : decode cX8_mix 15 = .ok (.iload_n 1, 1) := by decide +kernel
theorem dX8_mix_16 : decode cX8_mix 16 = .ok (.iload_n 3, 1) := by decide +kernel
theorem dX8_mix_17 : decode cX8_mix 17 = .ok (.invokevirtual 144, 3) := by decide +kernel
theorem dX8_mix_20 : decode cX8_mix 20 = .ok (.astore 6, 2) := by decide +kernel
theorem dX8_mix_22 : decode cX8_mix 22 = .ok (.aload 5, 2) := by decide +kernel
theorem dX8_mix_24 : decode cX8_mix 24 = .ok (.ifnull 8, 3) := by decide +kernel
theorem dX8_mix_27 : decode cX8_mix 27 = .ok (.aload 6, 2) := by decide +kernel
theorem dX8_mix_29 : decode cX8_mix 29 = .ok (.ifnonnull 5, 3) := by decide +kernel
theorem dX8_mix_32 : decode cX8_mix 32 = .ok (.iconst (-1), 1) := by decide +kernel
theorem dX8_mix_33 : decode cX8_mix 33 = .ok (.ireturn, 1) := by decide +kernel
theorem dX8_mix_34 : decode cX8_mix 34 = .ok (.iload 4, 2) := by decide +kernel
theorem dX8_mix_36 : decode cX8_mix 36 = .ok (.ifCond .lt 11, 3) := by decide +kernel
theorem dX8_mix_39 : decode cX8_mix 39 = .ok (.iload 4, 2) := by decide +kernel
theorem dX8_mix_41 : decode cX8_mix 41 = .ok (.sipush 16807, 3) := by decide +kernel
theorem dX8_mix_44 : decode cX8_mix 44 = .ok (.if_icmp .lt 6, 3) := by decide +kernel
theorem dX8_mix_47 : decode cX8_mix 47 = .ok (.bipush (-2), 2) := by decide +kernel
theorem dX8_mix_49 : decode cX8_mix 49 = .ok (.ireturn, 1) := by decide +kernel
theorem dX8_mix_50 : decode cX8_mix 50 = .ok (.iload_n 2, 1) := by decide +kernel
theorem dX8_mix_51 : decode cX8_mix 51 = .ok (.iload_n 3, 1) := by decide +kernel
theorem dX8_mix_52 : decode cX8_mix 52 = .ok (.if_icmp .ne 6, 3) := by decide +kernel
theorem dX8_mix_55 : decode cX8_mix 55 = .ok (.bipush (-3), 2) := by decide +kernel
theorem dX8_mix_57 : decode cX8_mix 57 = .ok (.ireturn, 1) := by decide +kernel
theorem dX8_mix_58 : decode cX8_mix 58 = .ok (.aload_n 0, 1) := by decide +kernel
theorem dX8_mix_59 : decode cX8_mix 59 = .ok (.getfield 35, 3) := by decide +kernel
theorem dX8_mix_62 : decode cX8_mix 62 = .ok (.aload 5, 2) := by decide +kernel
theorem dX8_mix_64 : decode cX8_mix 64 = .ok (.aload 6, 2) := by decide +kernel
theorem dX8_mix_66 : decode cX8_mix 66 = .ok (.iload 4, 2) := by decide +kernel
theorem dX8_mix_68 : decode cX8_mix 68 = .ok (.invokevirtual 171, 3) := by decide +kernel
theorem dX8_mix_71 : decode cX8_mix 71 = .ok (.ifCond .eq 7, 3) := by decide +kernel
theorem dX8_mix_74 : decode cX8_mix 74 = .ok (.iconst 1, 1) := by decide +kernel
theorem dX8_mix_75 : decode cX8_mix 75 = .ok (.goto 4, 3) := by decide +kernel
theorem dX8_mix_78 : decode cX8_mix 78 = .ok (.iconst 0, 1) := by decide +kernel
theorem dX8_mix_79 : decode cX8_mix 79 = .ok (.ireturn, 1) := by decide +kernel
theorem dX8_draw_0 : decode cX8_draw 0 = .ok (.aload_n 0, 1) := by decide +kernel
theorem dX8_draw_1 : decode cX8_draw 1 = .ok (.getfield 35, 3) := by decide +kernel
theorem dX8_draw_4 : decode cX8_draw 4 = .ok (.iload_n 1, 1) := by decide +kernel
theorem dX8_draw_5 : decode cX8_draw 5 = .ok (.iload_n 2, 1) := by decide +kernel
theorem dX8_draw_6 : decode cX8_draw 6 = .ok (.invokevirtual 144, 3) := by decide +kernel
theorem dX8_draw_9 : decode cX8_draw 9 = .ok (.astore 4, 2) := by decide +kernel
theorem dX8_draw_11 : decode cX8_draw 11 = .ok (.aload_n 0, 1) := by decide +kernel
theorem dX8_draw_12 : decode cX8_draw 12 = .ok (.getfield 35, 3) := by decide +kernel
theorem dX8_draw_15 : decode cX8_draw 15 = .ok (.iload_n 1, 1) := by decide +kernel
theorem dX8_draw_16 : decode cX8_draw 16 = .ok (.iload_n 3, 1) := by decide +kernel
theorem dX8_draw_17 : decode cX8_draw 17 = .ok (.invokevirtual 144, 3) := by decide +kernel
theorem dX8_draw_20 : decode cX8_draw 20 = .ok (.astore 5, 2) := by decide +kernel
theorem dX8_draw_22 : decode cX8_draw 22 = .ok (.aload 4, 2) := by decide +kernel
theorem dX8_draw_24 : decode cX8_draw 24 = .ok (.ifnull 8, 3) := by decide +kernel
theorem dX8_draw_27 : decode cX8_draw 27 = .ok (.aload 5, 2) := by decide +kernel
theorem dX8_draw_29 : decode cX8_draw 29 = .ok (.ifnonnull 5, 3) := by decide +kernel
theorem dX8_draw_32 : decode cX8_draw 32 = .ok (.iconst (-1), 1) := by decide +kernel
theorem dX8_draw_33 : decode cX8_draw 33 = .ok (.ireturn, 1) := by decide +kernel
theorem dX8_draw_34 : decode cX8_draw 34 = .ok (.iload_n 2, 1) := by decide +kernel
theorem dX8_draw_35 : decode cX8_draw 35 = .ok (.iload_n 3, 1) := by decide +kernel
theorem dX8_draw_36 : decode cX8_draw 36 = .ok (.if_icmp .ne 6, 3) := by decide +kernel
theorem dX8_draw_39 : decode cX8_draw 39 = .ok (.bipush (-3), 2) := by decide +kernel
theorem dX8_draw_41 : decode cX8_draw 41 = .ok (.ireturn, 1) := by decide +kernel
theorem dX8_draw_42 : decode cX8_draw 42 = .ok (.aload_n 0, 1) := by decide +kernel
theorem dX8_draw_43 : decode cX8_draw 43 = .ok (.getfield 26, 3) := by decide +kernel
theorem dX8_draw_46 : decode cX8_draw 46 = .ok (.invokevirtual 175, 3) := by decide +kernel
theorem dX8_draw_49 : decode cX8_draw 49 = .ok (.istore 6, 2) := by decide +kernel
theorem dX8_draw_51 : decode cX8_draw 51 = .ok (.aload_n 0, 1) := by decide +kernel
theorem dX8_draw_52 : decode cX8_draw 52 = .ok (.getfield 35, 3) := by decide +kernel
theorem dX8_draw_55 : decode cX8_draw 55 = .ok (.aload 4, 2) := by decide +kernel
theorem dX8_draw_57 : decode cX8_draw 57 = .ok (.aload 5, 2) := by decide +kernel
theorem dX8_draw_59 : decode cX8_draw 59 = .ok (.iload 6, 2) := by decide +kernel
theorem dX8_draw_61 : decode cX8_draw 61 = .ok (.invokevirtual 171, 3) := by decide +kernel
theorem dX8_draw_64 : decode cX8_draw 64 = .ok (.pop, 1) := by decide +kernel
theorem dX8_draw_65 : decode cX8_draw 65 = .ok (.iload 6, 2) := by decide +kernel
theorem dX8_draw_67 : decode cX8_draw 67 = .ok (.ireturn, 1) := by decide +kernel
theorem dX8_fresh_0 : decode cX8_fresh 0 = .ok (.aload_n 0, 1) := by decide +kernel
theorem dX8_fresh_1 : decode cX8_fresh 1 = .ok (.getfield 35, 3) := by decide +kernel
theorem dX8_fresh_4 : decode cX8_fresh 4 = .ok (.iload_n 1, 1) := by decide +kernel
theorem dX8_fresh_5 : decode cX8_fresh 5 = .ok (.iload_n 2, 1) := by decide +kernel
theorem dX8_fresh_6 : decode cX8_fresh 6 = .ok (.invokevirtual 144, 3) := by decide +kernel
theorem dX8_fresh_9 : decode cX8_fresh 9 = .ok (.astore 4, 2) := by decide +kernel
theorem dX8_fresh_11 : decode cX8_fresh 11 = .ok (.aload_n 0, 1) := by decide +kernel
theorem dX8_fresh_12 : decode cX8_fresh 12 = .ok (.getfield 35, 3) := by decide +kernel
theorem dX8_fresh_15 : decode cX8_fresh 15 = .ok (.iload_n 1, 1) := by decide +kernel
theorem dX8_fresh_16 : decode cX8_fresh 16 = .ok (.iload_n 3, 1) := by decide +kernel
theorem dX8_fresh_17 : decode cX8_fresh 17 = .ok (.invokevirtual 144, 3) := by decide +kernel
theorem dX8_fresh_20 : decode cX8_fresh 20 = .ok (.astore 5, 2) := by decide +kernel
theorem dX8_fresh_22 : decode cX8_fresh 22 = .ok (.aload 4, 2) := by decide +kernel
theorem dX8_fresh_24 : decode cX8_fresh 24 = .ok (.ifnull 8, 3) := by decide +kernel
theorem dX8_fresh_27 : decode cX8_fresh 27 = .ok (.aload 5, 2) := by decide +kernel
theorem dX8_fresh_29 : decode cX8_fresh 29 = .ok (.ifnonnull 5, 3) := by decide +kernel
theorem dX8_fresh_32 : decode cX8_fresh 32 = .ok (.iconst (-1), 1) := by decide +kernel
theorem dX8_fresh_33 : decode cX8_fresh 33 = .ok (.ireturn, 1) := by decide +kernel
theorem dX8_fresh_34 : decode cX8_fresh 34 = .ok (.iload_n 2, 1) := by decide +kernel
theorem dX8_fresh_35 : decode cX8_fresh 35 = .ok (.iload_n 3, 1) := by decide +kernel
theorem dX8_fresh_36 : decode cX8_fresh 36 = .ok (.if_icmp .ne 8, 3) := by decide +kernel
theorem dX8_fresh_39 : decode cX8_fresh 39 = .ok (.bipush (-3), 2) := by decide +kernel
theorem dX8_fresh_41 : decode cX8_fresh 41 = .ok (.goto 14, 3) := by decide +kernel
theorem dX8_fresh_44 : decode cX8_fresh 44 = .ok (.aload_n 0, 1) := by decide +kernel
theorem dX8_fresh_45 : decode cX8_fresh 45 = .ok (.getfield 35, 3) := by decide +kernel
theorem dX8_fresh_48 : decode cX8_fresh 48 = .ok (.aload 4, 2) := by decide +kernel
theorem dX8_fresh_50 : decode cX8_fresh 50 = .ok (.aload 5, 2) := by decide +kernel
theorem dX8_fresh_52 : decode cX8_fresh 52 = .ok (.invokevirtual 178, 3) := by decide +kernel
theorem dX8_fresh_55 : decode cX8_fresh 55 = .ok (.ireturn, 1) := by decide +kernel
theorem dX8_forAll_0 : decode cX8_forAll 0 = .ok (.aload_n 0, 1) := by decide +kernel
theorem dX8_forAll_1 : decode cX8_forAll 1 = .ok (.getfield 35, 3) := by decide +kernel
theorem dX8_forAll_4 : decode cX8_forAll 4 = .ok (.iload_n 1, 1) := by decide +kernel
theorem dX8_forAll_5 : decode cX8_forAll 5 = .ok (.invokevirtual 153, 3) := by decide +kernel
theorem dX8_forAll_8 : decode cX8_forAll 8 = .ok (.astore_n 3, 1) := by decide +kernel
theorem dX8_forAll_9 : decode cX8_forAll 9 = .ok (.aload_n 3, 1) := by decide +kernel
theorem dX8_forAll_10 : decode cX8_forAll 10 = .ok (.ifnull 12, 3) := by decide +kernel
theorem dX8_forAll_13 : decode cX8_forAll 13 = .ok (.iload_n 2, 1) := by decide +kernel
theorem dX8_forAll_14 : decode cX8_forAll 14 = .ok (.ifCond .lt 8, 3) := by decide +kernel
theorem dX8_forAll_17 : decode cX8_forAll 17 = .ok (.iload_n 2, 1) := by decide +kernel
theorem dX8_forAll_18 : decode cX8_forAll 18 = .ok (.iconst 4, 1) := by decide +kernel
theorem dX8_forAll_19 : decode cX8_forAll 19 = .ok (.if_icmp .lt 5, 3) := by decide +kernel
theorem dX8_forAll_22 : decode cX8_forAll 22 = .ok (.iconst (-1), 1) := by decide +kernel
theorem dX8_forAll_23 : decode cX8_forAll 23 = .ok (.ireturn, 1) := by decide +kernel
theorem dX8_forAll_24 : decode cX8_forAll 24 = .ok (.aload_n 0, 1) := by decide +kernel
theorem dX8_forAll_25 : decode cX8_forAll 25 = .ok (.getfield 35, 3) := by decide +kernel
theorem dX8_forAll_28 : decode cX8_forAll 28 = .ok (.aload_n 3, 1) := by decide +kernel
theorem dX8_forAll_29 : decode cX8_forAll 29 = .ok (.iload_n 2, 1) := by decide +kernel
theorem dX8_forAll_30 : decode cX8_forAll 30 = .ok (.invokevirtual 182, 3) := by decide +kernel
theorem dX8_forAll_33 : decode cX8_forAll 33 = .ok (.ireturn, 1) := by decide +kernel
theorem dX8_sweep_0 : decode cX8_sweep 0 = .ok (.aload_n 0, 1) := by decide +kernel
theorem dX8_sweep_1 : decode cX8_sweep 1 = .ok (.getfield 35, 3) := by decide +kernel
theorem dX8_sweep_4 : decode cX8_sweep 4 = .ok (.invokevirtual 186, 3) := by decide +kernel
theorem dX8_sweep_7 : decode cX8_sweep 7 = .ok (.ireturn, 1) := by decide +kernel
theorem dX8_opened_0 : decode cX8_opened 0 = .ok (.iload_n 1, 1) := by decide +kernel
theorem dX8_opened_1 : decode cX8_opened 1 = .ok (.ifCond .lt 14, 3) := by decide +kernel
theorem dX8_opened_4 : decode cX8_opened 4 = .ok (.iload_n 1, 1) := by decide +kernel
theorem dX8_opened_5 : decode cX8_opened 5 = .ok (.aload_n 0, 1) := by decide +kernel
theorem dX8_opened_6 : decode cX8_opened 6 = .ok (.getfield 35, 3) := by decide +kernel
theorem dX8_opened_9 : decode cX8_opened 9 = .ok (.getfield 189, 3) := by decide +kernel
theorem dX8_opened_12 : decode cX8_opened 12 = .ok (.if_icmp .lt 7, 3) := by decide +kernel
theorem dX8_opened_15 : decode cX8_opened 15 = .ok (.iconst (-1), 1) := by decide +kernel
theorem dX8_opened_16 : decode cX8_opened 16 = .ok (.goto 15, 3) := by decide +kernel
theorem dX8_opened_19 : decode cX8_opened 19 = .ok (.aload_n 0, 1) := by decide +kernel
theorem dX8_opened_20 : decode cX8_opened 20 = .ok (.getfield 35, 3) := by decide +kernel
theorem dX8_opened_23 : decode cX8_opened 23 = .ok (.getfield 192, 3) := by decide +kernel
theorem dX8_opened_26 : decode cX8_opened 26 = .ok (.iload_n 1, 1) := by decide +kernel
theorem dX8_opened_27 : decode cX8_opened 27 = .ok (.aaload, 1) := by decide +kernel
theorem dX8_opened_28 : decode cX8_opened 28 = .ok (.getfield 196, 3) := by decide +kernel
theorem dX8_opened_31 : decode cX8_opened 31 = .ok (.ireturn, 1) := by decide +kernel
theorem dX8_text_0 : decode cX8_text 0 = .ok (.aload_n 0, 1) := by decide +kernel
theorem dX8_text_1 : decode cX8_text 1 = .ok (.getfield 12, 3) := by decide +kernel
theorem dX8_text_4 : decode cX8_text 4 = .ok (.iload_n 1, 1) := by decide +kernel
theorem dX8_text_5 : decode cX8_text 5 = .ok (.invokevirtual 107, 3) := by decide +kernel
theorem dX8_text_8 : decode cX8_text 8 = .ok (.ifCond .eq 14, 3) := by decide +kernel
theorem dX8_text_11 : decode cX8_text 11 = .ok (.iload_n 2, 1) := by decide +kernel
theorem dX8_text_12 : decode cX8_text 12 = .ok (.iconst (-1), 1) := by decide +kernel
theorem dX8_text_13 : decode cX8_text 13 = .ok (.if_icmp .lt 9, 3) := by decide +kernel
theorem dX8_text_16 : decode cX8_text 16 = .ok (.iload_n 2, 1) := by decide +kernel
theorem dX8_text_17 : decode cX8_text 17 = .ok (.bipush 39, 2) := by decide +kernel
theorem dX8_text_19 : decode cX8_text 19 = .ok (.if_icmp .le 6, 3) := by decide +kernel
theorem dX8_text_22 : decode cX8_text 22 = .ok (.bipush (-2), 2) := by decide +kernel
theorem dX8_text_24 : decode cX8_text 24 = .ok (.ireturn, 1) := by decide +kernel
theorem dX8_text_25 : decode cX8_text 25 = .ok (.aload_n 0, 1) := by decide +kernel
theorem dX8_text_26 : decode cX8_text 26 = .ok (.getfield 42, 3) := by decide +kernel
theorem dX8_text_29 : decode cX8_text 29 = .ok (.iload_n 1, 1) := by decide +kernel
theorem dX8_text_30 : decode cX8_text 30 = .ok (.aload_n 0, 1) := by decide +kernel
theorem dX8_text_31 : decode cX8_text 31 = .ok (.getfield 12, 3) := by decide +kernel
theorem dX8_text_34 : decode cX8_text 34 = .ok (.iload_n 1, 1) := by decide +kernel
theorem dX8_text_35 : decode cX8_text 35 = .ok (.invokevirtual 113, 3) := by decide +kernel
theorem dX8_text_38 : decode cX8_text 38 = .ok (.invokevirtual 199, 3) := by decide +kernel
theorem dX8_text_41 : decode cX8_text 41 = .ok (.aload_n 0, 1) := by decide +kernel
theorem dX8_text_42 : decode cX8_text 42 = .ok (.getfield 42, 3) := by decide +kernel
theorem dX8_text_45 : decode cX8_text 45 = .ok (.iload_n 2, 1) := by decide +kernel
theorem dX8_text_46 : decode cX8_text 46 = .ok (.invokevirtual 202, 3) := by decide +kernel
theorem dX8_text_49 : decode cX8_text 49 = .ok (.ireturn, 1) := by decide +kernel
theorem dX8_rows_0 : decode cX8_rows 0 = .ok (.aload_n 0, 1) := by decide +kernel
theorem dX8_rows_1 : decode cX8_rows 1 = .ok (.getfield 35, 3) := by decide +kernel
theorem dX8_rows_4 : decode cX8_rows 4 = .ok (.iload_n 1, 1) := by decide +kernel
theorem dX8_rows_5 : decode cX8_rows 5 = .ok (.invokevirtual 153, 3) := by decide +kernel
theorem dX8_rows_8 : decode cX8_rows 8 = .ok (.astore 4, 2) := by decide +kernel
theorem dX8_rows_10 : decode cX8_rows 10 = .ok (.aload_n 0, 1) := by decide +kernel
theorem dX8_rows_11 : decode cX8_rows 11 = .ok (.getfield 35, 3) := by decide +kernel
theorem dX8_rows_14 : decode cX8_rows 14 = .ok (.iload_n 1, 1) := by decide +kernel
theorem dX8_rows_15 : decode cX8_rows 15 = .ok (.iload_n 2, 1) := by decide +kernel
theorem dX8_rows_16 : decode cX8_rows 16 = .ok (.invokevirtual 144, 3) := by decide +kernel
theorem dX8_rows_19 : decode cX8_rows 19 = .ok (.astore 5, 2) := by decide +kernel
theorem dX8_rows_21 : decode cX8_rows 21 = .ok (.aload 4, 2) := by decide +kernel
theorem dX8_rows_23 : decode cX8_rows 23 = .ok (.ifnull 8, 3) := by decide +kernel
theorem dX8_rows_26 : decode cX8_rows 26 = .ok (.aload 5, 2) := by decide +kernel
theorem dX8_rows_28 : decode cX8_rows 28 = .ok (.ifnonnull 5, 3) := by decide +kernel
theorem dX8_rows_31 : decode cX8_rows 31 = .ok (.iconst (-1), 1) := by decide +kernel
theorem dX8_rows_32 : decode cX8_rows 32 = .ok (.ireturn, 1) := by decide +kernel
theorem dX8_rows_33 : decode cX8_rows 33 = .ok (.iload_n 3, 1) := by decide +kernel
theorem dX8_rows_34 : decode cX8_rows 34 = .ok (.iconst (-1), 1) := by decide +kernel
theorem dX8_rows_35 : decode cX8_rows 35 = .ok (.if_icmp .lt 9, 3) := by decide +kernel
theorem dX8_rows_38 : decode cX8_rows 38 = .ok (.iload_n 3, 1) := by decide +kernel
theorem dX8_rows_39 : decode cX8_rows 39 = .ok (.bipush 59, 2) := by decide +kernel
theorem dX8_rows_41 : decode cX8_rows 41 = .ok (.if_icmp .le 6, 3) := by decide +kernel
theorem dX8_rows_44 : decode cX8_rows 44 = .ok (.bipush (-2), 2) := by decide +kernel
theorem dX8_rows_46 : decode cX8_rows 46 = .ok (.ireturn, 1) := by decide +kernel
theorem dX8_rows_47 : decode cX8_rows 47 = .ok (.aload_n 0, 1) := by decide +kernel
theorem dX8_rows_48 : decode cX8_rows 48 = .ok (.getfield 42, 3) := by decide +kernel
theorem dX8_rows_51 : decode cX8_rows 51 = .ok (.aload 5, 2) := by decide +kernel
theorem dX8_rows_53 : decode cX8_rows 53 = .ok (.aload 4, 2) := by decide +kernel
theorem dX8_rows_55 : decode cX8_rows 55 = .ok (.getfield 160, 3) := by decide +kernel
theorem dX8_rows_58 : decode cX8_rows 58 = .ok (.invokevirtual 205, 3) := by decide +kernel
theorem dX8_rows_61 : decode cX8_rows 61 = .ok (.aload_n 0, 1) := by decide +kernel
theorem dX8_rows_62 : decode cX8_rows 62 = .ok (.getfield 42, 3) := by decide +kernel
theorem dX8_rows_65 : decode cX8_rows 65 = .ok (.iload_n 3, 1) := by decide +kernel
theorem dX8_rows_66 : decode cX8_rows 66 = .ok (.invokevirtual 202, 3) := by decide +kernel
theorem dX8_rows_69 : decode cX8_rows 69 = .ok (.ireturn, 1) := by decide +kernel
theorem dX8_many_0 : decode cX8_many 0 = .ok (.iload_n 1, 1) := by decide +kernel
theorem dX8_many_1 : decode cX8_many 1 = .ok (.tableswitch 132 0 8 #[51, 62, 73, 81, 89, 97, 105, 113, 121], 51) := by decide +kernel
theorem dX8_many_52 : decode cX8_many 52 = .ok (.aload_n 0, 1) := by decide +kernel
theorem dX8_many_53 : decode cX8_many 53 = .ok (.getfield 12, 3) := by decide +kernel
theorem dX8_many_56 : decode cX8_many 56 = .ok (.getfield 209, 3) := by decide +kernel
theorem dX8_many_59 : decode cX8_many 59 = .ok (.invokestatic 212, 3) := by decide +kernel
theorem dX8_many_62 : decode cX8_many 62 = .ok (.ireturn, 1) := by decide +kernel
theorem dX8_many_63 : decode cX8_many 63 = .ok (.aload_n 0, 1) := by decide +kernel
theorem dX8_many_64 : decode cX8_many 64 = .ok (.getfield 12, 3) := by decide +kernel
theorem dX8_many_67 : decode cX8_many 67 = .ok (.getfield 71, 3) := by decide +kernel
theorem dX8_many_70 : decode cX8_many 70 = .ok (.getfield 84, 3) := by decide +kernel
theorem dX8_many_73 : decode cX8_many 73 = .ok (.ireturn, 1) := by decide +kernel
theorem dX8_many_74 : decode cX8_many 74 = .ok (.aload_n 0, 1) := by decide +kernel
theorem dX8_many_75 : decode cX8_many 75 = .ok (.getfield 12, 3) := by decide +kernel
theorem dX8_many_78 : decode cX8_many 78 = .ok (.getfield 217, 3) := by decide +kernel
theorem dX8_many_81 : decode cX8_many 81 = .ok (.ireturn, 1) := by decide +kernel
theorem dX8_many_82 : decode cX8_many 82 = .ok (.aload_n 0, 1) := by decide +kernel
theorem dX8_many_83 : decode cX8_many 83 = .ok (.getfield 12, 3) := by decide +kernel
theorem dX8_many_86 : decode cX8_many 86 = .ok (.getfield 220, 3) := by decide +kernel
theorem dX8_many_89 : decode cX8_many 89 = .ok (.ireturn, 1) := by decide +kernel
theorem dX8_many_90 : decode cX8_many 90 = .ok (.aload_n 0, 1) := by decide +kernel
theorem dX8_many_91 : decode cX8_many 91 = .ok (.getfield 26, 3) := by decide +kernel
theorem dX8_many_94 : decode cX8_many 94 = .ok (.getfield 135, 3) := by decide +kernel
theorem dX8_many_97 : decode cX8_many 97 = .ok (.ireturn, 1) := by decide +kernel
theorem dX8_many_98 : decode cX8_many 98 = .ok (.aload_n 0, 1) := by decide +kernel
theorem dX8_many_99 : decode cX8_many 99 = .ok (.getfield 35, 3) := by decide +kernel
theorem dX8_many_102 : decode cX8_many 102 = .ok (.getfield 223, 3) := by decide +kernel
theorem dX8_many_105 : decode cX8_many 105 = .ok (.ireturn, 1) := by decide +kernel
theorem dX8_many_106 : decode cX8_many 106 = .ok (.aload_n 0, 1) := by decide +kernel
theorem dX8_many_107 : decode cX8_many 107 = .ok (.getfield 35, 3) := by decide +kernel
theorem dX8_many_110 : decode cX8_many 110 = .ok (.getfield 189, 3) := by decide +kernel
theorem dX8_many_113 : decode cX8_many 113 = .ok (.ireturn, 1) := by decide +kernel
theorem dX8_many_114 : decode cX8_many 114 = .ok (.aload_n 0, 1) := by decide +kernel
theorem dX8_many_115 : decode cX8_many 115 = .ok (.getfield 19, 3) := by decide +kernel
theorem dX8_many_118 : decode cX8_many 118 = .ok (.getfield 131, 3) := by decide +kernel
theorem dX8_many_121 : decode cX8_many 121 = .ok (.ireturn, 1) := by decide +kernel
theorem dX8_many_122 : decode cX8_many 122 = .ok (.aload_n 0, 1) := by decide +kernel
theorem dX8_many_123 : decode cX8_many 123 = .ok (.getfield 26, 3) := by decide +kernel
theorem dX8_many_126 : decode cX8_many 126 = .ok (.getfield 226, 3) := by decide +kernel
theorem dX8_many_129 : decode cX8_many 129 = .ok (.ldc 229, 2) := by decide +kernel
theorem dX8_many_131 : decode cX8_many 131 = .ok (.iand, 1) := by decide +kernel
theorem dX8_many_132 : decode cX8_many 132 = .ok (.ireturn, 1) := by decide +kernel
theorem dX8_many_133 : decode cX8_many 133 = .ok (.bipush (-2), 2) := by decide +kernel
theorem dX8_many_135 : decode cX8_many 135 = .ok (.ireturn, 1) := by decide +kernel
theorem dX8_isStation_0 : decode cX8_isStation 0 = .ok (.iload_n 0, 1) := by decide +kernel
theorem dX8_isStation_1 : decode cX8_isStation 1 = .ok (.ifCond .lt 13, 3) := by decide +kernel
theorem dX8_isStation_4 : decode cX8_isStation 4 = .ok (.iload_n 0, 1) := by decide +kernel
theorem dX8_isStation_5 : decode cX8_isStation 5 = .ok (.bipush 8, 2) := by decide +kernel
theorem dX8_isStation_7 : decode cX8_isStation 7 = .ok (.if_icmp .ge 7, 3) := by decide +kernel
theorem dX8_isStation_10 : decode cX8_isStation 10 = .ok (.iconst 1, 1) := by decide +kernel
theorem dX8_isStation_11 : decode cX8_isStation 11 = .ok (.goto 4, 3) := by decide +kernel
theorem dX8_isStation_14 : decode cX8_isStation 14 = .ok (.iconst 0, 1) := by decide +kernel
theorem dX8_isStation_15 : decode cX8_isStation 15 = .ok (.ireturn, 1) := by decide +kernel
end
section
theorem dJ6_bitCount_0f7a4_0 : decode cJ6_bitCount_0f7a4 0 = .ok (.iload_n 0, 1) := by decide +kernel
theorem dJ6_bitCount_0f7a4_1 : decode cJ6_bitCount_0f7a4 1 = .ok (.iload_n 0, 1) := by decide +kernel
theorem dJ6_bitCount_0f7a4_2 : decode cJ6_bitCount_0f7a4 2 = .ok (.iconst 1, 1) := by decide +kernel
theorem dJ6_bitCount_0f7a4_3 : decode cJ6_bitCount_0f7a4 3 = .ok (.iushr, 1) := by decide +kernel
theorem dJ6_bitCount_0f7a4_4 : decode cJ6_bitCount_0f7a4 4 = .ok (.ldc_w 265, 3) := by decide +kernel
theorem dJ6_bitCount_0f7a4_7 : decode cJ6_bitCount_0f7a4 7 = .ok (.iand, 1) := by decide +kernel
theorem dJ6_bitCount_0f7a4_8 : decode cJ6_bitCount_0f7a4 8 = .ok (.isub, 1) := by decide +kernel
theorem dJ6_bitCount_0f7a4_9 : decode cJ6_bitCount_0f7a4 9 = .ok (.istore_n 0, 1) := by decide +kernel
theorem dJ6_bitCount_0f7a4_10 : decode cJ6_bitCount_0f7a4 10 = .ok (.iload_n 0, 1) := by decide +kernel
theorem dJ6_bitCount_0f7a4_11 : decode cJ6_bitCount_0f7a4 11 = .ok (.ldc_w 266, 3) := by decide +kernel
theorem dJ6_bitCount_0f7a4_14 : decode cJ6_bitCount_0f7a4 14 = .ok (.iand, 1) := by decide +kernel
theorem dJ6_bitCount_0f7a4_15 : decode cJ6_bitCount_0f7a4 15 = .ok (.iload_n 0, 1) := by decide +kernel
theorem dJ6_bitCount_0f7a4_16 : decode cJ6_bitCount_0f7a4 16 = .ok (.iconst 2, 1) := by decide +kernel
theorem dJ6_bitCount_0f7a4_17 : decode cJ6_bitCount_0f7a4 17 = .ok (.iushr, 1) := by decide +kernel
theorem dJ6_bitCount_0f7a4_18 : decode cJ6_bitCount_0f7a4 18 = .ok (.ldc_w 266, 3) := by decide +kernel
theorem dJ6_bitCount_0f7a4_21 : decode cJ6_bitCount_0f7a4 21 = .ok (.iand, 1) := by decide +kernel
theorem dJ6_bitCount_0f7a4_22 : decode cJ6_bitCount_0f7a4 22 = .ok (.iadd, 1) := by decide +kernel
theorem dJ6_bitCount_0f7a4_23 : decode cJ6_bitCount_0f7a4 23 = .ok (.istore_n 0, 1) := by decide +kernel
theorem dJ6_bitCount_0f7a4_24 : decode cJ6_bitCount_0f7a4 24 = .ok (.iload_n 0, 1) := by decide +kernel
theorem dJ6_bitCount_0f7a4_25 : decode cJ6_bitCount_0f7a4 25 = .ok (.iload_n 0, 1) := by decide +kernel
theorem dJ6_bitCount_0f7a4_26 : decode cJ6_bitCount_0f7a4 26 = .ok (.iconst 4, 1) := by decide +kernel
theorem dJ6_bitCount_0f7a4_27 : decode cJ6_bitCount_0f7a4 27 = .ok (.iushr, 1) := by decide +kernel
theorem dJ6_bitCount_0f7a4_28 : decode cJ6_bitCount_0f7a4 28 = .ok (.iadd, 1) := by decide +kernel
theorem dJ6_bitCount_0f7a4_29 : decode cJ6_bitCount_0f7a4 29 = .ok (.ldc_w 267, 3) := by decide +kernel
theorem dJ6_bitCount_0f7a4_32 : decode cJ6_bitCount_0f7a4 32 = .ok (.iand, 1) := by decide +kernel
theorem dJ6_bitCount_0f7a4_33 : decode cJ6_bitCount_0f7a4 33 = .ok (.istore_n 0, 1) := by decide +kernel
theorem dJ6_bitCount_0f7a4_34 : decode cJ6_bitCount_0f7a4 34 = .ok (.iload_n 0, 1) := by decide +kernel
theorem dJ6_bitCount_0f7a4_35 : decode cJ6_bitCount_0f7a4 35 = .ok (.iload_n 0, 1) := by decide +kernel
theorem dJ6_bitCount_0f7a4_36 : decode cJ6_bitCount_0f7a4 36 = .ok (.bipush 8, 2) := by decide +kernel
theorem dJ6_bitCount_0f7a4_38 : decode cJ6_bitCount_0f7a4 38 = .ok (.iushr, 1) := by decide +kernel
theorem dJ6_bitCount_0f7a4_39 : decode cJ6_bitCount_0f7a4 39 = .ok (.iadd, 1) := by decide +kernel
theorem dJ6_bitCount_0f7a4_40 : decode cJ6_bitCount_0f7a4 40 = .ok (.istore_n 0, 1) := by decide +kernel
theorem dJ6_bitCount_0f7a4_41 : decode cJ6_bitCount_0f7a4 41 = .ok (.iload_n 0, 1) := by decide +kernel
theorem dJ6_bitCount_0f7a4_42 : decode cJ6_bitCount_0f7a4 42 = .ok (.iload_n 0, 1) := by decide +kernel
theorem dJ6_bitCount_0f7a4_43 : decode cJ6_bitCount_0f7a4 43 = .ok (.bipush 16, 2) := by decide +kernel
theorem dJ6_bitCount_0f7a4_45 : decode cJ6_bitCount_0f7a4 45 = .ok (.iushr, 1) := by decide +kernel
theorem dJ6_bitCount_0f7a4_46 : decode cJ6_bitCount_0f7a4 46 = .ok (.iadd, 1) := by decide +kernel
theorem dJ6_bitCount_0f7a4_47 : decode cJ6_bitCount_0f7a4 47 = .ok (.istore_n 0, 1) := by decide +kernel
theorem dJ6_bitCount_0f7a4_48 : decode cJ6_bitCount_0f7a4 48 = .ok (.iload_n 0, 1) := by decide +kernel
theorem dJ6_bitCount_0f7a4_49 : decode cJ6_bitCount_0f7a4 49 = .ok (.bipush 63, 2) := by decide +kernel
theorem dJ6_bitCount_0f7a4_51 : decode cJ6_bitCount_0f7a4 51 = .ok (.iand, 1) := by decide +kernel
theorem dJ6_bitCount_0f7a4_52 : decode cJ6_bitCount_0f7a4 52 = .ok (.ireturn, 1) := by decide +kernel
theorem dJ9_floorMod_7cf53_0 : decode cJ9_floorMod_7cf53 0 = .ok (.iload_n 0, 1) := by decide +kernel
theorem dJ9_floorMod_7cf53_1 : decode cJ9_floorMod_7cf53 1 = .ok (.iload_n 1, 1) := by decide +kernel
theorem dJ9_floorMod_7cf53_2 : decode cJ9_floorMod_7cf53 2 = .ok (.irem, 1) := by decide +kernel
theorem dJ9_floorMod_7cf53_3 : decode cJ9_floorMod_7cf53 3 = .ok (.istore_n 2, 1) := by decide +kernel
theorem dJ9_floorMod_7cf53_4 : decode cJ9_floorMod_7cf53 4 = .ok (.iload_n 0, 1) := by decide +kernel
theorem dJ9_floorMod_7cf53_5 : decode cJ9_floorMod_7cf53 5 = .ok (.iload_n 1, 1) := by decide +kernel
theorem dJ9_floorMod_7cf53_6 : decode cJ9_floorMod_7cf53 6 = .ok (.ixor, 1) := by decide +kernel
theorem dJ9_floorMod_7cf53_7 : decode cJ9_floorMod_7cf53 7 = .ok (.ifCond .ge 11, 3) := by decide +kernel
theorem dJ9_floorMod_7cf53_10 : decode cJ9_floorMod_7cf53 10 = .ok (.iload_n 2, 1) := by decide +kernel
theorem dJ9_floorMod_7cf53_11 : decode cJ9_floorMod_7cf53 11 = .ok (.ifCond .eq 7, 3) := by decide +kernel
theorem dJ9_floorMod_7cf53_14 : decode cJ9_floorMod_7cf53 14 = .ok (.iload_n 2, 1) := by decide +kernel
theorem dJ9_floorMod_7cf53_15 : decode cJ9_floorMod_7cf53 15 = .ok (.iload_n 1, 1) := by decide +kernel
theorem dJ9_floorMod_7cf53_16 : decode cJ9_floorMod_7cf53 16 = .ok (.iadd, 1) := by decide +kernel
theorem dJ9_floorMod_7cf53_17 : decode cJ9_floorMod_7cf53 17 = .ok (.ireturn, 1) := by decide +kernel
theorem dJ9_floorMod_7cf53_18 : decode cJ9_floorMod_7cf53 18 = .ok (.iload_n 2, 1) := by decide +kernel
theorem dJ9_floorMod_7cf53_19 : decode cJ9_floorMod_7cf53 19 = .ok (.ireturn, 1) := by decide +kernel
theorem dJ9_max_7cf53_0 : decode cJ9_max_7cf53 0 = .ok (.iload_n 0, 1) := by decide +kernel
theorem dJ9_max_7cf53_1 : decode cJ9_max_7cf53 1 = .ok (.iload_n 1, 1) := by decide +kernel
theorem dJ9_max_7cf53_2 : decode cJ9_max_7cf53 2 = .ok (.if_icmp .lt 7, 3) := by decide +kernel
theorem dJ9_max_7cf53_5 : decode cJ9_max_7cf53 5 = .ok (.iload_n 0, 1) := by decide +kernel
theorem dJ9_max_7cf53_6 : decode cJ9_max_7cf53 6 = .ok (.goto 4, 3) := by decide +kernel
theorem dJ9_max_7cf53_9 : decode cJ9_max_7cf53 9 = .ok (.iload_n 1, 1) := by decide +kernel
theorem dJ9_max_7cf53_10 : decode cJ9_max_7cf53 10 = .ok (.ireturn, 1) := by decide +kernel
theorem dJ0_length_8abf5_0 : decode cJ0_length_8abf5 0 = .ok (.aload_n 0, 1) := by decide +kernel
theorem dJ0_length_8abf5_1 : decode cJ0_length_8abf5 1 = .ok (.getfield 9, 3) := by decide +kernel
theorem dJ0_length_8abf5_4 : decode cJ0_length_8abf5 4 = .ok (.arraylength, 1) := by decide +kernel
theorem dJ0_length_8abf5_5 : decode cJ0_length_8abf5 5 = .ok (.aload_n 0, 1) := by decide +kernel
theorem dJ0_length_8abf5_6 : decode cJ0_length_8abf5 6 = .ok (.invokevirtual 335, 3) := by decide +kernel
theorem dJ0_length_8abf5_9 : decode cJ0_length_8abf5 9 = .ok (.ishr, 1) := by decide +kernel
theorem dJ0_length_8abf5_10 : decode cJ0_length_8abf5 10 = .ok (.ireturn, 1) := by decide +kernel
theorem dJ0_charAt_5068e_0 : decode cJ0_charAt_5068e 0 = .ok (.aload_n 0, 1) := by decide +kernel
theorem dJ0_charAt_5068e_1 : decode cJ0_charAt_5068e 1 = .ok (.invokevirtual 492, 3) := by decide +kernel
theorem dJ0_charAt_5068e_4 : decode cJ0_charAt_5068e 4 = .ok (.ifCond .eq 12, 3) := by decide +kernel
theorem dJ0_charAt_5068e_7 : decode cJ0_charAt_5068e 7 = .ok (.aload_n 0, 1) := by decide +kernel
theorem dJ0_charAt_5068e_8 : decode cJ0_charAt_5068e 8 = .ok (.getfield 9, 3) := by decide +kernel
theorem dJ0_charAt_5068e_11 : decode cJ0_charAt_5068e 11 = .ok (.iload_n 1, 1) := by decide +kernel
theorem dJ0_charAt_5068e_12 : decode cJ0_charAt_5068e 12 = .ok (.invokestatic 495, 3) := by decide +kernel
theorem dJ0_charAt_5068e_15 : decode cJ0_charAt_5068e 15 = .ok (.ireturn, 1) := by decide +kernel
theorem dJ0_charAt_5068e_16 : decode cJ0_charAt_5068e 16 = .ok (.aload_n 0, 1) := by decide +kernel
theorem dJ0_charAt_5068e_17 : decode cJ0_charAt_5068e 17 = .ok (.getfield 9, 3) := by decide +kernel
theorem dJ0_charAt_5068e_20 : decode cJ0_charAt_5068e 20 = .ok (.iload_n 1, 1) := by decide +kernel
theorem dJ0_charAt_5068e_21 : decode cJ0_charAt_5068e 21 = .ok (.invokestatic 498, 3) := by decide +kernel
theorem dJ0_charAt_5068e_24 : decode cJ0_charAt_5068e 24 = .ok (.ireturn, 1) := by decide +kernel
theorem dJ0_coder_7d493_0 : decode cJ0_coder_7d493 0 = .ok (.getstatic 38, 3) := by decide +kernel
theorem dJ0_coder_7d493_3 : decode cJ0_coder_7d493 3 = .ok (.ifCond .eq 10, 3) := by decide +kernel
theorem dJ0_coder_7d493_6 : decode cJ0_coder_7d493 6 = .ok (.aload_n 0, 1) := by decide +kernel
theorem dJ0_coder_7d493_7 : decode cJ0_coder_7d493 7 = .ok (.getfield 15, 3) := by decide +kernel
theorem dJ0_coder_7d493_10 : decode cJ0_coder_7d493 10 = .ok (.goto 4, 3) := by decide +kernel
theorem dJ0_coder_7d493_13 : decode cJ0_coder_7d493 13 = .ok (.iconst 1, 1) := by decide +kernel
theorem dJ0_coder_7d493_14 : decode cJ0_coder_7d493 14 = .ok (.ireturn, 1) := by decide +kernel
theorem dJ0_isLatin1_aae02_0 : decode cJ0_isLatin1_aae02 0 = .ok (.getstatic 38, 3) := by decide +kernel
theorem dJ0_isLatin1_aae02_3 : decode cJ0_isLatin1_aae02 3 = .ok (.ifCond .eq 14, 3) := by decide +kernel
theorem dJ0_isLatin1_aae02_6 : decode cJ0_isLatin1_aae02 6 = .ok (.aload_n 0, 1) := by decide +kernel
theorem dJ0_isLatin1_aae02_7 : decode cJ0_isLatin1_aae02 7 = .ok (.getfield 15, 3) := by decide +kernel
theorem dJ0_isLatin1_aae02_10 : decode cJ0_isLatin1_aae02 10 = .ok (.ifCond .ne 7, 3) := by decide +kernel
theorem dJ0_isLatin1_aae02_13 : decode cJ0_isLatin1_aae02 13 = .ok (.iconst 1, 1) := by decide +kernel
theorem dJ0_isLatin1_aae02_14 : decode cJ0_isLatin1_aae02 14 = .ok (.goto 4, 3) := by decide +kernel
theorem dJ0_isLatin1_aae02_17 : decode cJ0_isLatin1_aae02 17 = .ok (.iconst 0, 1) := by decide +kernel
theorem dJ0_isLatin1_aae02_18 : decode cJ0_isLatin1_aae02 18 = .ok (.ireturn, 1) := by decide +kernel
theorem dJ0_checkIndex_df160_0 : decode cJ0_checkIndex_df160 0 = .ok (.iload_n 0, 1) := by decide +kernel
theorem dJ0_checkIndex_df160_1 : decode cJ0_checkIndex_df160 1 = .ok (.iload_n 1, 1) := by decide +kernel
theorem dJ0_checkIndex_df160_2 : decode cJ0_checkIndex_df160 2 = .ok (.getstatic 1053, 3) := by decide +kernel
theorem dJ0_checkIndex_df160_5 : decode cJ0_checkIndex_df160 5 = .ok (.invokestatic 1059, 3) := by decide +kernel
theorem dJ0_checkIndex_df160_8 : decode cJ0_checkIndex_df160 8 = .ok (.pop, 1) := by decide +kernel
theorem dJ0_checkIndex_df160_9 : decode cJ0_checkIndex_df160 9 = .ok (.return_, 1) := by decide +kernel
theorem dJ1_charAt_3b067_0 : decode cJ1_charAt_3b067 0 = .ok (.iload_n 1, 1) := by decide +kernel
theorem dJ1_charAt_3b067_1 : decode cJ1_charAt_3b067 1 = .ok (.aload_n 0, 1) := by decide +kernel
theorem dJ1_charAt_3b067_2 : decode cJ1_charAt_3b067 2 = .ok (.arraylength, 1) := by decide +kernel
theorem dJ1_charAt_3b067_3 : decode cJ1_charAt_3b067 3 = .ok (.invokestatic 9, 3) := by decide +kernel
theorem dJ1_charAt_3b067_6 : decode cJ1_charAt_3b067 6 = .ok (.aload_n 0, 1) := by decide +kernel
theorem dJ1_charAt_3b067_7 : decode cJ1_charAt_3b067 7 = .ok (.iload_n 1, 1) := by decide +kernel
theorem dJ1_charAt_3b067_8 : decode cJ1_charAt_3b067 8 = .ok (.baload, 1) := by decide +kernel
theorem dJ1_charAt_3b067_9 : decode cJ1_charAt_3b067 9 = .ok (.sipush 255, 3) := by decide +kernel
theorem dJ1_charAt_3b067_12 : decode cJ1_charAt_3b067 12 = .ok (.iand, 1) := by decide +kernel
theorem dJ1_charAt_3b067_13 : decode cJ1_charAt_3b067 13 = .ok (.i2c, 1) := by decide +kernel
theorem dJ1_charAt_3b067_14 : decode cJ1_charAt_3b067 14 = .ok (.ireturn, 1) := by decide +kernel
theorem dJ2_getChar_3b067_0 : decode cJ2_getChar_3b067 0 = .ok (.getstatic 44, 3) := by decide +kernel
theorem dJ2_getChar_3b067_3 : decode cJ2_getChar_3b067 3 = .ok (.ifCond .ne 25, 3) := by decide +kernel
theorem dJ2_getChar_3b067_6 : decode cJ2_getChar_3b067 6 = .ok (.iload_n 1, 1) := by decide +kernel
theorem dJ2_getChar_3b067_7 : decode cJ2_getChar_3b067 7 = .ok (.ifCond .lt 11, 3) := by decide +kernel
theorem dJ2_getChar_3b067_10 : decode cJ2_getChar_3b067 10 = .ok (.iload_n 1, 1) := by decide +kernel
theorem dJ2_getChar_3b067_11 : decode cJ2_getChar_3b067 11 = .ok (.aload_n 0, 1) := by decide +kernel
theorem dJ2_getChar_3b067_12 : decode cJ2_getChar_3b067 12 = .ok (.invokestatic 48, 3) := by decide +kernel
theorem dJ2_getChar_3b067_15 : decode cJ2_getChar_3b067 15 = .ok (.if_icmp .lt 13, 3) := by decide +kernel
theorem dJ2_getChar_3b067_18 : decode cJ2_getChar_3b067 18 = .ok (.new 52, 3) := by decide +kernel
theorem dJ2_getChar_3b067_21 : decode cJ2_getChar_3b067 21 = .ok (.dup, 1) := by decide +kernel
theorem dJ2_getChar_3b067_22 : decode cJ2_getChar_3b067 22 = .ok (.ldc 54, 2) := by decide +kernel
theorem dJ2_getChar_3b067_24 : decode cJ2_getChar_3b067 24 = .ok (.invokespecial 56, 3) := by decide +kernel
theorem dJ2_getChar_3b067_27 : decode cJ2_getChar_3b067 27 = .ok (.athrow, 1) := by decide +kernel
theorem dJ2_getChar_3b067_28 : decode cJ2_getChar_3b067 28 = .ok (.iload_n 1, 1) := by decide +kernel
theorem dJ2_getChar_3b067_29 : decode cJ2_getChar_3b067 29 = .ok (.iconst 1, 1) := by decide +kernel
theorem dJ2_getChar_3b067_30 : decode cJ2_getChar_3b067 30 = .ok (.ishl, 1) := by decide +kernel
theorem dJ2_getChar_3b067_31 : decode cJ2_getChar_3b067 31 = .ok (.istore_n 1, 1) := by decide +kernel
theorem dJ2_getChar_3b067_32 : decode cJ2_getChar_3b067 32 = .ok (.aload_n 0, 1) := by decide +kernel
theorem dJ2_getChar_3b067_33 : decode cJ2_getChar_3b067 33 = .ok (.iload_n 1, 1) := by decide +kernel
theorem dJ2_getChar_3b067_34 : decode cJ2_getChar_3b067 34 = .ok (.iinc 1 1, 3) := by decide +kernel
theorem dJ2_getChar_3b067_37 : decode cJ2_getChar_3b067 37 = .ok (.baload, 1) := by decide +kernel
theorem dJ2_getChar_3b067_38 : decode cJ2_getChar_3b067 38 = .ok (.sipush 255, 3) := by decide +kernel
theorem dJ2_getChar_3b067_41 : decode cJ2_getChar_3b067 41 = .ok (.iand, 1) := by decide +kernel
theorem dJ2_getChar_3b067_42 : decode cJ2_getChar_3b067 42 = .ok (.getstatic 59, 3) := by decide +kernel
theorem dJ2_getChar_3b067_45 : decode cJ2_getChar_3b067 45 = .ok (.ishl, 1) := by decide +kernel
theorem dJ2_getChar_3b067_46 : decode cJ2_getChar_3b067 46 = .ok (.aload_n 0, 1) := by decide +kernel
theorem dJ2_getChar_3b067_47 : decode cJ2_getChar_3b067 47 = .ok (.iload_n 1, 1) := by decide +kernel
theorem dJ2_getChar_3b067_48 : decode cJ2_getChar_3b067 48 = .ok (.baload, 1) := by decide +kernel
theorem dJ2_getChar_3b067_49 : decode cJ2_getChar_3b067 49 = .ok (.sipush 255, 3) := by decide +kernel
theorem dJ2_getChar_3b067_52 : decode cJ2_getChar_3b067 52 = .ok (.iand, 1) := by decide +kernel
theorem dJ2_getChar_3b067_53 : decode cJ2_getChar_3b067 53 = .ok (.getstatic 63, 3) := by decide +kernel
theorem dJ2_getChar_3b067_56 : decode cJ2_getChar_3b067 56 = .ok (.ishl, 1) := by decide +kernel
theorem dJ2_getChar_3b067_57 : decode cJ2_getChar_3b067 57 = .ok (.ior, 1) := by decide +kernel
theorem dJ2_getChar_3b067_58 : decode cJ2_getChar_3b067 58 = .ok (.i2c, 1) := by decide +kernel
theorem dJ2_getChar_3b067_59 : decode cJ2_getChar_3b067 59 = .ok (.ireturn, 1) := by decide +kernel
theorem dJ2_length_9d52b_0 : decode cJ2_length_9d52b 0 = .ok (.aload_n 0, 1) := by decide +kernel
theorem dJ2_length_9d52b_1 : decode cJ2_length_9d52b 1 = .ok (.arraylength, 1) := by decide +kernel
theorem dJ2_length_9d52b_2 : decode cJ2_length_9d52b 2 = .ok (.iconst 1, 1) := by decide +kernel
theorem dJ2_length_9d52b_3 : decode cJ2_length_9d52b 3 = .ok (.ishr, 1) := by decide +kernel
theorem dJ2_length_9d52b_4 : decode cJ2_length_9d52b 4 = .ok (.ireturn, 1) := by decide +kernel
theorem dJ2_charAt_3b067_0 : decode cJ2_charAt_3b067 0 = .ok (.iload_n 1, 1) := by decide +kernel
theorem dJ2_charAt_3b067_1 : decode cJ2_charAt_3b067 1 = .ok (.aload_n 0, 1) := by decide +kernel
theorem dJ2_charAt_3b067_2 : decode cJ2_charAt_3b067 2 = .ok (.invokestatic 67, 3) := by decide +kernel
theorem dJ2_charAt_3b067_5 : decode cJ2_charAt_3b067 5 = .ok (.aload_n 0, 1) := by decide +kernel
theorem dJ2_charAt_3b067_6 : decode cJ2_charAt_3b067 6 = .ok (.iload_n 1, 1) := by decide +kernel
theorem dJ2_charAt_3b067_7 : decode cJ2_charAt_3b067 7 = .ok (.invokestatic 71, 3) := by decide +kernel
theorem dJ2_charAt_3b067_10 : decode cJ2_charAt_3b067 10 = .ok (.ireturn, 1) := by decide +kernel
theorem dJ2_checkIndex_2214a_0 : decode cJ2_checkIndex_2214a 0 = .ok (.iload_n 0, 1) := by decide +kernel
theorem dJ2_checkIndex_2214a_1 : decode cJ2_checkIndex_2214a 1 = .ok (.aload_n 1, 1) := by decide +kernel
theorem dJ2_checkIndex_2214a_2 : decode cJ2_checkIndex_2214a 2 = .ok (.invokestatic 48, 3) := by decide +kernel
theorem dJ2_checkIndex_2214a_5 : decode cJ2_checkIndex_2214a 5 = .ok (.invokestatic 414, 3) := by decide +kernel
theorem dJ2_checkIndex_2214a_8 : decode cJ2_checkIndex_2214a 8 = .ok (.return_, 1) := by decide +kernel
theorem dJ3_checkIndex_8e157_0 : decode cJ3_checkIndex_8e157 0 = .ok (.iload_n 0, 1) := by decide +kernel
theorem dJ3_checkIndex_8e157_1 : decode cJ3_checkIndex_8e157 1 = .ok (.ifCond .lt 8, 3) := by decide +kernel
theorem dJ3_checkIndex_8e157_4 : decode cJ3_checkIndex_8e157 4 = .ok (.iload_n 0, 1) := by decide +kernel
theorem dJ3_checkIndex_8e157_5 : decode cJ3_checkIndex_8e157 5 = .ok (.iload_n 1, 1) := by decide +kernel
theorem dJ3_checkIndex_8e157_6 : decode cJ3_checkIndex_8e157 6 = .ok (.if_icmp .lt 10, 3) := by decide +kernel
theorem dJ3_checkIndex_8e157_9 : decode cJ3_checkIndex_8e157 9 = .ok (.aload_n 2, 1) := by decide +kernel
theorem dJ3_checkIndex_8e157_10 : decode cJ3_checkIndex_8e157 10 = .ok (.iload_n 0, 1) := by decide +kernel
theorem dJ3_checkIndex_8e157_11 : decode cJ3_checkIndex_8e157 11 = .ok (.iload_n 1, 1) := by decide +kernel
theorem dJ3_checkIndex_8e157_12 : decode cJ3_checkIndex_8e157 12 = .ok (.invokestatic 95, 3) := by decide +kernel
theorem dJ3_checkIndex_8e157_15 : decode cJ3_checkIndex_8e157 15 = .ok (.athrow, 1) := by decide +kernel
theorem dJ3_checkIndex_8e157_16 : decode cJ3_checkIndex_8e157 16 = .ok (.iload_n 0, 1) := by decide +kernel
theorem dJ3_checkIndex_8e157_17 : decode cJ3_checkIndex_8e157 17 = .ok (.ireturn, 1) := by decide +kernel
end
section
theorem dX9_init_0 : decode cX9_init 0 = .ok (.aload_n 0, 1) := by decide +kernel
theorem dX9_init_1 : decode cX9_init 1 = .ok (.invokespecial 1, 3) := by decide +kernel
theorem dX9_init_4 : decode cX9_init 4 = .ok (.aload_n 0, 1) := by decide +kernel
theorem dX9_init_5 : decode cX9_init 5 = .ok (.bipush 10, 2) := by decide +kernel
theorem dX9_init_7 : decode cX9_init 7 = .ok (.newarray .int, 2) := by decide +kernel
theorem dX9_init_9 : decode cX9_init 9 = .ok (.putfield 7, 3) := by decide +kernel
theorem dX9_init_12 : decode cX9_init 12 = .ok (.aload_n 0, 1) := by decide +kernel
theorem dX9_init_13 : decode cX9_init 13 = .ok (.bipush 8, 2) := by decide +kernel
theorem dX9_init_15 : decode cX9_init 15 = .ok (.newarray .int, 2) := by decide +kernel
theorem dX9_init_17 : decode cX9_init 17 = .ok (.putfield 13, 3) := by decide +kernel
theorem dX9_init_20 : decode cX9_init 20 = .ok (.aload_n 0, 1) := by decide +kernel
theorem dX9_init_21 : decode cX9_init 21 = .ok (.bipush 16, 2) := by decide +kernel
theorem dX9_init_23 : decode cX9_init 23 = .ok (.newarray .int, 2) := by decide +kernel
theorem dX9_init_25 : decode cX9_init 25 = .ok (.putfield 16, 3) := by decide +kernel
theorem dX9_init_28 : decode cX9_init 28 = .ok (.aload_n 0, 1) := by decide +kernel
theorem dX9_init_29 : decode cX9_init 29 = .ok (.bipush 16, 2) := by decide +kernel
theorem dX9_init_31 : decode cX9_init 31 = .ok (.newarray .int, 2) := by decide +kernel
theorem dX9_init_33 : decode cX9_init 33 = .ok (.putfield 19, 3) := by decide +kernel
theorem dX9_init_36 : decode cX9_init 36 = .ok (.aload_n 0, 1) := by decide +kernel
theorem dX9_init_37 : decode cX9_init 37 = .ok (.sipush 255, 3) := by decide +kernel
theorem dX9_init_40 : decode cX9_init 40 = .ok (.putfield 22, 3) := by decide +kernel
theorem dX9_init_43 : decode cX9_init 43 = .ok (.aload_n 0, 1) := by decide +kernel
theorem dX9_init_44 : decode cX9_init 44 = .ok (.iconst 4, 1) := by decide +kernel
theorem dX9_init_45 : decode cX9_init 45 = .ok (.putfield 26, 3) := by decide +kernel
theorem dX9_init_48 : decode cX9_init 48 = .ok (.aload_n 0, 1) := by decide +kernel
theorem dX9_init_49 : decode cX9_init 49 = .ok (.bipush 12, 2) := by decide +kernel
theorem dX9_init_51 : decode cX9_init 51 = .ok (.newarray .int, 2) := by decide +kernel
theorem dX9_init_53 : decode cX9_init 53 = .ok (.putfield 29, 3) := by decide +kernel
theorem dX9_init_56 : decode cX9_init 56 = .ok (.aload_n 0, 1) := by decide +kernel
theorem dX9_init_57 : decode cX9_init 57 = .ok (.iconst 2, 1) := by decide +kernel
theorem dX9_init_58 : decode cX9_init 58 = .ok (.putfield 32, 3) := by decide +kernel
theorem dX9_init_61 : decode cX9_init 61 = .ok (.aload_n 0, 1) := by decide +kernel
theorem dX9_init_62 : decode cX9_init 62 = .ok (.iconst 3, 1) := by decide +kernel
theorem dX9_init_63 : decode cX9_init 63 = .ok (.newarray .int, 2) := by decide +kernel
theorem dX9_init_65 : decode cX9_init 65 = .ok (.putfield 35, 3) := by decide +kernel
theorem dX9_init_68 : decode cX9_init 68 = .ok (.aload_n 0, 1) := by decide +kernel
theorem dX9_init_69 : decode cX9_init 69 = .ok (.iconst 3, 1) := by decide +kernel
theorem dX9_init_70 : decode cX9_init 70 = .ok (.newarray .int, 2) := by decide +kernel
theorem dX9_init_72 : decode cX9_init 72 = .ok (.putfield 38, 3) := by decide +kernel
theorem dX9_init_75 : decode cX9_init 75 = .ok (.aload_n 0, 1) := by decide +kernel
theorem dX9_init_76 : decode cX9_init 76 = .ok (.bipush 12, 2) := by decide +kernel
theorem dX9_init_78 : decode cX9_init 78 = .ok (.newarray .int, 2) := by decide +kernel
theorem dX9_init_80 : decode cX9_init 80 = .ok (.putfield 41, 3) := by decide +kernel
theorem dX9_init_83 : decode cX9_init 83 = .ok (.aload_n 0, 1) := by decide +kernel
theorem dX9_init_84 : decode cX9_init 84 = .ok (.sipush 480, 3) := by decide +kernel
theorem dX9_init_87 : decode cX9_init 87 = .ok (.newarray .int, 2) := by decide +kernel
theorem dX9_init_89 : decode cX9_init 89 = .ok (.putfield 44, 3) := by decide +kernel
theorem dX9_init_92 : decode cX9_init 92 = .ok (.aload_n 0, 1) := by decide +kernel
theorem dX9_init_93 : decode cX9_init 93 = .ok (.iconst 1, 1) := by decide +kernel
theorem dX9_init_94 : decode cX9_init 94 = .ok (.putfield 47, 3) := by decide +kernel
theorem dX9_init_97 : decode cX9_init 97 = .ok (.aload_n 0, 1) := by decide +kernel
theorem dX9_init_98 : decode cX9_init 98 = .ok (.iconst 4, 1) := by decide +kernel
theorem dX9_init_99 : decode cX9_init 99 = .ok (.newarray .int, 2) := by decide +kernel
theorem dX9_init_101 : decode cX9_init 101 = .ok (.dup, 1) := by decide +kernel
theorem dX9_init_102 : decode cX9_init 102 = .ok (.iconst 0, 1) := by decide +kernel
theorem dX9_init_103 : decode cX9_init 103 = .ok (.iconst 2, 1) := by decide +kernel
theorem dX9_init_104 : decode cX9_init 104 = .ok (.iastore, 1) := by decide +kernel
theorem dX9_init_105 : decode cX9_init 105 = .ok (.dup, 1) := by decide +kernel
theorem dX9_init_106 : decode cX9_init 106 = .ok (.iconst 1, 1) := by decide +kernel
theorem dX9_init_107 : decode cX9_init 107 = .ok (.iconst 3, 1) := by decide +kernel
theorem dX9_init_108 : decode cX9_init 108 = .ok (.iastore, 1) := by decide +kernel
theorem dX9_init_109 : decode cX9_init 109 = .ok (.dup, 1) := by decide +kernel
theorem dX9_init_110 : decode cX9_init 110 = .ok (.iconst 2, 1) := by decide +kernel
theorem dX9_init_111 : decode cX9_init 111 = .ok (.iconst 5, 1) := by decide +kernel
theorem dX9_init_112 : decode cX9_init 112 = .ok (.iastore, 1) := by decide +kernel
theorem dX9_init_113 : decode cX9_init 113 = .ok (.dup, 1) := by decide +kernel
theorem dX9_init_114 : decode cX9_init 114 = .ok (.iconst 3, 1) := by decide +kernel
theorem dX9_init_115 : decode cX9_init 115 = .ok (.bipush 7, 2) := by decide +kernel
theorem dX9_init_117 : decode cX9_init 117 = .ok (.iastore, 1) := by decide +kernel
theorem dX9_init_118 : decode cX9_init 118 = .ok (.putfield 50, 3) := by decide +kernel
theorem dX9_init_121 : decode cX9_init 121 = .ok (.aload_n 0, 1) := by decide +kernel
theorem dX9_init_122 : decode cX9_init 122 = .ok (.iconst 4, 1) := by decide +kernel
theorem dX9_init_123 : decode cX9_init 123 = .ok (.newarray .int, 2) := by decide +kernel
theorem dX9_init_125 : decode cX9_init 125 = .ok (.dup, 1) := by decide +kernel
theorem dX9_init_126 : decode cX9_init 126 = .ok (.iconst 0, 1) := by decide +kernel
theorem dX9_init_127 : decode cX9_init 127 = .ok (.iconst 3, 1) := by decide +kernel
theorem dX9_init_128 : decode cX9_init 128 = .ok (.iastore, 1) := by decide +kernel
theorem dX9_init_129 : decode cX9_init 129 = .ok (.dup, 1) := by decide +kernel
theorem dX9_init_130 : decode cX9_init 130 = .ok (.iconst 1, 1) := by decide +kernel
theorem dX9_init_131 : decode cX9_init 131 = .ok (.iconst 5, 1) := by decide +kernel
theorem dX9_init_132 : decode cX9_init 132 = .ok (.iastore, 1) := by decide +kernel
theorem dX9_init_133 : decode cX9_init 133 = .ok (.dup, 1) := by decide +kernel
theorem dX9_init_134 : decode cX9_init 134 = .ok (.iconst 2, 1) := by decide +kernel
theorem dX9_init_135 : decode cX9_init 135 = .ok (.iconst 4, 1) := by decide +kernel
theorem dX9_init_136 : decode cX9_init 136 = .ok (.iastore, 1) := by decide +kernel
theorem dX9_init_137 : decode cX9_init 137 = .ok (.dup, 1) := by decide +kernel
theorem dX9_init_138 : decode cX9_init 138 = .ok (.iconst 3, 1) := by decide +kernel
theorem dX9_init_139 : decode cX9_init 139 = .ok (.iconst 5, 1) := by decide +kernel
theorem dX9_init_140 : decode cX9_init 140 = .ok (.iastore, 1) := by decide +kernel
theorem dX9_init_141 : decode cX9_init 141 = .ok (.putfield 53, 3) := by decide +kernel
theorem dX9_init_144 : decode cX9_init 144 = .ok (.aload_n 0, 1) := by decide +kernel
theorem dX9_init_145 : decode cX9_init 145 = .ok (.bipush 17, 2) := by decide +kernel
theorem dX9_init_147 : decode cX9_init 147 = .ok (.newarray .int, 2) := by decide +kernel
theorem dX9_init_149 : decode cX9_init 149 = .ok (.dup, 1) := by decide +kernel
theorem dX9_init_150 : decode cX9_init 150 = .ok (.iconst 0, 1) := by decide +kernel
theorem dX9_init_151 : decode cX9_init 151 = .ok (.bipush 116, 2) := by decide +kernel
theorem dX9_init_153 : decode cX9_init 153 = .ok (.iastore, 1) := by decide +kernel
theorem dX9_init_154 : decode cX9_init 154 = .ok (.dup, 1) := by decide +kernel
theorem dX9_init_155 : decode cX9_init 155 = .ok (.iconst 1, 1) := by decide +kernel
theorem dX9_init_156 : decode cX9_init 156 = .ok (.bipush 119, 2) := by decide +kernel
theorem dX9_init_158 : decode cX9_init 158 = .ok (.iastore, 1) := by decide +kernel
theorem dX9_init_159 : decode cX9_init 159 = .ok (.dup, 1) := by decide +kernel
theorem dX9_init_160 : decode cX9_init 160 = .ok (.iconst 2, 1) := by decide +kernel
theorem dX9_init_161 : decode cX9_init 161 = .ok (.bipush 111, 2) := by decide +kernel
theorem dX9_init_163 : decode cX9_init 163 = .ok (.iastore, 1) := by decide +kernel
theorem dX9_init_164 : decode cX9_init 164 = .ok (.dup, 1) := by decide +kernel
theorem dX9_init_165 : decode cX9_init 165 = .ok (.iconst 3, 1) := by decide +kernel
theorem dX9_init_166 : decode cX9_init 166 = .ok (.bipush 116, 2) := by decide +kernel
theorem dX9_init_168 : decode cX9_init 168 = .ok (.iastore, 1) := by decide +kernel
theorem dX9_init_169 : decode cX9_init 169 = .ok (.dup, 1) := by decide +kernel
theorem dX9_init_170 : decode cX9_init 170 = .ok (.iconst 4, 1) := by decide +kernel
theorem dX9_init_171 : decode cX9_init 171 = .ok (.bipush 104, 2) := by decide +kernel
theorem dX9_init_173 : decode cX9_init 173 = .ok (.iastore, 1) := by decide +kernel
theorem dX9_init_174 : decode cX9_init 174 = .ok (.dup, 1) := by decide +kernel
theorem dX9_init_175 : decode cX9_init 175 = .ok (.iconst 5, 1) := by decide +kernel
theorem dX9_init_176 : decode cX9_init 176 = .ok (.bipush 114, 2) := by decide +kernel
theorem dX9_init_178 : decode cX9_init 178 = .ok (.iastore, 1) := by decide +kernel
theorem dX9_init_179 : decode cX9_init 179 = .ok (.dup, 1) := by decide +kernel
theorem dX9_init_180 : decode cX9_init 180 = .ok (.bipush 6, 2) := by decide +kernel
theorem dX9_init_182 : decode cX9_init 182 = .ok (.bipush 101, 2) := by decide +kernel
theorem dX9_init_184 : decode cX9_init 184 = .ok (.iastore, 1) := by decide +kernel
theorem dX9_init_185 : decode cX9_init 185 = .ok (.dup, 1) := by decide +kernel
theorem dX9_init_186 : decode cX9_init 186 = .ok (.bipush 7, 2) := by decide +kernel
theorem dX9_init_188 : decode cX9_init 188 = .ok (.bipush 101, 2) := by decide +kernel
theorem dX9_init_190 : decode cX9_init 190 = .ok (.iastore, 1) := by decide +kernel
theorem dX9_init_191 : decode cX9_init 191 = .ok (.dup, 1) := by decide +kernel
theorem dX9_init_192 : decode cX9_init 192 = .ok (.bipush 8, 2) := by decide +kernel
theorem dX9_init_194 : decode cX9_init 194 = .ok (.bipush 102, 2) := by decide +kernel
theorem dX9_init_196 : decode cX9_init 196 = .ok (.iastore, 1) := by decide +kernel
theorem dX9_init_197 : decode cX9_init 197 = .ok (.dup, 1) := by decide +kernel
theorem dX9_init_198 : decode cX9_init 198 = .ok (.bipush 9, 2) := by decide +kernel
theorem dX9_init_200 : decode cX9_init 200 = .ok (.bipush 105, 2) := by decide +kernel
theorem dX9_init_202 : decode cX9_init 202 = .ok (.iastore, 1) := by decide +kernel
theorem dX9_init_203 : decode cX9_init 203 = .ok (.dup, 1) := by decide +kernel
theorem dX9_init_204 : decode cX9_init 204 = .ok (.bipush 10, 2) := by decide +kernel
theorem dX9_init_206 : decode cX9_init 206 = .ok (.bipush 118, 2) := by decide +kernel
theorem dX9_init_208 : decode cX9_init 208 = .ok (.iastore, 1) := by decide +kernel
theorem dX9_init_209 : decode cX9_init 209 = .ok (.dup, 1) := by decide +kernel
theorem dX9_init_210 : decode cX9_init 210 = .ok (.bipush 11, 2) := by decide +kernel
theorem dX9_init_212 : decode cX9_init 212 = .ok (.bipush 101, 2) := by decide +kernel
theorem dX9_init_214 : decode cX9_init 214 = .ok (.iastore, 1) := by decide +kernel
theorem dX9_init_215 : decode cX9_init 215 = .ok (.dup, 1) := by decide +kernel
theorem dX9_init_216 : decode cX9_init 216 = .ok (.bipush 12, 2) := by decide +kernel
theorem dX9_init_218 : decode cX9_init 218 = .ok (.bipush 115, 2) := by decide +kernel
theorem dX9_init_220 : decode cX9_init 220 = .ok (.iastore, 1) := by decide +kernel
theorem dX9_init_221 : decode cX9_init 221 = .ok (.dup, 1) := by decide +kernel
theorem dX9_init_222 : decode cX9_init 222 = .ok (.bipush 13, 2) := by decide +kernel
theorem dX9_init_224 : decode cX9_init 224 = .ok (.bipush 101, 2) := by decide +kernel
theorem dX9_init_226 : decode cX9_init 226 = .ok (.iastore, 1) := by decide +kernel
theorem dX9_init_227 : decode cX9_init 227 = .ok (.dup, 1) := by decide +kernel
theorem dX9_init_228 : decode cX9_init 228 = .ok (.bipush 14, 2) := by decide +kernel
theorem dX9_init_230 : decode cX9_init 230 = .ok (.bipush 118, 2) := by decide +kernel
theorem dX9_init_232 : decode cX9_init 232 = .ok (.iastore, 1) := by decide +kernel
theorem dX9_init_233 : decode cX9_init 233 = .ok (.dup, 1) := by decide +kernel
theorem dX9_init_234 : decode cX9_init 234 = .ok (.bipush 15, 2) := by decide +kernel
theorem dX9_init_236 : decode cX9_init 236 = .ok (.bipush 101, 2) := by decide +kernel
theorem dX9_init_238 : decode cX9_init 238 = .ok (.iastore, 1) := by decide +kernel
theorem dX9_init_239 : decode cX9_init 239 = .ok (.dup, 1) := by decide +kernel
theorem dX9_init_240 : decode cX9_init 240 = .ok (.bipush 16, 2) := by decide +kernel
theorem dX9_init_242 : decode cX9_init 242 = .ok (.bipush 110, 2) := by decide +kernel
theorem dX9_init_244 : decode cX9_init 244 = .ok (.iastore, 1) := by decide +kernel
theorem dX9_init_245 : decode cX9_init 245 = .ok (.putfield 56, 3) := by decide +kernel
theorem dX9_init_248 : decode cX9_init 248 = .ok (.aload_n 0, 1) := by decide +kernel
theorem dX9_init_249 : decode cX9_init 249 = .ok (.bipush 8, 2) := by decide +kernel
theorem dX9_init_251 : decode cX9_init 251 = .ok (.newarray .int, 2) := by decide +kernel
theorem dX9_init_253 : decode cX9_init 253 = .ok (.putfield 59, 3) := by decide +kernel
theorem dX9_init_256 : decode cX9_init 256 = .ok (.aload_n 0, 1) := by decide +kernel
theorem dX9_init_257 : decode cX9_init 257 = .ok (.bipush 8, 2) := by decide +kernel
theorem dX9_init_259 : decode cX9_init 259 = .ok (.newarray .int, 2) := by decide +kernel
theorem dX9_init_261 : decode cX9_init 261 = .ok (.putfield 62, 3) := by decide +kernel
theorem dX9_init_264 : decode cX9_init 264 = .ok (.aload_n 0, 1) := by decide +kernel
theorem dX9_init_265 : decode cX9_init 265 = .ok (.bipush 60, 2) := by decide +kernel
theorem dX9_init_267 : decode cX9_init 267 = .ok (.newarray .int, 2) := by decide +kernel
theorem dX9_init_269 : decode cX9_init 269 = .ok (.putfield 65, 3) := by decide +kernel
theorem dX9_init_272 : decode cX9_init 272 = .ok (.return_, 1) := by decide +kernel
theorem dX9_within_0 : decode cX9_within 0 = .ok (.iload_n 0, 1) := by decide +kernel
theorem dX9_within_1 : decode cX9_within 1 = .ok (.iload_n 1, 1) := by decide +kernel
theorem dX9_within_2 : decode cX9_within 2 = .ok (.if_icmp .lt 12, 3) := by decide +kernel
theorem dX9_within_5 : decode cX9_within 5 = .ok (.iload_n 0, 1) := by decide +kernel
theorem dX9_within_6 : decode cX9_within 6 = .ok (.iload_n 2, 1) := by decide +kernel
theorem dX9_within_7 : decode cX9_within 7 = .ok (.if_icmp .gt 7, 3) := by decide +kernel
theorem dX9_within_10 : decode cX9_within 10 = .ok (.iconst 1, 1) := by decide +kernel
theorem dX9_within_11 : decode cX9_within 11 = .ok (.goto 4, 3) := by decide +kernel
theorem dX9_within_14 : decode cX9_within 14 = .ok (.iconst 0, 1) := by decide +kernel
theorem dX9_within_15 : decode cX9_within 15 = .ok (.ireturn, 1) := by decide +kernel
theorem dX9_isIn_0 : decode cX9_isIn 0 = .ok (.iload_n 0, 1) := by decide +kernel
theorem dX9_isIn_1 : decode cX9_isIn 1 = .ok (.iload_n 1, 1) := by decide +kernel
theorem dX9_isIn_2 : decode cX9_isIn 2 = .ok (.ishr, 1) := by decide +kernel
theorem dX9_isIn_3 : decode cX9_isIn 3 = .ok (.iconst 1, 1) := by decide +kernel
theorem dX9_isIn_4 : decode cX9_isIn 4 = .ok (.iand, 1) := by decide +kernel
theorem dX9_isIn_5 : decode cX9_isIn 5 = .ok (.iconst 1, 1) := by decide +kernel
theorem dX9_isIn_6 : decode cX9_isIn 6 = .ok (.if_icmp .ne 7, 3) := by decide +kernel
theorem dX9_isIn_9 : decode cX9_isIn 9 = .ok (.iconst 1, 1) := by decide +kernel
theorem dX9_isIn_10 : decode cX9_isIn 10 = .ok (.goto 4, 3) := by decide +kernel
theorem dX9_isIn_13 : decode cX9_isIn 13 = .ok (.iconst 0, 1) := by decide +kernel
theorem dX9_isIn_14 : decode cX9_isIn 14 = .ok (.ireturn, 1) := by decide +kernel
theorem dX9_size_0 : decode cX9_size 0 = .ok (.iconst 0, 1) := by decide +kernel
theorem dX9_size_1 : decode cX9_size 1 = .ok (.istore_n 1, 1) := by decide +kernel
theorem dX9_size_2 : decode cX9_size 2 = .ok (.iconst 0, 1) := by decide +kernel
theorem dX9_size_3 : decode cX9_size 3 = .ok (.istore_n 2, 1) := by decide +kernel
theorem dX9_size_4 : decode cX9_size 4 = .ok (.iload_n 2, 1) := by decide +kernel
theorem dX9_size_5 : decode cX9_size 5 = .ok (.bipush 10, 2) := by decide +kernel
theorem dX9_size_7 : decode cX9_size 7 = .ok (.if_icmp .ge 17, 3) := by decide +kernel
theorem dX9_size_10 : decode cX9_size 10 = .ok (.iload_n 1, 1) := by decide +kernel
theorem dX9_size_11 : decode cX9_size 11 = .ok (.iload_n 0, 1) := by decide +kernel
theorem dX9_size_12 : decode cX9_size 12 = .ok (.iload_n 2, 1) := by decide +kernel
theorem dX9_size_13 : decode cX9_size 13 = .ok (.ishr, 1) := by decide +kernel
theorem dX9_size_14 : decode cX9_size 14 = .ok (.iconst 1, 1) := by decide +kernel
theorem dX9_size_15 : decode cX9_size 15 = .ok (.iand, 1) := by decide +kernel
theorem dX9_size_16 : decode cX9_size 16 = .ok (.iadd, 1) := by decide +kernel
theorem dX9_size_17 : decode cX9_size 17 = .ok (.istore_n 1, 1) := by decide +kernel
theorem dX9_size_18 : decode cX9_size 18 = .ok (.iinc 2 1, 3) := by decide +kernel
theorem dX9_size_21 : decode cX9_size 21 = .ok (.goto (-17), 3) := by decide +kernel
theorem dX9_size_24 : decode cX9_size 24 = .ok (.iload_n 1, 1) := by decide +kernel
theorem dX9_size_25 : decode cX9_size 25 = .ok (.ireturn, 1) := by decide +kernel
theorem dX9_isStation_0 : decode cX9_isStation 0 = .ok (.iload_n 0, 1) := by decide +kernel
theorem dX9_isStation_1 : decode cX9_isStation 1 = .ok (.iconst 0, 1) := by decide +kernel
theorem dX9_isStation_2 : decode cX9_isStation 2 = .ok (.bipush 7, 2) := by decide +kernel
theorem dX9_isStation_4 : decode cX9_isStation 4 = .ok (.invokestatic 68, 3) := by decide +kernel
theorem dX9_isStation_7 : decode cX9_isStation 7 = .ok (.ireturn, 1) := by decide +kernel
theorem dX9_isLetter_0 : decode cX9_isLetter 0 = .ok (.iload_n 1, 1) := by decide +kernel
theorem dX9_isLetter_1 : decode cX9_isLetter 1 = .ok (.iconst 0, 1) := by decide +kernel
theorem dX9_isLetter_2 : decode cX9_isLetter 2 = .ok (.bipush 9, 2) := by decide +kernel
theorem dX9_isLetter_4 : decode cX9_isLetter 4 = .ok (.invokestatic 68, 3) := by decide +kernel
theorem dX9_isLetter_7 : decode cX9_isLetter 7 = .ok (.ifCond .eq 18, 3) := by decide +kernel
theorem dX9_isLetter_10 : decode cX9_isLetter 10 = .ok (.aload_n 0, 1) := by decide +kernel
theorem dX9_isLetter_11 : decode cX9_isLetter 11 = .ok (.getfield 72, 3) := by decide +kernel
theorem dX9_isLetter_14 : decode cX9_isLetter 14 = .ok (.iload_n 1, 1) := by decide +kernel
theorem dX9_isLetter_15 : decode cX9_isLetter 15 = .ok (.invokestatic 75, 3) := by decide +kernel
theorem dX9_isLetter_18 : decode cX9_isLetter 18 = .ok (.ifCond .eq 7, 3) := by decide +kernel
theorem dX9_isLetter_21 : decode cX9_isLetter 21 = .ok (.iconst 1, 1) := by decide +kernel
theorem dX9_isLetter_22 : decode cX9_isLetter 22 = .ok (.goto 4, 3) := by decide +kernel
theorem dX9_isLetter_25 : decode cX9_isLetter 25 = .ok (.iconst 0, 1) := by decide +kernel
theorem dX9_isLetter_26 : decode cX9_isLetter 26 = .ok (.ireturn, 1) := by decide +kernel
theorem dX9_letter_0 : decode cX9_letter 0 = .ok (.iload_n 1, 1) := by decide +kernel
theorem dX9_letter_1 : decode cX9_letter 1 = .ok (.iconst 0, 1) := by decide +kernel
theorem dX9_letter_2 : decode cX9_letter 2 = .ok (.bipush 9, 2) := by decide +kernel
theorem dX9_letter_4 : decode cX9_letter 4 = .ok (.invokestatic 68, 3) := by decide +kernel
theorem dX9_letter_7 : decode cX9_letter 7 = .ok (.ifCond .ne 5, 3) := by decide +kernel
theorem dX9_letter_10 : decode cX9_letter 10 = .ok (.iconst (-1), 1) := by decide +kernel
theorem dX9_letter_11 : decode cX9_letter 11 = .ok (.ireturn, 1) := by decide +kernel
theorem dX9_letter_12 : decode cX9_letter 12 = .ok (.iload_n 2, 1) := by decide +kernel
theorem dX9_letter_13 : decode cX9_letter 13 = .ok (.iconst 0, 1) := by decide +kernel
theorem dX9_letter_14 : decode cX9_letter 14 = .ok (.sipush 255, 3) := by decide +kernel
theorem dX9_letter_17 : decode cX9_letter 17 = .ok (.invokestatic 68, 3) := by decide +kernel
theorem dX9_letter_20 : decode cX9_letter 20 = .ok (.ifCond .ne 6, 3) := by decide +kernel
theorem dX9_letter_23 : decode cX9_letter 23 = .ok (.bipush (-2), 2) := by decide +kernel
theorem dX9_letter_25 : decode cX9_letter 25 = .ok (.ireturn, 1) := by decide +kernel
theorem dX9_letter_26 : decode cX9_letter 26 = .ok (.aload_n 0, 1) := by decide +kernel
theorem dX9_letter_27 : decode cX9_letter 27 = .ok (.getfield 72, 3) := by decide +kernel
theorem dX9_letter_30 : decode cX9_letter 30 = .ok (.iload_n 1, 1) := by decide +kernel
theorem dX9_letter_31 : decode cX9_letter 31 = .ok (.ishr, 1) := by decide +kernel
theorem dX9_letter_32 : decode cX9_letter 32 = .ok (.iconst 1, 1) := by decide +kernel
theorem dX9_letter_33 : decode cX9_letter 33 = .ok (.iand, 1) := by decide +kernel
theorem dX9_letter_34 : decode cX9_letter 34 = .ok (.istore_n 3, 1) := by decide +kernel
theorem dX9_letter_35 : decode cX9_letter 35 = .ok (.aload_n 0, 1) := by decide +kernel
theorem dX9_letter_36 : decode cX9_letter 36 = .ok (.dup, 1) := by decide +kernel
theorem dX9_letter_37 : decode cX9_letter 37 = .ok (.getfield 72, 3) := by decide +kernel
theorem dX9_letter_40 : decode cX9_letter 40 = .ok (.iconst 1, 1) := by decide +kernel
theorem dX9_letter_41 : decode cX9_letter 41 = .ok (.iload_n 1, 1) := by decide +kernel
theorem dX9_letter_42 : decode cX9_letter 42 = .ok (.ishl, 1) := by decide +kernel
theorem dX9_letter_43 : decode cX9_letter 43 = .ok (.ior, 1) := by decide +kernel
theorem dX9_letter_44 : decode cX9_letter 44 = .ok (.putfield 72, 3) := by decide +kernel
theorem dX9_letter_47 : decode cX9_letter 47 = .ok (.aload_n 0, 1) := by decide +kernel
theorem dX9_letter_48 : decode cX9_letter 48 = .ok (.getfield 7, 3) := by decide +kernel
theorem dX9_letter_51 : decode cX9_letter 51 = .ok (.iload_n 1, 1) := by decide +kernel
theorem dX9_letter_52 : decode cX9_letter 52 = .ok (.iload_n 2, 1) := by decide +kernel
theorem dX9_letter_53 : decode cX9_letter 53 = .ok (.iastore, 1) := by decide +kernel
theorem dX9_letter_54 : decode cX9_letter 54 = .ok (.iload_n 3, 1) := by decide +kernel
theorem dX9_letter_55 : decode cX9_letter 55 = .ok (.ireturn, 1) := by decide +kernel
theorem dX9_goes_0 : decode cX9_goes 0 = .ok (.iconst 0, 1) := by decide +kernel
theorem dX9_goes_1 : decode cX9_goes 1 = .ok (.istore_n 3, 1) := by decide +kernel
theorem dX9_goes_2 : decode cX9_goes 2 = .ok (.iconst 0, 1) := by decide +kernel
theorem dX9_goes_3 : decode cX9_goes 3 = .ok (.istore 4, 2) := by decide +kernel
theorem dX9_goes_5 : decode cX9_goes 5 = .ok (.iload 4, 2) := by decide +kernel
theorem dX9_goes_7 : decode cX9_goes 7 = .ok (.aload_n 0, 1) := by decide +kernel
theorem dX9_goes_8 : decode cX9_goes 8 = .ok (.getfield 79, 3) := by decide +kernel
theorem dX9_goes_11 : decode cX9_goes 11 = .ok (.if_icmp .ge 71, 3) := by decide +kernel
theorem dX9_goes_14 : decode cX9_goes 14 = .ok (.aload_n 0, 1) := by decide +kernel
theorem dX9_goes_15 : decode cX9_goes 15 = .ok (.getfield 16, 3) := by decide +kernel
theorem dX9_goes_18 : decode cX9_goes 18 = .ok (.iload_n 3, 1) := by decide +kernel
theorem dX9_goes_19 : decode cX9_goes 19 = .ok (.aload_n 0, 1) := by decide +kernel
theorem dX9_goes_20 : decode cX9_goes 20 = .ok (.getfield 16, 3) := by decide +kernel
theorem dX9_goes_23 : decode cX9_goes 23 = .ok (.iload 4, 2) := by decide +kernel
theorem dX9_goes_25 : decode cX9_goes 25 = .ok (.iaload, 1) := by decide +kernel
theorem dX9_goes_26 : decode cX9_goes 26 = .ok (.iastore, 1) := by decide +kernel
theorem dX9_goes_27 : decode cX9_goes 27 = .ok (.aload_n 0, 1) := by decide +kernel
theorem dX9_goes_28 : decode cX9_goes 28 = .ok (.getfield 19, 3) := by decide +kernel
theorem dX9_goes_31 : decode cX9_goes 31 = .ok (.iload_n 3, 1) := by decide +kernel
theorem dX9_goes_32 : decode cX9_goes 32 = .ok (.aload_n 0, 1) := by decide +kernel
theorem dX9_goes_33 : decode cX9_goes 33 = .ok (.getfield 19, 3) := by decide +kernel
theorem dX9_goes_36 : decode cX9_goes 36 = .ok (.iload 4, 2) := by decide +kernel
theorem dX9_goes_38 : decode cX9_goes 38 = .ok (.iaload, 1) := by decide +kernel
theorem dX9_goes_39 : decode cX9_goes 39 = .ok (.iastore, 1) := by decide +kernel
theorem dX9_goes_40 : decode cX9_goes 40 = .ok (.iload_n 3, 1) := by decide +kernel
theorem dX9_goes_41 : decode cX9_goes 41 = .ok (.aload_n 0, 1) := by decide +kernel
theorem dX9_goes_42 : decode cX9_goes 42 = .ok (.getfield 16, 3) := by decide +kernel
theorem dX9_goes_45 : decode cX9_goes 45 = .ok (.iload 4, 2) := by decide +kernel
theorem dX9_goes_47 : decode cX9_goes 47 = .ok (.iaload, 1) := by decide +kernel
theorem dX9_goes_48 : decode cX9_goes 48 = .ok (.iload_n 1, 1) := by decide +kernel
theorem dX9_goes_49 : decode cX9_goes 49 = .ok (.if_icmp .ne 24, 3) := by decide +kernel
theorem dX9_goes_52 : decode cX9_goes 52 = .ok (.iload_n 2, 1) := by decide +kernel
theorem dX9_goes_53 : decode cX9_goes 53 = .ok (.bipush (-9), 2) := by decide +kernel
theorem dX9_goes_55 : decode cX9_goes 55 = .ok (.if_icmp .eq 14, 3) := by decide +kernel
theorem dX9_goes_58 : decode cX9_goes 58 = .ok (.aload_n 0, 1) := by decide +kernel
theorem dX9_goes_59 : decode cX9_goes 59 = .ok (.getfield 19, 3) := by decide +kernel
theorem dX9_goes_62 : decode cX9_goes 62 = .ok (.iload 4, 2) := by decide +kernel
theorem dX9_goes_64 : decode cX9_goes 64 = .ok (.iaload, 1) := by decide +kernel
theorem dX9_goes_65 : decode cX9_goes 65 = .ok (.iload_n 2, 1) := by decide +kernel
theorem dX9_goes_66 : decode cX9_goes 66 = .ok (.if_icmp .ne 7, 3) := by decide +kernel
theorem dX9_goes_69 : decode cX9_goes 69 = .ok (.iconst 0, 1) := by decide +kernel
theorem dX9_goes_70 : decode cX9_goes 70 = .ok (.goto 4, 3) := by decide +kernel
theorem dX9_goes_73 : decode cX9_goes 73 = .ok (.iconst 1, 1) := by decide +kernel
theorem dX9_goes_74 : decode cX9_goes 74 = .ok (.iadd, 1) := by decide +kernel
theorem dX9_goes_75 : decode cX9_goes 75 = .ok (.istore_n 3, 1) := by decide +kernel
theorem dX9_goes_76 : decode cX9_goes 76 = .ok (.iinc 4 1, 3) := by decide +kernel
theorem dX9_goes_79 : decode cX9_goes 79 = .ok (.goto (-74), 3) := by decide +kernel
theorem dX9_goes_82 : decode cX9_goes 82 = .ok (.aload_n 0, 1) := by decide +kernel
theorem dX9_goes_83 : decode cX9_goes 83 = .ok (.getfield 79, 3) := by decide +kernel
theorem dX9_goes_86 : decode cX9_goes 86 = .ok (.iload_n 3, 1) := by decide +kernel
theorem dX9_goes_87 : decode cX9_goes 87 = .ok (.isub, 1) := by decide +kernel
theorem dX9_goes_88 : decode cX9_goes 88 = .ok (.istore 4, 2) := by decide +kernel
theorem dX9_goes_90 : decode cX9_goes 90 = .ok (.aload_n 0, 1) := by decide +kernel
theorem dX9_goes_91 : decode cX9_goes 91 = .ok (.iload_n 3, 1) := by decide +kernel
theorem dX9_goes_92 : decode cX9_goes 92 = .ok (.putfield 79, 3) := by decide +kernel
theorem dX9_goes_95 : decode cX9_goes 95 = .ok (.iload 4, 2) := by decide +kernel
theorem dX9_goes_97 : decode cX9_goes 97 = .ok (.ireturn, 1) := by decide +kernel
theorem dX9_drop_0 : decode cX9_drop 0 = .ok (.aload_n 0, 1) := by decide +kernel
theorem dX9_drop_1 : decode cX9_drop 1 = .ok (.iload_n 1, 1) := by decide +kernel
theorem dX9_drop_2 : decode cX9_drop 2 = .ok (.invokevirtual 82, 3) := by decide +kernel
theorem dX9_drop_5 : decode cX9_drop 5 = .ok (.ifCond .ne 5, 3) := by decide +kernel
theorem dX9_drop_8 : decode cX9_drop 8 = .ok (.iconst (-1), 1) := by decide +kernel
theorem dX9_drop_9 : decode cX9_drop 9 = .ok (.ireturn, 1) := by decide +kernel
theorem dX9_drop_10 : decode cX9_drop 10 = .ok (.aload_n 0, 1) := by decide +kernel
theorem dX9_drop_11 : decode cX9_drop 11 = .ok (.dup, 1) := by decide +kernel
theorem dX9_drop_12 : decode cX9_drop 12 = .ok (.getfield 72, 3) := by decide +kernel
theorem dX9_drop_15 : decode cX9_drop 15 = .ok (.iconst 1, 1) := by decide +kernel
theorem dX9_drop_16 : decode cX9_drop 16 = .ok (.iload_n 1, 1) := by decide +kernel
theorem dX9_drop_17 : decode cX9_drop 17 = .ok (.ishl, 1) := by decide +kernel
theorem dX9_drop_18 : decode cX9_drop 18 = .ok (.iconst (-1), 1) := by decide +kernel
theorem dX9_drop_19 : decode cX9_drop 19 = .ok (.ixor, 1) := by decide +kernel
theorem dX9_drop_20 : decode cX9_drop 20 = .ok (.iand, 1) := by decide +kernel
theorem dX9_drop_21 : decode cX9_drop 21 = .ok (.putfield 72, 3) := by decide +kernel
theorem dX9_drop_24 : decode cX9_drop 24 = .ok (.iconst 0, 1) := by decide +kernel
theorem dX9_drop_25 : decode cX9_drop 25 = .ok (.istore_n 2, 1) := by decide +kernel
theorem dX9_drop_26 : decode cX9_drop 26 = .ok (.iload_n 2, 1) := by decide +kernel
theorem dX9_drop_27 : decode cX9_drop 27 = .ok (.bipush 8, 2) := by decide +kernel
theorem dX9_drop_29 : decode cX9_drop 29 = .ok (.if_icmp .ge 23, 3) := by decide +kernel
theorem dX9_drop_32 : decode cX9_drop 32 = .ok (.aload_n 0, 1) := by decide +kernel
theorem dX9_drop_33 : decode cX9_drop 33 = .ok (.getfield 13, 3) := by decide +kernel
theorem dX9_drop_36 : decode cX9_drop 36 = .ok (.iload_n 2, 1) := by decide +kernel
theorem dX9_drop_37 : decode cX9_drop 37 = .ok (.dup2, 1) := by decide +kernel
theorem dX9_drop_38 : decode cX9_drop 38 = .ok (.iaload, 1) := by decide +kernel
theorem dX9_drop_39 : decode cX9_drop 39 = .ok (.iconst 1, 1) := by decide +kernel
theorem dX9_drop_40 : decode cX9_drop 40 = .ok (.iload_n 1, 1) := by decide +kernel
theorem dX9_drop_41 : decode cX9_drop 41 = .ok (.ishl, 1) := by decide +kernel
theorem dX9_drop_42 : decode cX9_drop 42 = .ok (.iconst (-1), 1) := by decide +kernel
theorem dX9_drop_43 : decode cX9_drop 43 = .ok (.ixor, 1) := by decide +kernel
theorem dX9_drop_44 : decode cX9_drop 44 = .ok (.iand, 1) := by decide +kernel
theorem dX9_drop_45 : decode cX9_drop 45 = .ok (.iastore, 1) := by decide +kernel
theorem dX9_drop_46 : decode cX9_drop 46 = .ok (.iinc 2 1, 3) := by decide +kernel
theorem dX9_drop_49 : decode cX9_drop 49 = .ok (.goto (-23), 3) := by decide +kernel
theorem dX9_drop_52 : decode cX9_drop 52 = .ok (.aload_n 0, 1) := by decide +kernel
theorem dX9_drop_53 : decode cX9_drop 53 = .ok (.iload_n 1, 1) := by decide +kernel
theorem dX9_drop_54 : decode cX9_drop 54 = .ok (.bipush (-9), 2) := by decide +kernel
theorem dX9_drop_56 : decode cX9_drop 56 = .ok (.invokevirtual 86, 3) := by decide +kernel
theorem dX9_drop_59 : decode cX9_drop 59 = .ok (.ireturn, 1) := by decide +kernel
theorem dX9_has_0 : decode cX9_has 0 = .ok (.iload_n 1, 1) := by decide +kernel
theorem dX9_has_1 : decode cX9_has 1 = .ok (.invokestatic 90, 3) := by decide +kernel
theorem dX9_has_4 : decode cX9_has 4 = .ok (.ifCond .eq 11, 3) := by decide +kernel
theorem dX9_has_7 : decode cX9_has 7 = .ok (.aload_n 0, 1) := by decide +kernel
theorem dX9_has_8 : decode cX9_has 8 = .ok (.iload_n 2, 1) := by decide +kernel
theorem dX9_has_9 : decode cX9_has 9 = .ok (.invokevirtual 82, 3) := by decide +kernel
theorem dX9_has_12 : decode cX9_has 12 = .ok (.ifCond .ne 5, 3) := by decide +kernel
theorem dX9_has_15 : decode cX9_has 15 = .ok (.iconst (-1), 1) := by decide +kernel
theorem dX9_has_16 : decode cX9_has 16 = .ok (.ireturn, 1) := by decide +kernel
theorem dX9_has_17 : decode cX9_has 17 = .ok (.iload_n 3, 1) := by decide +kernel
theorem dX9_has_18 : decode cX9_has 18 = .ok (.iconst 0, 1) := by decide +kernel
theorem dX9_has_19 : decode cX9_has 19 = .ok (.iconst 1, 1) := by decide +kernel
theorem dX9_has_20 : decode cX9_has 20 = .ok (.invokestatic 68, 3) := by decide +kernel
theorem dX9_has_23 : decode cX9_has 23 = .ok (.ifCond .ne 6, 3) := by decide +kernel
theorem dX9_has_26 : decode cX9_has 26 = .ok (.bipush (-2), 2) := by decide +kernel
theorem dX9_has_28 : decode cX9_has 28 = .ok (.ireturn, 1) := by decide +kernel
theorem dX9_has_29 : decode cX9_has 29 = .ok (.aload_n 0, 1) := by decide +kernel
theorem dX9_has_30 : decode cX9_has 30 = .ok (.getfield 13, 3) := by decide +kernel
theorem dX9_has_33 : decode cX9_has 33 = .ok (.iload_n 1, 1) := by decide +kernel
theorem dX9_has_34 : decode cX9_has 34 = .ok (.iaload, 1) := by decide +kernel
theorem dX9_has_35 : decode cX9_has 35 = .ok (.iload_n 2, 1) := by decide +kernel
theorem dX9_has_36 : decode cX9_has 36 = .ok (.ishr, 1) := by decide +kernel
theorem dX9_has_37 : decode cX9_has 37 = .ok (.iconst 1, 1) := by decide +kernel
theorem dX9_has_38 : decode cX9_has 38 = .ok (.iand, 1) := by decide +kernel
theorem dX9_has_39 : decode cX9_has 39 = .ok (.istore 4, 2) := by decide +kernel
theorem dX9_has_41 : decode cX9_has 41 = .ok (.aload_n 0, 1) := by decide +kernel
theorem dX9_has_42 : decode cX9_has 42 = .ok (.getfield 13, 3) := by decide +kernel
theorem dX9_has_45 : decode cX9_has 45 = .ok (.iload_n 1, 1) := by decide +kernel
theorem dX9_has_46 : decode cX9_has 46 = .ok (.aload_n 0, 1) := by decide +kernel
theorem dX9_has_47 : decode cX9_has 47 = .ok (.getfield 13, 3) := by decide +kernel
theorem dX9_has_50 : decode cX9_has 50 = .ok (.iload_n 1, 1) := by decide +kernel
theorem dX9_has_51 : decode cX9_has 51 = .ok (.iaload, 1) := by decide +kernel
theorem dX9_has_52 : decode cX9_has 52 = .ok (.iconst 1, 1) := by decide +kernel
end
section
theorem dX9_has_53 : decode cX9_has 53 = .ok (.iload_n 2, 1) := by decide +kernel
theorem dX9_has_54 : decode cX9_has 54 = .ok (.ishl, 1) := by decide +kernel
theorem dX9_has_55 : decode cX9_has 55 = .ok (.iconst (-1), 1) := by decide +kernel
theorem dX9_has_56 : decode cX9_has 56 = .ok (.ixor, 1) := by decide +kernel
theorem dX9_has_57 : decode cX9_has 57 = .ok (.iand, 1) := by decide +kernel
theorem dX9_has_58 : decode cX9_has 58 = .ok (.iload_n 3, 1) := by decide +kernel
theorem dX9_has_59 : decode cX9_has 59 = .ok (.iload_n 2, 1) := by decide +kernel
theorem dX9_has_60 : decode cX9_has 60 = .ok (.ishl, 1) := by decide +kernel
theorem dX9_has_61 : decode cX9_has 61 = .ok (.ior, 1) := by decide +kernel
theorem dX9_has_62 : decode cX9_has 62 = .ok (.iastore, 1) := by decide +kernel
theorem dX9_has_63 : decode cX9_has 63 = .ok (.iload_n 3, 1) := by decide +kernel
theorem dX9_has_64 : decode cX9_has 64 = .ok (.iconst 1, 1) := by decide +kernel
theorem dX9_has_65 : decode cX9_has 65 = .ok (.if_icmp .ne 10, 3) := by decide +kernel
theorem dX9_has_68 : decode cX9_has 68 = .ok (.aload_n 0, 1) := by decide +kernel
theorem dX9_has_69 : decode cX9_has 69 = .ok (.iload_n 2, 1) := by decide +kernel
theorem dX9_has_70 : decode cX9_has 70 = .ok (.iload_n 1, 1) := by decide +kernel
theorem dX9_has_71 : decode cX9_has 71 = .ok (.invokevirtual 86, 3) := by decide +kernel
theorem dX9_has_74 : decode cX9_has 74 = .ok (.pop, 1) := by decide +kernel
theorem dX9_has_75 : decode cX9_has 75 = .ok (.iload 4, 2) := by decide +kernel
theorem dX9_has_77 : decode cX9_has 77 = .ok (.ireturn, 1) := by decide +kernel
theorem dX9_isWanted_0 : decode cX9_isWanted 0 = .ok (.iconst 0, 1) := by decide +kernel
theorem dX9_isWanted_1 : decode cX9_isWanted 1 = .ok (.istore_n 3, 1) := by decide +kernel
theorem dX9_isWanted_2 : decode cX9_isWanted 2 = .ok (.iload_n 3, 1) := by decide +kernel
theorem dX9_isWanted_3 : decode cX9_isWanted 3 = .ok (.aload_n 0, 1) := by decide +kernel
theorem dX9_isWanted_4 : decode cX9_isWanted 4 = .ok (.getfield 79, 3) := by decide +kernel
theorem dX9_isWanted_7 : decode cX9_isWanted 7 = .ok (.if_icmp .ge 31, 3) := by decide +kernel
theorem dX9_isWanted_10 : decode cX9_isWanted 10 = .ok (.aload_n 0, 1) := by decide +kernel
theorem dX9_isWanted_11 : decode cX9_isWanted 11 = .ok (.getfield 16, 3) := by decide +kernel
theorem dX9_isWanted_14 : decode cX9_isWanted 14 = .ok (.iload_n 3, 1) := by decide +kernel
theorem dX9_isWanted_15 : decode cX9_isWanted 15 = .ok (.iaload, 1) := by decide +kernel
theorem dX9_isWanted_16 : decode cX9_isWanted 16 = .ok (.iload_n 1, 1) := by decide +kernel
theorem dX9_isWanted_17 : decode cX9_isWanted 17 = .ok (.if_icmp .ne 15, 3) := by decide +kernel
theorem dX9_isWanted_20 : decode cX9_isWanted 20 = .ok (.aload_n 0, 1) := by decide +kernel
theorem dX9_isWanted_21 : decode cX9_isWanted 21 = .ok (.getfield 19, 3) := by decide +kernel
theorem dX9_isWanted_24 : decode cX9_isWanted 24 = .ok (.iload_n 3, 1) := by decide +kernel
theorem dX9_isWanted_25 : decode cX9_isWanted 25 = .ok (.iaload, 1) := by decide +kernel
theorem dX9_isWanted_26 : decode cX9_isWanted 26 = .ok (.iload_n 2, 1) := by decide +kernel
theorem dX9_isWanted_27 : decode cX9_isWanted 27 = .ok (.if_icmp .ne 5, 3) := by decide +kernel
theorem dX9_isWanted_30 : decode cX9_isWanted 30 = .ok (.iconst 1, 1) := by decide +kernel
theorem dX9_isWanted_31 : decode cX9_isWanted 31 = .ok (.ireturn, 1) := by decide +kernel
theorem dX9_isWanted_32 : decode cX9_isWanted 32 = .ok (.iinc 3 1, 3) := by decide +kernel
theorem dX9_isWanted_35 : decode cX9_isWanted 35 = .ok (.goto (-33), 3) := by decide +kernel
theorem dX9_isWanted_38 : decode cX9_isWanted 38 = .ok (.iconst 0, 1) := by decide +kernel
theorem dX9_isWanted_39 : decode cX9_isWanted 39 = .ok (.ireturn, 1) := by decide +kernel
theorem dX9_want_0 : decode cX9_want 0 = .ok (.iload_n 2, 1) := by decide +kernel
theorem dX9_want_1 : decode cX9_want 1 = .ok (.invokestatic 90, 3) := by decide +kernel
theorem dX9_want_4 : decode cX9_want 4 = .ok (.ifCond .eq 11, 3) := by decide +kernel
theorem dX9_want_7 : decode cX9_want 7 = .ok (.aload_n 0, 1) := by decide +kernel
theorem dX9_want_8 : decode cX9_want 8 = .ok (.iload_n 1, 1) := by decide +kernel
theorem dX9_want_9 : decode cX9_want 9 = .ok (.invokevirtual 82, 3) := by decide +kernel
theorem dX9_want_12 : decode cX9_want 12 = .ok (.ifCond .ne 5, 3) := by decide +kernel
theorem dX9_want_15 : decode cX9_want 15 = .ok (.iconst (-1), 1) := by decide +kernel
theorem dX9_want_16 : decode cX9_want 16 = .ok (.ireturn, 1) := by decide +kernel
theorem dX9_want_17 : decode cX9_want 17 = .ok (.aload_n 0, 1) := by decide +kernel
theorem dX9_want_18 : decode cX9_want 18 = .ok (.getfield 13, 3) := by decide +kernel
theorem dX9_want_21 : decode cX9_want 21 = .ok (.iload_n 2, 1) := by decide +kernel
theorem dX9_want_22 : decode cX9_want 22 = .ok (.iaload, 1) := by decide +kernel
theorem dX9_want_23 : decode cX9_want 23 = .ok (.iload_n 1, 1) := by decide +kernel
theorem dX9_want_24 : decode cX9_want 24 = .ok (.invokestatic 75, 3) := by decide +kernel
theorem dX9_want_27 : decode cX9_want 27 = .ok (.ifCond .ne 12, 3) := by decide +kernel
theorem dX9_want_30 : decode cX9_want 30 = .ok (.aload_n 0, 1) := by decide +kernel
theorem dX9_want_31 : decode cX9_want 31 = .ok (.iload_n 1, 1) := by decide +kernel
theorem dX9_want_32 : decode cX9_want 32 = .ok (.iload_n 2, 1) := by decide +kernel
theorem dX9_want_33 : decode cX9_want 33 = .ok (.invokevirtual 93, 3) := by decide +kernel
theorem dX9_want_36 : decode cX9_want 36 = .ok (.ifCond .eq 6, 3) := by decide +kernel
theorem dX9_want_39 : decode cX9_want 39 = .ok (.bipush (-3), 2) := by decide +kernel
theorem dX9_want_41 : decode cX9_want 41 = .ok (.ireturn, 1) := by decide +kernel
theorem dX9_want_42 : decode cX9_want 42 = .ok (.aload_n 0, 1) := by decide +kernel
theorem dX9_want_43 : decode cX9_want 43 = .ok (.getfield 79, 3) := by decide +kernel
theorem dX9_want_46 : decode cX9_want 46 = .ok (.bipush 16, 2) := by decide +kernel
theorem dX9_want_48 : decode cX9_want 48 = .ok (.if_icmp .ne 6, 3) := by decide +kernel
theorem dX9_want_51 : decode cX9_want 51 = .ok (.bipush (-4), 2) := by decide +kernel
theorem dX9_want_53 : decode cX9_want 53 = .ok (.ireturn, 1) := by decide +kernel
theorem dX9_want_54 : decode cX9_want 54 = .ok (.aload_n 0, 1) := by decide +kernel
theorem dX9_want_55 : decode cX9_want 55 = .ok (.getfield 16, 3) := by decide +kernel
theorem dX9_want_58 : decode cX9_want 58 = .ok (.aload_n 0, 1) := by decide +kernel
theorem dX9_want_59 : decode cX9_want 59 = .ok (.getfield 79, 3) := by decide +kernel
theorem dX9_want_62 : decode cX9_want 62 = .ok (.iload_n 1, 1) := by decide +kernel
theorem dX9_want_63 : decode cX9_want 63 = .ok (.iastore, 1) := by decide +kernel
theorem dX9_want_64 : decode cX9_want 64 = .ok (.aload_n 0, 1) := by decide +kernel
theorem dX9_want_65 : decode cX9_want 65 = .ok (.getfield 19, 3) := by decide +kernel
theorem dX9_want_68 : decode cX9_want 68 = .ok (.aload_n 0, 1) := by decide +kernel
theorem dX9_want_69 : decode cX9_want 69 = .ok (.getfield 79, 3) := by decide +kernel
theorem dX9_want_72 : decode cX9_want 72 = .ok (.iload_n 2, 1) := by decide +kernel
theorem dX9_want_73 : decode cX9_want 73 = .ok (.iastore, 1) := by decide +kernel
theorem dX9_want_74 : decode cX9_want 74 = .ok (.aload_n 0, 1) := by decide +kernel
theorem dX9_want_75 : decode cX9_want 75 = .ok (.dup, 1) := by decide +kernel
theorem dX9_want_76 : decode cX9_want 76 = .ok (.getfield 79, 3) := by decide +kernel
theorem dX9_want_79 : decode cX9_want 79 = .ok (.iconst 1, 1) := by decide +kernel
theorem dX9_want_80 : decode cX9_want 80 = .ok (.iadd, 1) := by decide +kernel
theorem dX9_want_81 : decode cX9_want 81 = .ok (.putfield 79, 3) := by decide +kernel
theorem dX9_want_84 : decode cX9_want 84 = .ok (.aload_n 0, 1) := by decide +kernel
theorem dX9_want_85 : decode cX9_want 85 = .ok (.getfield 79, 3) := by decide +kernel
theorem dX9_want_88 : decode cX9_want 88 = .ok (.ireturn, 1) := by decide +kernel
theorem dX9_air_0 : decode cX9_air 0 = .ok (.iload_n 1, 1) := by decide +kernel
theorem dX9_air_1 : decode cX9_air 1 = .ok (.iconst 0, 1) := by decide +kernel
theorem dX9_air_2 : decode cX9_air 2 = .ok (.sipush 255, 3) := by decide +kernel
theorem dX9_air_5 : decode cX9_air 5 = .ok (.invokestatic 68, 3) := by decide +kernel
theorem dX9_air_8 : decode cX9_air 8 = .ok (.ifCond .ne 6, 3) := by decide +kernel
theorem dX9_air_11 : decode cX9_air 11 = .ok (.bipush (-2), 2) := by decide +kernel
theorem dX9_air_13 : decode cX9_air 13 = .ok (.ireturn, 1) := by decide +kernel
theorem dX9_air_14 : decode cX9_air 14 = .ok (.aload_n 0, 1) := by decide +kernel
theorem dX9_air_15 : decode cX9_air 15 = .ok (.getfield 22, 3) := by decide +kernel
theorem dX9_air_18 : decode cX9_air 18 = .ok (.istore_n 2, 1) := by decide +kernel
theorem dX9_air_19 : decode cX9_air 19 = .ok (.aload_n 0, 1) := by decide +kernel
theorem dX9_air_20 : decode cX9_air 20 = .ok (.iload_n 1, 1) := by decide +kernel
theorem dX9_air_21 : decode cX9_air 21 = .ok (.putfield 22, 3) := by decide +kernel
theorem dX9_air_24 : decode cX9_air 24 = .ok (.iload_n 2, 1) := by decide +kernel
theorem dX9_air_25 : decode cX9_air 25 = .ok (.ireturn, 1) := by decide +kernel
theorem dX9_most_0 : decode cX9_most 0 = .ok (.iload_n 1, 1) := by decide +kernel
theorem dX9_most_1 : decode cX9_most 1 = .ok (.iconst 1, 1) := by decide +kernel
theorem dX9_most_2 : decode cX9_most 2 = .ok (.bipush 10, 2) := by decide +kernel
theorem dX9_most_4 : decode cX9_most 4 = .ok (.invokestatic 68, 3) := by decide +kernel
theorem dX9_most_7 : decode cX9_most 7 = .ok (.ifCond .ne 6, 3) := by decide +kernel
theorem dX9_most_10 : decode cX9_most 10 = .ok (.bipush (-2), 2) := by decide +kernel
theorem dX9_most_12 : decode cX9_most 12 = .ok (.ireturn, 1) := by decide +kernel
theorem dX9_most_13 : decode cX9_most 13 = .ok (.aload_n 0, 1) := by decide +kernel
theorem dX9_most_14 : decode cX9_most 14 = .ok (.getfield 26, 3) := by decide +kernel
theorem dX9_most_17 : decode cX9_most 17 = .ok (.istore_n 2, 1) := by decide +kernel
theorem dX9_most_18 : decode cX9_most 18 = .ok (.aload_n 0, 1) := by decide +kernel
theorem dX9_most_19 : decode cX9_most 19 = .ok (.iload_n 1, 1) := by decide +kernel
theorem dX9_most_20 : decode cX9_most 20 = .ok (.putfield 26, 3) := by decide +kernel
theorem dX9_most_23 : decode cX9_most 23 = .ok (.iload_n 2, 1) := by decide +kernel
theorem dX9_most_24 : decode cX9_most 24 = .ok (.ireturn, 1) := by decide +kernel
theorem dX9_anew_0 : decode cX9_anew 0 = .ok (.aload_n 0, 1) := by decide +kernel
theorem dX9_anew_1 : decode cX9_anew 1 = .ok (.getfield 79, 3) := by decide +kernel
theorem dX9_anew_4 : decode cX9_anew 4 = .ok (.istore_n 1, 1) := by decide +kernel
theorem dX9_anew_5 : decode cX9_anew 5 = .ok (.aload_n 0, 1) := by decide +kernel
theorem dX9_anew_6 : decode cX9_anew 6 = .ok (.iconst 0, 1) := by decide +kernel
theorem dX9_anew_7 : decode cX9_anew 7 = .ok (.putfield 72, 3) := by decide +kernel
theorem dX9_anew_10 : decode cX9_anew 10 = .ok (.iconst 0, 1) := by decide +kernel
theorem dX9_anew_11 : decode cX9_anew 11 = .ok (.istore_n 2, 1) := by decide +kernel
theorem dX9_anew_12 : decode cX9_anew 12 = .ok (.iload_n 2, 1) := by decide +kernel
theorem dX9_anew_13 : decode cX9_anew 13 = .ok (.bipush 8, 2) := by decide +kernel
theorem dX9_anew_15 : decode cX9_anew 15 = .ok (.if_icmp .ge 16, 3) := by decide +kernel
theorem dX9_anew_18 : decode cX9_anew 18 = .ok (.aload_n 0, 1) := by decide +kernel
theorem dX9_anew_19 : decode cX9_anew 19 = .ok (.getfield 13, 3) := by decide +kernel
theorem dX9_anew_22 : decode cX9_anew 22 = .ok (.iload_n 2, 1) := by decide +kernel
theorem dX9_anew_23 : decode cX9_anew 23 = .ok (.iconst 0, 1) := by decide +kernel
theorem dX9_anew_24 : decode cX9_anew 24 = .ok (.iastore, 1) := by decide +kernel
theorem dX9_anew_25 : decode cX9_anew 25 = .ok (.iinc 2 1, 3) := by decide +kernel
theorem dX9_anew_28 : decode cX9_anew 28 = .ok (.goto (-16), 3) := by decide +kernel
theorem dX9_anew_31 : decode cX9_anew 31 = .ok (.aload_n 0, 1) := by decide +kernel
theorem dX9_anew_32 : decode cX9_anew 32 = .ok (.iconst 0, 1) := by decide +kernel
theorem dX9_anew_33 : decode cX9_anew 33 = .ok (.putfield 79, 3) := by decide +kernel
theorem dX9_anew_36 : decode cX9_anew 36 = .ok (.aload_n 0, 1) := by decide +kernel
theorem dX9_anew_37 : decode cX9_anew 37 = .ok (.iconst 0, 1) := by decide +kernel
theorem dX9_anew_38 : decode cX9_anew 38 = .ok (.putfield 96, 3) := by decide +kernel
theorem dX9_anew_41 : decode cX9_anew 41 = .ok (.aload_n 0, 1) := by decide +kernel
theorem dX9_anew_42 : decode cX9_anew 42 = .ok (.iconst 0, 1) := by decide +kernel
theorem dX9_anew_43 : decode cX9_anew 43 = .ok (.putfield 99, 3) := by decide +kernel
theorem dX9_anew_46 : decode cX9_anew 46 = .ok (.iload_n 1, 1) := by decide +kernel
theorem dX9_anew_47 : decode cX9_anew 47 = .ok (.ireturn, 1) := by decide +kernel
theorem dX9_entry_0 : decode cX9_entry 0 = .ok (.iload_n 1, 1) := by decide +kernel
theorem dX9_entry_1 : decode cX9_entry 1 = .ok (.iconst 0, 1) := by decide +kernel
theorem dX9_entry_2 : decode cX9_entry 2 = .ok (.aload_n 0, 1) := by decide +kernel
theorem dX9_entry_3 : decode cX9_entry 3 = .ok (.getfield 79, 3) := by decide +kernel
theorem dX9_entry_6 : decode cX9_entry 6 = .ok (.iconst 1, 1) := by decide +kernel
theorem dX9_entry_7 : decode cX9_entry 7 = .ok (.isub, 1) := by decide +kernel
theorem dX9_entry_8 : decode cX9_entry 8 = .ok (.invokestatic 68, 3) := by decide +kernel
theorem dX9_entry_11 : decode cX9_entry 11 = .ok (.ifCond .ne 5, 3) := by decide +kernel
theorem dX9_entry_14 : decode cX9_entry 14 = .ok (.iconst (-1), 1) := by decide +kernel
theorem dX9_entry_15 : decode cX9_entry 15 = .ok (.ireturn, 1) := by decide +kernel
theorem dX9_entry_16 : decode cX9_entry 16 = .ok (.iload_n 2, 1) := by decide +kernel
theorem dX9_entry_17 : decode cX9_entry 17 = .ok (.ifCond .ne 12, 3) := by decide +kernel
theorem dX9_entry_20 : decode cX9_entry 20 = .ok (.aload_n 0, 1) := by decide +kernel
theorem dX9_entry_21 : decode cX9_entry 21 = .ok (.getfield 16, 3) := by decide +kernel
theorem dX9_entry_24 : decode cX9_entry 24 = .ok (.iload_n 1, 1) := by decide +kernel
theorem dX9_entry_25 : decode cX9_entry 25 = .ok (.iaload, 1) := by decide +kernel
theorem dX9_entry_26 : decode cX9_entry 26 = .ok (.goto 19, 3) := by decide +kernel
theorem dX9_entry_29 : decode cX9_entry 29 = .ok (.iload_n 2, 1) := by decide +kernel
theorem dX9_entry_30 : decode cX9_entry 30 = .ok (.iconst 1, 1) := by decide +kernel
theorem dX9_entry_31 : decode cX9_entry 31 = .ok (.if_icmp .ne 12, 3) := by decide +kernel
theorem dX9_entry_34 : decode cX9_entry 34 = .ok (.aload_n 0, 1) := by decide +kernel
theorem dX9_entry_35 : decode cX9_entry 35 = .ok (.getfield 19, 3) := by decide +kernel
theorem dX9_entry_38 : decode cX9_entry 38 = .ok (.iload_n 1, 1) := by decide +kernel
theorem dX9_entry_39 : decode cX9_entry 39 = .ok (.iaload, 1) := by decide +kernel
theorem dX9_entry_40 : decode cX9_entry 40 = .ok (.goto 5, 3) := by decide +kernel
theorem dX9_entry_43 : decode cX9_entry 43 = .ok (.bipush (-2), 2) := by decide +kernel
theorem dX9_entry_45 : decode cX9_entry 45 = .ok (.ireturn, 1) := by decide +kernel
theorem dX9_having_0 : decode cX9_having 0 = .ok (.iload_n 1, 1) := by decide +kernel
theorem dX9_having_1 : decode cX9_having 1 = .ok (.invokestatic 90, 3) := by decide +kernel
theorem dX9_having_4 : decode cX9_having 4 = .ok (.ifCond .eq 12, 3) := by decide +kernel
theorem dX9_having_7 : decode cX9_having 7 = .ok (.aload_n 0, 1) := by decide +kernel
theorem dX9_having_8 : decode cX9_having 8 = .ok (.getfield 13, 3) := by decide +kernel
theorem dX9_having_11 : decode cX9_having 11 = .ok (.iload_n 1, 1) := by decide +kernel
theorem dX9_having_12 : decode cX9_having 12 = .ok (.iaload, 1) := by decide +kernel
theorem dX9_having_13 : decode cX9_having 13 = .ok (.goto 4, 3) := by decide +kernel
theorem dX9_having_16 : decode cX9_having 16 = .ok (.iconst (-1), 1) := by decide +kernel
theorem dX9_having_17 : decode cX9_having 17 = .ok (.ireturn, 1) := by decide +kernel
theorem dX9_isSum_0 : decode cX9_isSum 0 = .ok (.iload_n 1, 1) := by decide +kernel
theorem dX9_isSum_1 : decode cX9_isSum 1 = .ok (.iconst 1, 1) := by decide +kernel
theorem dX9_isSum_2 : decode cX9_isSum 2 = .ok (.sipush 1023, 3) := by decide +kernel
theorem dX9_isSum_5 : decode cX9_isSum 5 = .ok (.invokestatic 68, 3) := by decide +kernel
theorem dX9_isSum_8 : decode cX9_isSum 8 = .ok (.ifCond .eq 18, 3) := by decide +kernel
theorem dX9_isSum_11 : decode cX9_isSum 11 = .ok (.iload_n 1, 1) := by decide +kernel
theorem dX9_isSum_12 : decode cX9_isSum 12 = .ok (.aload_n 0, 1) := by decide +kernel
theorem dX9_isSum_13 : decode cX9_isSum 13 = .ok (.getfield 72, 3) := by decide +kernel
theorem dX9_isSum_16 : decode cX9_isSum 16 = .ok (.iconst (-1), 1) := by decide +kernel
theorem dX9_isSum_17 : decode cX9_isSum 17 = .ok (.ixor, 1) := by decide +kernel
theorem dX9_isSum_18 : decode cX9_isSum 18 = .ok (.iand, 1) := by decide +kernel
theorem dX9_isSum_19 : decode cX9_isSum 19 = .ok (.ifCond .ne 7, 3) := by decide +kernel
theorem dX9_isSum_22 : decode cX9_isSum 22 = .ok (.iconst 1, 1) := by decide +kernel
theorem dX9_isSum_23 : decode cX9_isSum 23 = .ok (.goto 4, 3) := by decide +kernel
theorem dX9_isSum_26 : decode cX9_isSum 26 = .ok (.iconst 0, 1) := by decide +kernel
theorem dX9_isSum_27 : decode cX9_isSum 27 = .ok (.ireturn, 1) := by decide +kernel
theorem dX9_readBy_0 : decode cX9_readBy 0 = .ok (.iload_n 2, 1) := by decide +kernel
theorem dX9_readBy_1 : decode cX9_readBy 1 = .ok (.aload_n 0, 1) := by decide +kernel
theorem dX9_readBy_2 : decode cX9_readBy 2 = .ok (.getfield 13, 3) := by decide +kernel
theorem dX9_readBy_5 : decode cX9_readBy 5 = .ok (.iload_n 1, 1) := by decide +kernel
theorem dX9_readBy_6 : decode cX9_readBy 6 = .ok (.iaload, 1) := by decide +kernel
theorem dX9_readBy_7 : decode cX9_readBy 7 = .ok (.iconst (-1), 1) := by decide +kernel
theorem dX9_readBy_8 : decode cX9_readBy 8 = .ok (.ixor, 1) := by decide +kernel
theorem dX9_readBy_9 : decode cX9_readBy 9 = .ok (.iand, 1) := by decide +kernel
theorem dX9_readBy_10 : decode cX9_readBy 10 = .ok (.istore_n 3, 1) := by decide +kernel
theorem dX9_readBy_11 : decode cX9_readBy 11 = .ok (.iload_n 3, 1) := by decide +kernel
theorem dX9_readBy_12 : decode cX9_readBy 12 = .ok (.invokestatic 102, 3) := by decide +kernel
theorem dX9_readBy_15 : decode cX9_readBy 15 = .ok (.iconst 1, 1) := by decide +kernel
theorem dX9_readBy_16 : decode cX9_readBy 16 = .ok (.if_icmp .eq 6, 3) := by decide +kernel
theorem dX9_readBy_19 : decode cX9_readBy 19 = .ok (.bipush (-9), 2) := by decide +kernel
theorem dX9_readBy_21 : decode cX9_readBy 21 = .ok (.ireturn, 1) := by decide +kernel
theorem dX9_readBy_22 : decode cX9_readBy 22 = .ok (.iconst 0, 1) := by decide +kernel
theorem dX9_readBy_23 : decode cX9_readBy 23 = .ok (.istore 4, 2) := by decide +kernel
theorem dX9_readBy_25 : decode cX9_readBy 25 = .ok (.iload_n 3, 1) := by decide +kernel
theorem dX9_readBy_26 : decode cX9_readBy 26 = .ok (.iload 4, 2) := by decide +kernel
theorem dX9_readBy_28 : decode cX9_readBy 28 = .ok (.invokestatic 75, 3) := by decide +kernel
theorem dX9_readBy_31 : decode cX9_readBy 31 = .ok (.ifCond .ne 9, 3) := by decide +kernel
theorem dX9_readBy_34 : decode cX9_readBy 34 = .ok (.iinc 4 1, 3) := by decide +kernel
theorem dX9_readBy_37 : decode cX9_readBy 37 = .ok (.goto (-12), 3) := by decide +kernel
theorem dX9_readBy_40 : decode cX9_readBy 40 = .ok (.iload 4, 2) := by decide +kernel
theorem dX9_readBy_42 : decode cX9_readBy 42 = .ok (.ireturn, 1) := by decide +kernel
theorem dX9_reads_0 : decode cX9_reads 0 = .ok (.iload_n 1, 1) := by decide +kernel
theorem dX9_reads_1 : decode cX9_reads 1 = .ok (.invokestatic 90, 3) := by decide +kernel
theorem dX9_reads_4 : decode cX9_reads 4 = .ok (.ifCond .ne 5, 3) := by decide +kernel
theorem dX9_reads_7 : decode cX9_reads 7 = .ok (.iconst (-1), 1) := by decide +kernel
theorem dX9_reads_8 : decode cX9_reads 8 = .ok (.ireturn, 1) := by decide +kernel
theorem dX9_reads_9 : decode cX9_reads 9 = .ok (.aload_n 0, 1) := by decide +kernel
theorem dX9_reads_10 : decode cX9_reads 10 = .ok (.iload_n 2, 1) := by decide +kernel
theorem dX9_reads_11 : decode cX9_reads 11 = .ok (.invokevirtual 106, 3) := by decide +kernel
theorem dX9_reads_14 : decode cX9_reads 14 = .ok (.ifCond .eq 12, 3) := by decide +kernel
theorem dX9_reads_17 : decode cX9_reads 17 = .ok (.aload_n 0, 1) := by decide +kernel
theorem dX9_reads_18 : decode cX9_reads 18 = .ok (.iload_n 1, 1) := by decide +kernel
theorem dX9_reads_19 : decode cX9_reads 19 = .ok (.iload_n 2, 1) := by decide +kernel
theorem dX9_reads_20 : decode cX9_reads 20 = .ok (.invokevirtual 109, 3) := by decide +kernel
theorem dX9_reads_23 : decode cX9_reads 23 = .ok (.goto 5, 3) := by decide +kernel
theorem dX9_reads_26 : decode cX9_reads 26 = .ok (.bipush (-2), 2) := by decide +kernel
theorem dX9_reads_28 : decode cX9_reads 28 = .ok (.ireturn, 1) := by decide +kernel
theorem dX9_bodyBy_0 : decode cX9_bodyBy 0 = .ok (.iconst 0, 1) := by decide +kernel
theorem dX9_bodyBy_1 : decode cX9_bodyBy 1 = .ok (.istore_n 2, 1) := by decide +kernel
theorem dX9_bodyBy_2 : decode cX9_bodyBy 2 = .ok (.iconst 0, 1) := by decide +kernel
theorem dX9_bodyBy_3 : decode cX9_bodyBy 3 = .ok (.istore_n 3, 1) := by decide +kernel
theorem dX9_bodyBy_4 : decode cX9_bodyBy 4 = .ok (.iload_n 3, 1) := by decide +kernel
theorem dX9_bodyBy_5 : decode cX9_bodyBy 5 = .ok (.bipush 10, 2) := by decide +kernel
theorem dX9_bodyBy_7 : decode cX9_bodyBy 7 = .ok (.if_icmp .ge 30, 3) := by decide +kernel
theorem dX9_bodyBy_10 : decode cX9_bodyBy 10 = .ok (.iload_n 2, 1) := by decide +kernel
theorem dX9_bodyBy_11 : decode cX9_bodyBy 11 = .ok (.iload_n 1, 1) := by decide +kernel
theorem dX9_bodyBy_12 : decode cX9_bodyBy 12 = .ok (.iload_n 3, 1) := by decide +kernel
theorem dX9_bodyBy_13 : decode cX9_bodyBy 13 = .ok (.invokestatic 75, 3) := by decide +kernel
theorem dX9_bodyBy_16 : decode cX9_bodyBy 16 = .ok (.ifCond .eq 12, 3) := by decide +kernel
theorem dX9_bodyBy_19 : decode cX9_bodyBy 19 = .ok (.aload_n 0, 1) := by decide +kernel
theorem dX9_bodyBy_20 : decode cX9_bodyBy 20 = .ok (.getfield 7, 3) := by decide +kernel
theorem dX9_bodyBy_23 : decode cX9_bodyBy 23 = .ok (.iload_n 3, 1) := by decide +kernel
theorem dX9_bodyBy_24 : decode cX9_bodyBy 24 = .ok (.iaload, 1) := by decide +kernel
theorem dX9_bodyBy_25 : decode cX9_bodyBy 25 = .ok (.goto 4, 3) := by decide +kernel
theorem dX9_bodyBy_28 : decode cX9_bodyBy 28 = .ok (.iconst 0, 1) := by decide +kernel
theorem dX9_bodyBy_29 : decode cX9_bodyBy 29 = .ok (.ixor, 1) := by decide +kernel
theorem dX9_bodyBy_30 : decode cX9_bodyBy 30 = .ok (.istore_n 2, 1) := by decide +kernel
theorem dX9_bodyBy_31 : decode cX9_bodyBy 31 = .ok (.iinc 3 1, 3) := by decide +kernel
theorem dX9_bodyBy_34 : decode cX9_bodyBy 34 = .ok (.goto (-30), 3) := by decide +kernel
theorem dX9_bodyBy_37 : decode cX9_bodyBy 37 = .ok (.iload_n 2, 1) := by decide +kernel
theorem dX9_bodyBy_38 : decode cX9_bodyBy 38 = .ok (.ireturn, 1) := by decide +kernel
theorem dX9_serves_0 : decode cX9_serves 0 = .ok (.aload_n 0, 1) := by decide +kernel
theorem dX9_serves_1 : decode cX9_serves 1 = .ok (.getfield 19, 3) := by decide +kernel
theorem dX9_serves_4 : decode cX9_serves 4 = .ok (.iload_n 2, 1) := by decide +kernel
theorem dX9_serves_5 : decode cX9_serves 5 = .ok (.iaload, 1) := by decide +kernel
theorem dX9_serves_6 : decode cX9_serves 6 = .ok (.istore_n 3, 1) := by decide +kernel
theorem dX9_serves_7 : decode cX9_serves 7 = .ok (.aload_n 0, 1) := by decide +kernel
theorem dX9_serves_8 : decode cX9_serves 8 = .ok (.getfield 22, 3) := by decide +kernel
theorem dX9_serves_11 : decode cX9_serves 11 = .ok (.iload_n 3, 1) := by decide +kernel
theorem dX9_serves_12 : decode cX9_serves 12 = .ok (.invokestatic 75, 3) := by decide +kernel
theorem dX9_serves_15 : decode cX9_serves 15 = .ok (.ifCond .eq 22, 3) := by decide +kernel
theorem dX9_serves_18 : decode cX9_serves 18 = .ok (.aload_n 0, 1) := by decide +kernel
theorem dX9_serves_19 : decode cX9_serves 19 = .ok (.iload_n 3, 1) := by decide +kernel
theorem dX9_serves_20 : decode cX9_serves 20 = .ok (.iload_n 1, 1) := by decide +kernel
theorem dX9_serves_21 : decode cX9_serves 21 = .ok (.invokevirtual 109, 3) := by decide +kernel
theorem dX9_serves_24 : decode cX9_serves 24 = .ok (.aload_n 0, 1) := by decide +kernel
theorem dX9_serves_25 : decode cX9_serves 25 = .ok (.getfield 16, 3) := by decide +kernel
theorem dX9_serves_28 : decode cX9_serves 28 = .ok (.iload_n 2, 1) := by decide +kernel
theorem dX9_serves_29 : decode cX9_serves 29 = .ok (.iaload, 1) := by decide +kernel
theorem dX9_serves_30 : decode cX9_serves 30 = .ok (.if_icmp .ne 7, 3) := by decide +kernel
theorem dX9_serves_33 : decode cX9_serves 33 = .ok (.iconst 1, 1) := by decide +kernel
theorem dX9_serves_34 : decode cX9_serves 34 = .ok (.goto 4, 3) := by decide +kernel
theorem dX9_serves_37 : decode cX9_serves 37 = .ok (.iconst 0, 1) := by decide +kernel
theorem dX9_serves_38 : decode cX9_serves 38 = .ok (.ireturn, 1) := by decide +kernel
theorem dX9_manyServed_0 : decode cX9_manyServed 0 = .ok (.iconst 0, 1) := by decide +kernel
theorem dX9_manyServed_1 : decode cX9_manyServed 1 = .ok (.istore_n 2, 1) := by decide +kernel
theorem dX9_manyServed_2 : decode cX9_manyServed 2 = .ok (.iconst 0, 1) := by decide +kernel
theorem dX9_manyServed_3 : decode cX9_manyServed 3 = .ok (.istore_n 3, 1) := by decide +kernel
theorem dX9_manyServed_4 : decode cX9_manyServed 4 = .ok (.iload_n 3, 1) := by decide +kernel
theorem dX9_manyServed_5 : decode cX9_manyServed 5 = .ok (.aload_n 0, 1) := by decide +kernel
theorem dX9_manyServed_6 : decode cX9_manyServed 6 = .ok (.getfield 79, 3) := by decide +kernel
theorem dX9_manyServed_9 : decode cX9_manyServed 9 = .ok (.if_icmp .ge 26, 3) := by decide +kernel
theorem dX9_manyServed_12 : decode cX9_manyServed 12 = .ok (.iload_n 2, 1) := by decide +kernel
theorem dX9_manyServed_13 : decode cX9_manyServed 13 = .ok (.aload_n 0, 1) := by decide +kernel
theorem dX9_manyServed_14 : decode cX9_manyServed 14 = .ok (.iload_n 1, 1) := by decide +kernel
theorem dX9_manyServed_15 : decode cX9_manyServed 15 = .ok (.iload_n 3, 1) := by decide +kernel
theorem dX9_manyServed_16 : decode cX9_manyServed 16 = .ok (.invokevirtual 112, 3) := by decide +kernel
theorem dX9_manyServed_19 : decode cX9_manyServed 19 = .ok (.ifCond .eq 7, 3) := by decide +kernel
theorem dX9_manyServed_22 : decode cX9_manyServed 22 = .ok (.iconst 1, 1) := by decide +kernel
theorem dX9_manyServed_23 : decode cX9_manyServed 23 = .ok (.goto 4, 3) := by decide +kernel
theorem dX9_manyServed_26 : decode cX9_manyServed 26 = .ok (.iconst 0, 1) := by decide +kernel
theorem dX9_manyServed_27 : decode cX9_manyServed 27 = .ok (.iadd, 1) := by decide +kernel
theorem dX9_manyServed_28 : decode cX9_manyServed 28 = .ok (.istore_n 2, 1) := by decide +kernel
theorem dX9_manyServed_29 : decode cX9_manyServed 29 = .ok (.iinc 3 1, 3) := by decide +kernel
theorem dX9_manyServed_32 : decode cX9_manyServed 32 = .ok (.goto (-28), 3) := by decide +kernel
theorem dX9_manyServed_35 : decode cX9_manyServed 35 = .ok (.iload_n 2, 1) := by decide +kernel
theorem dX9_manyServed_36 : decode cX9_manyServed 36 = .ok (.ireturn, 1) := by decide +kernel
theorem dX9_openers_0 : decode cX9_openers 0 = .ok (.iconst 0, 1) := by decide +kernel
theorem dX9_openers_1 : decode cX9_openers 1 = .ok (.istore_n 2, 1) := by decide +kernel
theorem dX9_openers_2 : decode cX9_openers 2 = .ok (.iconst 0, 1) := by decide +kernel
theorem dX9_openers_3 : decode cX9_openers 3 = .ok (.istore_n 3, 1) := by decide +kernel
theorem dX9_openers_4 : decode cX9_openers 4 = .ok (.iload_n 3, 1) := by decide +kernel
theorem dX9_openers_5 : decode cX9_openers 5 = .ok (.bipush 8, 2) := by decide +kernel
theorem dX9_openers_7 : decode cX9_openers 7 = .ok (.if_icmp .ge 41, 3) := by decide +kernel
theorem dX9_openers_10 : decode cX9_openers 10 = .ok (.iload_n 2, 1) := by decide +kernel
theorem dX9_openers_11 : decode cX9_openers 11 = .ok (.aload_n 0, 1) := by decide +kernel
theorem dX9_openers_12 : decode cX9_openers 12 = .ok (.getfield 22, 3) := by decide +kernel
theorem dX9_openers_15 : decode cX9_openers 15 = .ok (.iload_n 3, 1) := by decide +kernel
theorem dX9_openers_16 : decode cX9_openers 16 = .ok (.invokestatic 75, 3) := by decide +kernel
theorem dX9_openers_19 : decode cX9_openers 19 = .ok (.ifCond .eq 20, 3) := by decide +kernel
theorem dX9_openers_22 : decode cX9_openers 22 = .ok (.aload_n 0, 1) := by decide +kernel
theorem dX9_openers_23 : decode cX9_openers 23 = .ok (.iload_n 3, 1) := by decide +kernel
theorem dX9_openers_24 : decode cX9_openers 24 = .ok (.iload_n 1, 1) := by decide +kernel
theorem dX9_openers_25 : decode cX9_openers 25 = .ok (.invokevirtual 109, 3) := by decide +kernel
theorem dX9_openers_28 : decode cX9_openers 28 = .ok (.bipush (-9), 2) := by decide +kernel
theorem dX9_openers_30 : decode cX9_openers 30 = .ok (.if_icmp .eq 9, 3) := by decide +kernel
theorem dX9_openers_33 : decode cX9_openers 33 = .ok (.iconst 1, 1) := by decide +kernel
theorem dX9_openers_34 : decode cX9_openers 34 = .ok (.iload_n 3, 1) := by decide +kernel
theorem dX9_openers_35 : decode cX9_openers 35 = .ok (.ishl, 1) := by decide +kernel
theorem dX9_openers_36 : decode cX9_openers 36 = .ok (.goto 4, 3) := by decide +kernel
theorem dX9_openers_39 : decode cX9_openers 39 = .ok (.iconst 0, 1) := by decide +kernel
theorem dX9_openers_40 : decode cX9_openers 40 = .ok (.ior, 1) := by decide +kernel
theorem dX9_openers_41 : decode cX9_openers 41 = .ok (.istore_n 2, 1) := by decide +kernel
theorem dX9_openers_42 : decode cX9_openers 42 = .ok (.iinc 3 1, 3) := by decide +kernel
theorem dX9_openers_45 : decode cX9_openers 45 = .ok (.goto (-41), 3) := by decide +kernel
theorem dX9_openers_48 : decode cX9_openers 48 = .ok (.iload_n 2, 1) := by decide +kernel
theorem dX9_openers_49 : decode cX9_openers 49 = .ok (.ireturn, 1) := by decide +kernel
theorem dX9_sum_0 : decode cX9_sum 0 = .ok (.aload_n 0, 1) := by decide +kernel
theorem dX9_sum_1 : decode cX9_sum 1 = .ok (.iload_n 1, 1) := by decide +kernel
theorem dX9_sum_2 : decode cX9_sum 2 = .ok (.invokevirtual 106, 3) := by decide +kernel
theorem dX9_sum_5 : decode cX9_sum 5 = .ok (.ifCond .ne 6, 3) := by decide +kernel
theorem dX9_sum_8 : decode cX9_sum 8 = .ok (.bipush (-2), 2) := by decide +kernel
theorem dX9_sum_10 : decode cX9_sum 10 = .ok (.ireturn, 1) := by decide +kernel
theorem dX9_sum_11 : decode cX9_sum 11 = .ok (.iload_n 2, 1) := by decide +kernel
theorem dX9_sum_12 : decode cX9_sum 12 = .ok (.ifCond .ne 11, 3) := by decide +kernel
theorem dX9_sum_15 : decode cX9_sum 15 = .ok (.aload_n 0, 1) := by decide +kernel
theorem dX9_sum_16 : decode cX9_sum 16 = .ok (.iload_n 1, 1) := by decide +kernel
theorem dX9_sum_17 : decode cX9_sum 17 = .ok (.invokevirtual 115, 3) := by decide +kernel
theorem dX9_sum_20 : decode cX9_sum 20 = .ok (.goto 31, 3) := by decide +kernel
theorem dX9_sum_23 : decode cX9_sum 23 = .ok (.iload_n 2, 1) := by decide +kernel
theorem dX9_sum_24 : decode cX9_sum 24 = .ok (.iconst 1, 1) := by decide +kernel
theorem dX9_sum_25 : decode cX9_sum 25 = .ok (.if_icmp .ne 11, 3) := by decide +kernel
theorem dX9_sum_28 : decode cX9_sum 28 = .ok (.aload_n 0, 1) := by decide +kernel
theorem dX9_sum_29 : decode cX9_sum 29 = .ok (.iload_n 1, 1) := by decide +kernel
theorem dX9_sum_30 : decode cX9_sum 30 = .ok (.invokevirtual 118, 3) := by decide +kernel
theorem dX9_sum_33 : decode cX9_sum 33 = .ok (.goto 18, 3) := by decide +kernel
theorem dX9_sum_36 : decode cX9_sum 36 = .ok (.iload_n 2, 1) := by decide +kernel
theorem dX9_sum_37 : decode cX9_sum 37 = .ok (.iconst 2, 1) := by decide +kernel
theorem dX9_sum_38 : decode cX9_sum 38 = .ok (.if_icmp .ne 11, 3) := by decide +kernel
theorem dX9_sum_41 : decode cX9_sum 41 = .ok (.aload_n 0, 1) := by decide +kernel
theorem dX9_sum_42 : decode cX9_sum 42 = .ok (.iload_n 1, 1) := by decide +kernel
theorem dX9_sum_43 : decode cX9_sum 43 = .ok (.invokevirtual 121, 3) := by decide +kernel
theorem dX9_sum_46 : decode cX9_sum 46 = .ok (.goto 5, 3) := by decide +kernel
theorem dX9_sum_49 : decode cX9_sum 49 = .ok (.bipush (-2), 2) := by decide +kernel
theorem dX9_sum_51 : decode cX9_sum 51 = .ok (.ireturn, 1) := by decide +kernel
theorem dX9_isBetter_0 : decode cX9_isBetter 0 = .ok (.aload_n 0, 1) := by decide +kernel
theorem dX9_isBetter_1 : decode cX9_isBetter 1 = .ok (.iload_n 1, 1) := by decide +kernel
theorem dX9_isBetter_2 : decode cX9_isBetter 2 = .ok (.invokevirtual 118, 3) := by decide +kernel
theorem dX9_isBetter_5 : decode cX9_isBetter 5 = .ok (.aload_n 0, 1) := by decide +kernel
theorem dX9_isBetter_6 : decode cX9_isBetter 6 = .ok (.iload_n 2, 1) := by decide +kernel
theorem dX9_isBetter_7 : decode cX9_isBetter 7 = .ok (.invokevirtual 118, 3) := by decide +kernel
theorem dX9_isBetter_10 : decode cX9_isBetter 10 = .ok (.isub, 1) := by decide +kernel
theorem dX9_isBetter_11 : decode cX9_isBetter 11 = .ok (.istore_n 3, 1) := by decide +kernel
theorem dX9_isBetter_12 : decode cX9_isBetter 12 = .ok (.iload_n 2, 1) := by decide +kernel
theorem dX9_isBetter_13 : decode cX9_isBetter 13 = .ok (.ifCond .eq 22, 3) := by decide +kernel
theorem dX9_isBetter_16 : decode cX9_isBetter 16 = .ok (.iload_n 3, 1) := by decide +kernel
theorem dX9_isBetter_17 : decode cX9_isBetter 17 = .ok (.ifCond .gt 18, 3) := by decide +kernel
theorem dX9_isBetter_20 : decode cX9_isBetter 20 = .ok (.iload_n 3, 1) := by decide +kernel
theorem dX9_isBetter_21 : decode cX9_isBetter 21 = .ok (.ifCond .ne 18, 3) := by decide +kernel
theorem dX9_isBetter_24 : decode cX9_isBetter 24 = .ok (.iload_n 1, 1) := by decide +kernel
theorem dX9_isBetter_25 : decode cX9_isBetter 25 = .ok (.invokestatic 102, 3) := by decide +kernel
theorem dX9_isBetter_28 : decode cX9_isBetter 28 = .ok (.iload_n 2, 1) := by decide +kernel
theorem dX9_isBetter_29 : decode cX9_isBetter 29 = .ok (.invokestatic 102, 3) := by decide +kernel
theorem dX9_isBetter_32 : decode cX9_isBetter 32 = .ok (.if_icmp .ge 7, 3) := by decide +kernel
theorem dX9_isBetter_35 : decode cX9_isBetter 35 = .ok (.iconst 1, 1) := by decide +kernel
theorem dX9_isBetter_36 : decode cX9_isBetter 36 = .ok (.goto 4, 3) := by decide +kernel
theorem dX9_isBetter_39 : decode cX9_isBetter 39 = .ok (.iconst 0, 1) := by decide +kernel
theorem dX9_isBetter_40 : decode cX9_isBetter 40 = .ok (.ireturn, 1) := by decide +kernel
theorem dX9_bestSum_0 : decode cX9_bestSum 0 = .ok (.iconst 0, 1) := by decide +kernel
theorem dX9_bestSum_1 : decode cX9_bestSum 1 = .ok (.istore_n 1, 1) := by decide +kernel
end
section
theorem dX9_bestSum_2 : decode cX9_bestSum 2 = .ok (.iload_n 1, 1) := by decide +kernel
theorem dX9_bestSum_3 : decode cX9_bestSum 3 = .ok (.aload_n 0, 1) := by decide +kernel
theorem dX9_bestSum_4 : decode cX9_bestSum 4 = .ok (.getfield 79, 3) := by decide +kernel
theorem dX9_bestSum_7 : decode cX9_bestSum 7 = .ok (.if_icmp .ge 25, 3) := by decide +kernel
theorem dX9_bestSum_10 : decode cX9_bestSum 10 = .ok (.aload_n 0, 1) := by decide +kernel
theorem dX9_bestSum_11 : decode cX9_bestSum 11 = .ok (.getfield 22, 3) := by decide +kernel
theorem dX9_bestSum_14 : decode cX9_bestSum 14 = .ok (.aload_n 0, 1) := by decide +kernel
theorem dX9_bestSum_15 : decode cX9_bestSum 15 = .ok (.getfield 19, 3) := by decide +kernel
theorem dX9_bestSum_18 : decode cX9_bestSum 18 = .ok (.iload_n 1, 1) := by decide +kernel
theorem dX9_bestSum_19 : decode cX9_bestSum 19 = .ok (.iaload, 1) := by decide +kernel
theorem dX9_bestSum_20 : decode cX9_bestSum 20 = .ok (.invokestatic 75, 3) := by decide +kernel
theorem dX9_bestSum_23 : decode cX9_bestSum 23 = .ok (.ifCond .ne 9, 3) := by decide +kernel
theorem dX9_bestSum_26 : decode cX9_bestSum 26 = .ok (.iinc 1 1, 3) := by decide +kernel
theorem dX9_bestSum_29 : decode cX9_bestSum 29 = .ok (.goto (-27), 3) := by decide +kernel
theorem dX9_bestSum_32 : decode cX9_bestSum 32 = .ok (.iconst 0, 1) := by decide +kernel
theorem dX9_bestSum_33 : decode cX9_bestSum 33 = .ok (.istore_n 2, 1) := by decide +kernel
theorem dX9_bestSum_34 : decode cX9_bestSum 34 = .ok (.iconst 1, 1) := by decide +kernel
theorem dX9_bestSum_35 : decode cX9_bestSum 35 = .ok (.istore_n 3, 1) := by decide +kernel
theorem dX9_bestSum_36 : decode cX9_bestSum 36 = .ok (.iload_n 3, 1) := by decide +kernel
theorem dX9_bestSum_37 : decode cX9_bestSum 37 = .ok (.sipush 1024, 3) := by decide +kernel
theorem dX9_bestSum_40 : decode cX9_bestSum 40 = .ok (.if_icmp .ge 56, 3) := by decide +kernel
theorem dX9_bestSum_43 : decode cX9_bestSum 43 = .ok (.iload_n 1, 1) := by decide +kernel
theorem dX9_bestSum_44 : decode cX9_bestSum 44 = .ok (.aload_n 0, 1) := by decide +kernel
theorem dX9_bestSum_45 : decode cX9_bestSum 45 = .ok (.getfield 79, 3) := by decide +kernel
theorem dX9_bestSum_48 : decode cX9_bestSum 48 = .ok (.if_icmp .ge 48, 3) := by decide +kernel
theorem dX9_bestSum_51 : decode cX9_bestSum 51 = .ok (.aload_n 0, 1) := by decide +kernel
theorem dX9_bestSum_52 : decode cX9_bestSum 52 = .ok (.iload_n 3, 1) := by decide +kernel
theorem dX9_bestSum_53 : decode cX9_bestSum 53 = .ok (.invokevirtual 106, 3) := by decide +kernel
theorem dX9_bestSum_56 : decode cX9_bestSum 56 = .ok (.ifCond .eq 34, 3) := by decide +kernel
theorem dX9_bestSum_59 : decode cX9_bestSum 59 = .ok (.iload_n 3, 1) := by decide +kernel
theorem dX9_bestSum_60 : decode cX9_bestSum 60 = .ok (.invokestatic 102, 3) := by decide +kernel
theorem dX9_bestSum_63 : decode cX9_bestSum 63 = .ok (.aload_n 0, 1) := by decide +kernel
theorem dX9_bestSum_64 : decode cX9_bestSum 64 = .ok (.getfield 26, 3) := by decide +kernel
theorem dX9_bestSum_67 : decode cX9_bestSum 67 = .ok (.if_icmp .gt 23, 3) := by decide +kernel
theorem dX9_bestSum_70 : decode cX9_bestSum 70 = .ok (.aload_n 0, 1) := by decide +kernel
theorem dX9_bestSum_71 : decode cX9_bestSum 71 = .ok (.iload_n 3, 1) := by decide +kernel
theorem dX9_bestSum_72 : decode cX9_bestSum 72 = .ok (.iload_n 1, 1) := by decide +kernel
theorem dX9_bestSum_73 : decode cX9_bestSum 73 = .ok (.invokevirtual 112, 3) := by decide +kernel
theorem dX9_bestSum_76 : decode cX9_bestSum 76 = .ok (.ifCond .eq 14, 3) := by decide +kernel
theorem dX9_bestSum_79 : decode cX9_bestSum 79 = .ok (.aload_n 0, 1) := by decide +kernel
theorem dX9_bestSum_80 : decode cX9_bestSum 80 = .ok (.iload_n 3, 1) := by decide +kernel
theorem dX9_bestSum_81 : decode cX9_bestSum 81 = .ok (.iload_n 2, 1) := by decide +kernel
theorem dX9_bestSum_82 : decode cX9_bestSum 82 = .ok (.invokevirtual 124, 3) := by decide +kernel
theorem dX9_bestSum_85 : decode cX9_bestSum 85 = .ok (.ifCond .eq 5, 3) := by decide +kernel
theorem dX9_bestSum_88 : decode cX9_bestSum 88 = .ok (.iload_n 3, 1) := by decide +kernel
theorem dX9_bestSum_89 : decode cX9_bestSum 89 = .ok (.istore_n 2, 1) := by decide +kernel
theorem dX9_bestSum_90 : decode cX9_bestSum 90 = .ok (.iinc 3 1, 3) := by decide +kernel
theorem dX9_bestSum_93 : decode cX9_bestSum 93 = .ok (.goto (-57), 3) := by decide +kernel
theorem dX9_bestSum_96 : decode cX9_bestSum 96 = .ok (.iload_n 2, 1) := by decide +kernel
theorem dX9_bestSum_97 : decode cX9_bestSum 97 = .ok (.ireturn, 1) := by decide +kernel
theorem dX9_best_0 : decode cX9_best 0 = .ok (.aload_n 0, 1) := by decide +kernel
theorem dX9_best_1 : decode cX9_best 1 = .ok (.invokevirtual 127, 3) := by decide +kernel
theorem dX9_best_4 : decode cX9_best 4 = .ok (.ireturn, 1) := by decide +kernel
theorem dX9_sends_0 : decode cX9_sends 0 = .ok (.aload_n 0, 1) := by decide +kernel
theorem dX9_sends_1 : decode cX9_sends 1 = .ok (.getfield 79, 3) := by decide +kernel
theorem dX9_sends_4 : decode cX9_sends 4 = .ok (.istore_n 2, 1) := by decide +kernel
theorem dX9_sends_5 : decode cX9_sends 5 = .ok (.iconst 0, 1) := by decide +kernel
theorem dX9_sends_6 : decode cX9_sends 6 = .ok (.istore_n 3, 1) := by decide +kernel
theorem dX9_sends_7 : decode cX9_sends 7 = .ok (.iload_n 3, 1) := by decide +kernel
theorem dX9_sends_8 : decode cX9_sends 8 = .ok (.bipush 8, 2) := by decide +kernel
theorem dX9_sends_10 : decode cX9_sends 10 = .ok (.if_icmp .ge 61, 3) := by decide +kernel
theorem dX9_sends_13 : decode cX9_sends 13 = .ok (.aload_n 0, 1) := by decide +kernel
theorem dX9_sends_14 : decode cX9_sends 14 = .ok (.getfield 22, 3) := by decide +kernel
theorem dX9_sends_17 : decode cX9_sends 17 = .ok (.iload_n 3, 1) := by decide +kernel
theorem dX9_sends_18 : decode cX9_sends 18 = .ok (.invokestatic 75, 3) := by decide +kernel
theorem dX9_sends_21 : decode cX9_sends 21 = .ok (.ifCond .eq 12, 3) := by decide +kernel
theorem dX9_sends_24 : decode cX9_sends 24 = .ok (.aload_n 0, 1) := by decide +kernel
theorem dX9_sends_25 : decode cX9_sends 25 = .ok (.iload_n 3, 1) := by decide +kernel
theorem dX9_sends_26 : decode cX9_sends 26 = .ok (.iload_n 1, 1) := by decide +kernel
theorem dX9_sends_27 : decode cX9_sends 27 = .ok (.invokevirtual 109, 3) := by decide +kernel
theorem dX9_sends_30 : decode cX9_sends 30 = .ok (.goto 5, 3) := by decide +kernel
theorem dX9_sends_33 : decode cX9_sends 33 = .ok (.bipush (-9), 2) := by decide +kernel
theorem dX9_sends_35 : decode cX9_sends 35 = .ok (.istore 4, 2) := by decide +kernel
theorem dX9_sends_37 : decode cX9_sends 37 = .ok (.iload 4, 2) := by decide +kernel
theorem dX9_sends_39 : decode cX9_sends 39 = .ok (.bipush (-9), 2) := by decide +kernel
theorem dX9_sends_41 : decode cX9_sends 41 = .ok (.if_icmp .eq 24, 3) := by decide +kernel
theorem dX9_sends_44 : decode cX9_sends 44 = .ok (.aload_n 0, 1) := by decide +kernel
theorem dX9_sends_45 : decode cX9_sends 45 = .ok (.getfield 13, 3) := by decide +kernel
theorem dX9_sends_48 : decode cX9_sends 48 = .ok (.iload_n 3, 1) := by decide +kernel
theorem dX9_sends_49 : decode cX9_sends 49 = .ok (.dup2, 1) := by decide +kernel
theorem dX9_sends_50 : decode cX9_sends 50 = .ok (.iaload, 1) := by decide +kernel
theorem dX9_sends_51 : decode cX9_sends 51 = .ok (.iconst 1, 1) := by decide +kernel
theorem dX9_sends_52 : decode cX9_sends 52 = .ok (.iload 4, 2) := by decide +kernel
theorem dX9_sends_54 : decode cX9_sends 54 = .ok (.ishl, 1) := by decide +kernel
theorem dX9_sends_55 : decode cX9_sends 55 = .ok (.ior, 1) := by decide +kernel
theorem dX9_sends_56 : decode cX9_sends 56 = .ok (.iastore, 1) := by decide +kernel
theorem dX9_sends_57 : decode cX9_sends 57 = .ok (.aload_n 0, 1) := by decide +kernel
theorem dX9_sends_58 : decode cX9_sends 58 = .ok (.iload 4, 2) := by decide +kernel
theorem dX9_sends_60 : decode cX9_sends 60 = .ok (.iload_n 3, 1) := by decide +kernel
theorem dX9_sends_61 : decode cX9_sends 61 = .ok (.invokevirtual 86, 3) := by decide +kernel
theorem dX9_sends_64 : decode cX9_sends 64 = .ok (.pop, 1) := by decide +kernel
theorem dX9_sends_65 : decode cX9_sends 65 = .ok (.iinc 3 1, 3) := by decide +kernel
theorem dX9_sends_68 : decode cX9_sends 68 = .ok (.goto (-61), 3) := by decide +kernel
theorem dX9_sends_71 : decode cX9_sends 71 = .ok (.aload_n 0, 1) := by decide +kernel
theorem dX9_sends_72 : decode cX9_sends 72 = .ok (.dup, 1) := by decide +kernel
theorem dX9_sends_73 : decode cX9_sends 73 = .ok (.getfield 96, 3) := by decide +kernel
theorem dX9_sends_76 : decode cX9_sends 76 = .ok (.iconst 1, 1) := by decide +kernel
theorem dX9_sends_77 : decode cX9_sends 77 = .ok (.iadd, 1) := by decide +kernel
theorem dX9_sends_78 : decode cX9_sends 78 = .ok (.putfield 96, 3) := by decide +kernel
theorem dX9_sends_81 : decode cX9_sends 81 = .ok (.aload_n 0, 1) := by decide +kernel
theorem dX9_sends_82 : decode cX9_sends 82 = .ok (.dup, 1) := by decide +kernel
theorem dX9_sends_83 : decode cX9_sends 83 = .ok (.getfield 99, 3) := by decide +kernel
theorem dX9_sends_86 : decode cX9_sends 86 = .ok (.iload_n 2, 1) := by decide +kernel
theorem dX9_sends_87 : decode cX9_sends 87 = .ok (.aload_n 0, 1) := by decide +kernel
theorem dX9_sends_88 : decode cX9_sends 88 = .ok (.getfield 79, 3) := by decide +kernel
theorem dX9_sends_91 : decode cX9_sends 91 = .ok (.isub, 1) := by decide +kernel
theorem dX9_sends_92 : decode cX9_sends 92 = .ok (.iadd, 1) := by decide +kernel
theorem dX9_sends_93 : decode cX9_sends 93 = .ok (.putfield 99, 3) := by decide +kernel
theorem dX9_sends_96 : decode cX9_sends 96 = .ok (.iload_n 2, 1) := by decide +kernel
theorem dX9_sends_97 : decode cX9_sends 97 = .ok (.aload_n 0, 1) := by decide +kernel
theorem dX9_sends_98 : decode cX9_sends 98 = .ok (.getfield 79, 3) := by decide +kernel
theorem dX9_sends_101 : decode cX9_sends 101 = .ok (.isub, 1) := by decide +kernel
theorem dX9_sends_102 : decode cX9_sends 102 = .ok (.ireturn, 1) := by decide +kernel
theorem dX9_send_0 : decode cX9_send 0 = .ok (.aload_n 0, 1) := by decide +kernel
theorem dX9_send_1 : decode cX9_send 1 = .ok (.iload_n 1, 1) := by decide +kernel
theorem dX9_send_2 : decode cX9_send 2 = .ok (.invokevirtual 106, 3) := by decide +kernel
theorem dX9_send_5 : decode cX9_send 5 = .ok (.ifCond .eq 11, 3) := by decide +kernel
theorem dX9_send_8 : decode cX9_send 8 = .ok (.aload_n 0, 1) := by decide +kernel
theorem dX9_send_9 : decode cX9_send 9 = .ok (.iload_n 1, 1) := by decide +kernel
theorem dX9_send_10 : decode cX9_send 10 = .ok (.invokevirtual 131, 3) := by decide +kernel
theorem dX9_send_13 : decode cX9_send 13 = .ok (.goto 5, 3) := by decide +kernel
theorem dX9_send_16 : decode cX9_send 16 = .ok (.bipush (-2), 2) := by decide +kernel
theorem dX9_send_18 : decode cX9_send 18 = .ok (.ireturn, 1) := by decide +kernel
theorem dX9_serve_0 : decode cX9_serve 0 = .ok (.iload_n 1, 1) := by decide +kernel
theorem dX9_serve_1 : decode cX9_serve 1 = .ok (.iconst 0, 1) := by decide +kernel
theorem dX9_serve_2 : decode cX9_serve 2 = .ok (.bipush 16, 2) := by decide +kernel
theorem dX9_serve_4 : decode cX9_serve 4 = .ok (.invokestatic 68, 3) := by decide +kernel
theorem dX9_serve_7 : decode cX9_serve 7 = .ok (.ifCond .ne 6, 3) := by decide +kernel
theorem dX9_serve_10 : decode cX9_serve 10 = .ok (.bipush (-2), 2) := by decide +kernel
theorem dX9_serve_12 : decode cX9_serve 12 = .ok (.ireturn, 1) := by decide +kernel
theorem dX9_serve_13 : decode cX9_serve 13 = .ok (.iconst 0, 1) := by decide +kernel
theorem dX9_serve_14 : decode cX9_serve 14 = .ok (.istore_n 2, 1) := by decide +kernel
theorem dX9_serve_15 : decode cX9_serve 15 = .ok (.aload_n 0, 1) := by decide +kernel
theorem dX9_serve_16 : decode cX9_serve 16 = .ok (.invokevirtual 127, 3) := by decide +kernel
theorem dX9_serve_19 : decode cX9_serve 19 = .ok (.istore_n 3, 1) := by decide +kernel
theorem dX9_serve_20 : decode cX9_serve 20 = .ok (.iload_n 2, 1) := by decide +kernel
theorem dX9_serve_21 : decode cX9_serve 21 = .ok (.iload_n 1, 1) := by decide +kernel
theorem dX9_serve_22 : decode cX9_serve 22 = .ok (.if_icmp .ge 24, 3) := by decide +kernel
theorem dX9_serve_25 : decode cX9_serve 25 = .ok (.iload_n 3, 1) := by decide +kernel
theorem dX9_serve_26 : decode cX9_serve 26 = .ok (.ifCond .eq 20, 3) := by decide +kernel
theorem dX9_serve_29 : decode cX9_serve 29 = .ok (.aload_n 0, 1) := by decide +kernel
theorem dX9_serve_30 : decode cX9_serve 30 = .ok (.iload_n 3, 1) := by decide +kernel
theorem dX9_serve_31 : decode cX9_serve 31 = .ok (.invokevirtual 131, 3) := by decide +kernel
theorem dX9_serve_34 : decode cX9_serve 34 = .ok (.pop, 1) := by decide +kernel
theorem dX9_serve_35 : decode cX9_serve 35 = .ok (.iinc 2 1, 3) := by decide +kernel
theorem dX9_serve_38 : decode cX9_serve 38 = .ok (.aload_n 0, 1) := by decide +kernel
theorem dX9_serve_39 : decode cX9_serve 39 = .ok (.invokevirtual 127, 3) := by decide +kernel
theorem dX9_serve_42 : decode cX9_serve 42 = .ok (.istore_n 3, 1) := by decide +kernel
theorem dX9_serve_43 : decode cX9_serve 43 = .ok (.goto (-23), 3) := by decide +kernel
theorem dX9_serve_46 : decode cX9_serve 46 = .ok (.iload_n 2, 1) := by decide +kernel
theorem dX9_serve_47 : decode cX9_serve 47 = .ok (.ireturn, 1) := by decide +kernel
theorem dX9_key_0 : decode cX9_key 0 = .ok (.iload_n 1, 1) := by decide +kernel
theorem dX9_key_1 : decode cX9_key 1 = .ok (.iconst 0, 1) := by decide +kernel
theorem dX9_key_2 : decode cX9_key 2 = .ok (.bipush 127, 2) := by decide +kernel
theorem dX9_key_4 : decode cX9_key 4 = .ok (.invokestatic 68, 3) := by decide +kernel
theorem dX9_key_7 : decode cX9_key 7 = .ok (.ifCond .ne 6, 3) := by decide +kernel
theorem dX9_key_10 : decode cX9_key 10 = .ok (.bipush (-2), 2) := by decide +kernel
theorem dX9_key_12 : decode cX9_key 12 = .ok (.ireturn, 1) := by decide +kernel
theorem dX9_key_13 : decode cX9_key 13 = .ok (.aload_n 0, 1) := by decide +kernel
theorem dX9_key_14 : decode cX9_key 14 = .ok (.getfield 134, 3) := by decide +kernel
theorem dX9_key_17 : decode cX9_key 17 = .ok (.bipush 12, 2) := by decide +kernel
theorem dX9_key_19 : decode cX9_key 19 = .ok (.if_icmp .ne 6, 3) := by decide +kernel
theorem dX9_key_22 : decode cX9_key 22 = .ok (.bipush (-4), 2) := by decide +kernel
theorem dX9_key_24 : decode cX9_key 24 = .ok (.ireturn, 1) := by decide +kernel
theorem dX9_key_25 : decode cX9_key 25 = .ok (.aload_n 0, 1) := by decide +kernel
theorem dX9_key_26 : decode cX9_key 26 = .ok (.getfield 29, 3) := by decide +kernel
theorem dX9_key_29 : decode cX9_key 29 = .ok (.aload_n 0, 1) := by decide +kernel
theorem dX9_key_30 : decode cX9_key 30 = .ok (.getfield 134, 3) := by decide +kernel
theorem dX9_key_33 : decode cX9_key 33 = .ok (.iload_n 1, 1) := by decide +kernel
theorem dX9_key_34 : decode cX9_key 34 = .ok (.iastore, 1) := by decide +kernel
theorem dX9_key_35 : decode cX9_key 35 = .ok (.aload_n 0, 1) := by decide +kernel
theorem dX9_key_36 : decode cX9_key 36 = .ok (.dup, 1) := by decide +kernel
theorem dX9_key_37 : decode cX9_key 37 = .ok (.getfield 134, 3) := by decide +kernel
theorem dX9_key_40 : decode cX9_key 40 = .ok (.iconst 1, 1) := by decide +kernel
theorem dX9_key_41 : decode cX9_key 41 = .ok (.iadd, 1) := by decide +kernel
theorem dX9_key_42 : decode cX9_key 42 = .ok (.putfield 134, 3) := by decide +kernel
theorem dX9_key_45 : decode cX9_key 45 = .ok (.aload_n 0, 1) := by decide +kernel
theorem dX9_key_46 : decode cX9_key 46 = .ok (.getfield 134, 3) := by decide +kernel
theorem dX9_key_49 : decode cX9_key 49 = .ok (.ireturn, 1) := by decide +kernel
theorem dX9_wipe_0 : decode cX9_wipe 0 = .ok (.aload_n 0, 1) := by decide +kernel
theorem dX9_wipe_1 : decode cX9_wipe 1 = .ok (.getfield 134, 3) := by decide +kernel
theorem dX9_wipe_4 : decode cX9_wipe 4 = .ok (.istore_n 1, 1) := by decide +kernel
theorem dX9_wipe_5 : decode cX9_wipe 5 = .ok (.aload_n 0, 1) := by decide +kernel
theorem dX9_wipe_6 : decode cX9_wipe 6 = .ok (.iconst 0, 1) := by decide +kernel
theorem dX9_wipe_7 : decode cX9_wipe 7 = .ok (.putfield 134, 3) := by decide +kernel
theorem dX9_wipe_10 : decode cX9_wipe 10 = .ok (.iload_n 1, 1) := by decide +kernel
theorem dX9_wipe_11 : decode cX9_wipe 11 = .ok (.ireturn, 1) := by decide +kernel
theorem dX9_primeOnTape_0 : decode cX9_primeOnTape 0 = .ok (.iconst 0, 1) := by decide +kernel
theorem dX9_primeOnTape_1 : decode cX9_primeOnTape 1 = .ok (.istore_n 1, 1) := by decide +kernel
theorem dX9_primeOnTape_2 : decode cX9_primeOnTape 2 = .ok (.iconst 0, 1) := by decide +kernel
theorem dX9_primeOnTape_3 : decode cX9_primeOnTape 3 = .ok (.istore_n 2, 1) := by decide +kernel
theorem dX9_primeOnTape_4 : decode cX9_primeOnTape 4 = .ok (.iload_n 2, 1) := by decide +kernel
theorem dX9_primeOnTape_5 : decode cX9_primeOnTape 5 = .ok (.aload_n 0, 1) := by decide +kernel
theorem dX9_primeOnTape_6 : decode cX9_primeOnTape 6 = .ok (.getfield 50, 3) := by decide +kernel
theorem dX9_primeOnTape_9 : decode cX9_primeOnTape 9 = .ok (.arraylength, 1) := by decide +kernel
theorem dX9_primeOnTape_10 : decode cX9_primeOnTape 10 = .ok (.if_icmp .ge 97, 3) := by decide +kernel
theorem dX9_primeOnTape_13 : decode cX9_primeOnTape 13 = .ok (.aload_n 0, 1) := by decide +kernel
theorem dX9_primeOnTape_14 : decode cX9_primeOnTape 14 = .ok (.getfield 134, 3) := by decide +kernel
theorem dX9_primeOnTape_17 : decode cX9_primeOnTape 17 = .ok (.aload_n 0, 1) := by decide +kernel
theorem dX9_primeOnTape_18 : decode cX9_primeOnTape 18 = .ok (.getfield 53, 3) := by decide +kernel
theorem dX9_primeOnTape_21 : decode cX9_primeOnTape 21 = .ok (.iload_n 2, 1) := by decide +kernel
theorem dX9_primeOnTape_22 : decode cX9_primeOnTape 22 = .ok (.iaload, 1) := by decide +kernel
theorem dX9_primeOnTape_23 : decode cX9_primeOnTape 23 = .ok (.if_icmp .ne 7, 3) := by decide +kernel
theorem dX9_primeOnTape_26 : decode cX9_primeOnTape 26 = .ok (.iconst 1, 1) := by decide +kernel
theorem dX9_primeOnTape_27 : decode cX9_primeOnTape 27 = .ok (.goto 4, 3) := by decide +kernel
theorem dX9_primeOnTape_30 : decode cX9_primeOnTape 30 = .ok (.iconst 0, 1) := by decide +kernel
theorem dX9_primeOnTape_31 : decode cX9_primeOnTape 31 = .ok (.istore_n 3, 1) := by decide +kernel
theorem dX9_primeOnTape_32 : decode cX9_primeOnTape 32 = .ok (.iconst 0, 1) := by decide +kernel
theorem dX9_primeOnTape_33 : decode cX9_primeOnTape 33 = .ok (.istore 4, 2) := by decide +kernel
theorem dX9_primeOnTape_35 : decode cX9_primeOnTape 35 = .ok (.iload 4, 2) := by decide +kernel
theorem dX9_primeOnTape_37 : decode cX9_primeOnTape 37 = .ok (.aload_n 0, 1) := by decide +kernel
theorem dX9_primeOnTape_38 : decode cX9_primeOnTape 38 = .ok (.getfield 53, 3) := by decide +kernel
theorem dX9_primeOnTape_41 : decode cX9_primeOnTape 41 = .ok (.iload_n 2, 1) := by decide +kernel
theorem dX9_primeOnTape_42 : decode cX9_primeOnTape 42 = .ok (.iaload, 1) := by decide +kernel
theorem dX9_primeOnTape_43 : decode cX9_primeOnTape 43 = .ok (.if_icmp .ge 38, 3) := by decide +kernel
theorem dX9_primeOnTape_46 : decode cX9_primeOnTape 46 = .ok (.iload_n 3, 1) := by decide +kernel
theorem dX9_primeOnTape_47 : decode cX9_primeOnTape 47 = .ok (.ifCond .eq 34, 3) := by decide +kernel
theorem dX9_primeOnTape_50 : decode cX9_primeOnTape 50 = .ok (.aload_n 0, 1) := by decide +kernel
theorem dX9_primeOnTape_51 : decode cX9_primeOnTape 51 = .ok (.getfield 29, 3) := by decide +kernel
theorem dX9_primeOnTape_54 : decode cX9_primeOnTape 54 = .ok (.iload 4, 2) := by decide +kernel
theorem dX9_primeOnTape_56 : decode cX9_primeOnTape 56 = .ok (.iaload, 1) := by decide +kernel
theorem dX9_primeOnTape_57 : decode cX9_primeOnTape 57 = .ok (.aload_n 0, 1) := by decide +kernel
theorem dX9_primeOnTape_58 : decode cX9_primeOnTape 58 = .ok (.getfield 56, 3) := by decide +kernel
theorem dX9_primeOnTape_61 : decode cX9_primeOnTape 61 = .ok (.iload_n 1, 1) := by decide +kernel
theorem dX9_primeOnTape_62 : decode cX9_primeOnTape 62 = .ok (.iload 4, 2) := by decide +kernel
theorem dX9_primeOnTape_64 : decode cX9_primeOnTape 64 = .ok (.iadd, 1) := by decide +kernel
theorem dX9_primeOnTape_65 : decode cX9_primeOnTape 65 = .ok (.iaload, 1) := by decide +kernel
theorem dX9_primeOnTape_66 : decode cX9_primeOnTape 66 = .ok (.if_icmp .ne 7, 3) := by decide +kernel
theorem dX9_primeOnTape_69 : decode cX9_primeOnTape 69 = .ok (.iconst 1, 1) := by decide +kernel
theorem dX9_primeOnTape_70 : decode cX9_primeOnTape 70 = .ok (.goto 4, 3) := by decide +kernel
theorem dX9_primeOnTape_73 : decode cX9_primeOnTape 73 = .ok (.iconst 0, 1) := by decide +kernel
theorem dX9_primeOnTape_74 : decode cX9_primeOnTape 74 = .ok (.istore_n 3, 1) := by decide +kernel
theorem dX9_primeOnTape_75 : decode cX9_primeOnTape 75 = .ok (.iinc 4 1, 3) := by decide +kernel
theorem dX9_primeOnTape_78 : decode cX9_primeOnTape 78 = .ok (.goto (-43), 3) := by decide +kernel
theorem dX9_primeOnTape_81 : decode cX9_primeOnTape 81 = .ok (.iload_n 3, 1) := by decide +kernel
theorem dX9_primeOnTape_82 : decode cX9_primeOnTape 82 = .ok (.ifCond .eq 10, 3) := by decide +kernel
theorem dX9_primeOnTape_85 : decode cX9_primeOnTape 85 = .ok (.aload_n 0, 1) := by decide +kernel
theorem dX9_primeOnTape_86 : decode cX9_primeOnTape 86 = .ok (.getfield 50, 3) := by decide +kernel
theorem dX9_primeOnTape_89 : decode cX9_primeOnTape 89 = .ok (.iload_n 2, 1) := by decide +kernel
theorem dX9_primeOnTape_90 : decode cX9_primeOnTape 90 = .ok (.iaload, 1) := by decide +kernel
theorem dX9_primeOnTape_91 : decode cX9_primeOnTape 91 = .ok (.ireturn, 1) := by decide +kernel
theorem dX9_primeOnTape_92 : decode cX9_primeOnTape 92 = .ok (.iload_n 1, 1) := by decide +kernel
theorem dX9_primeOnTape_93 : decode cX9_primeOnTape 93 = .ok (.aload_n 0, 1) := by decide +kernel
theorem dX9_primeOnTape_94 : decode cX9_primeOnTape 94 = .ok (.getfield 53, 3) := by decide +kernel
theorem dX9_primeOnTape_97 : decode cX9_primeOnTape 97 = .ok (.iload_n 2, 1) := by decide +kernel
theorem dX9_primeOnTape_98 : decode cX9_primeOnTape 98 = .ok (.iaload, 1) := by decide +kernel
theorem dX9_primeOnTape_99 : decode cX9_primeOnTape 99 = .ok (.iadd, 1) := by decide +kernel
theorem dX9_primeOnTape_100 : decode cX9_primeOnTape 100 = .ok (.istore_n 1, 1) := by decide +kernel
theorem dX9_primeOnTape_101 : decode cX9_primeOnTape 101 = .ok (.iinc 2 1, 3) := by decide +kernel
theorem dX9_primeOnTape_104 : decode cX9_primeOnTape 104 = .ok (.goto (-100), 3) := by decide +kernel
theorem dX9_primeOnTape_107 : decode cX9_primeOnTape 107 = .ok (.bipush (-9), 2) := by decide +kernel
theorem dX9_primeOnTape_109 : decode cX9_primeOnTape 109 = .ok (.ireturn, 1) := by decide +kernel
theorem dX9_word_0 : decode cX9_word 0 = .ok (.aload_n 0, 1) := by decide +kernel
theorem dX9_word_1 : decode cX9_word 1 = .ok (.invokevirtual 137, 3) := by decide +kernel
theorem dX9_word_4 : decode cX9_word 4 = .ok (.istore_n 1, 1) := by decide +kernel
theorem dX9_word_5 : decode cX9_word 5 = .ok (.iload_n 1, 1) := by decide +kernel
theorem dX9_word_6 : decode cX9_word 6 = .ok (.bipush (-9), 2) := by decide +kernel
theorem dX9_word_8 : decode cX9_word 8 = .ok (.if_icmp .ne 5, 3) := by decide +kernel
theorem dX9_word_11 : decode cX9_word 11 = .ok (.iconst (-1), 1) := by decide +kernel
theorem dX9_word_12 : decode cX9_word 12 = .ok (.ireturn, 1) := by decide +kernel
theorem dX9_word_13 : decode cX9_word 13 = .ok (.aload_n 0, 1) := by decide +kernel
theorem dX9_word_14 : decode cX9_word 14 = .ok (.iload_n 1, 1) := by decide +kernel
theorem dX9_word_15 : decode cX9_word 15 = .ok (.putfield 32, 3) := by decide +kernel
theorem dX9_word_18 : decode cX9_word 18 = .ok (.aload_n 0, 1) := by decide +kernel
theorem dX9_word_19 : decode cX9_word 19 = .ok (.iconst 0, 1) := by decide +kernel
theorem dX9_word_20 : decode cX9_word 20 = .ok (.putfield 140, 3) := by decide +kernel
theorem dX9_word_23 : decode cX9_word 23 = .ok (.aload_n 0, 1) := by decide +kernel
theorem dX9_word_24 : decode cX9_word 24 = .ok (.iconst 0, 1) := by decide +kernel
theorem dX9_word_25 : decode cX9_word 25 = .ok (.putfield 143, 3) := by decide +kernel
theorem dX9_word_28 : decode cX9_word 28 = .ok (.aload_n 0, 1) := by decide +kernel
theorem dX9_word_29 : decode cX9_word 29 = .ok (.iconst 0, 1) := by decide +kernel
theorem dX9_word_30 : decode cX9_word 30 = .ok (.putfield 134, 3) := by decide +kernel
theorem dX9_word_33 : decode cX9_word 33 = .ok (.aload_n 0, 1) := by decide +kernel
theorem dX9_word_34 : decode cX9_word 34 = .ok (.getfield 32, 3) := by decide +kernel
theorem dX9_word_37 : decode cX9_word 37 = .ok (.ireturn, 1) := by decide +kernel
theorem dX9_placeOf_0 : decode cX9_placeOf 0 = .ok (.iconst 0, 1) := by decide +kernel
theorem dX9_placeOf_1 : decode cX9_placeOf 1 = .ok (.istore_n 2, 1) := by decide +kernel
theorem dX9_placeOf_2 : decode cX9_placeOf 2 = .ok (.iload_n 2, 1) := by decide +kernel
theorem dX9_placeOf_3 : decode cX9_placeOf 3 = .ok (.aload_n 0, 1) := by decide +kernel
theorem dX9_placeOf_4 : decode cX9_placeOf 4 = .ok (.getfield 140, 3) := by decide +kernel
theorem dX9_placeOf_7 : decode cX9_placeOf 7 = .ok (.if_icmp .ge 21, 3) := by decide +kernel
theorem dX9_placeOf_10 : decode cX9_placeOf 10 = .ok (.aload_n 0, 1) := by decide +kernel
theorem dX9_placeOf_11 : decode cX9_placeOf 11 = .ok (.getfield 35, 3) := by decide +kernel
theorem dX9_placeOf_14 : decode cX9_placeOf 14 = .ok (.iload_n 2, 1) := by decide +kernel
theorem dX9_placeOf_15 : decode cX9_placeOf 15 = .ok (.iaload, 1) := by decide +kernel
theorem dX9_placeOf_16 : decode cX9_placeOf 16 = .ok (.iload_n 1, 1) := by decide +kernel
theorem dX9_placeOf_17 : decode cX9_placeOf 17 = .ok (.if_icmp .ne 5, 3) := by decide +kernel
theorem dX9_placeOf_20 : decode cX9_placeOf 20 = .ok (.iload_n 2, 1) := by decide +kernel
theorem dX9_placeOf_21 : decode cX9_placeOf 21 = .ok (.ireturn, 1) := by decide +kernel
theorem dX9_placeOf_22 : decode cX9_placeOf 22 = .ok (.iinc 2 1, 3) := by decide +kernel
theorem dX9_placeOf_25 : decode cX9_placeOf 25 = .ok (.goto (-23), 3) := by decide +kernel
theorem dX9_placeOf_28 : decode cX9_placeOf 28 = .ok (.bipush (-9), 2) := by decide +kernel
theorem dX9_placeOf_30 : decode cX9_placeOf 30 = .ok (.ireturn, 1) := by decide +kernel
theorem dX9_isNode_0 : decode cX9_isNode 0 = .ok (.iload_n 0, 1) := by decide +kernel
theorem dX9_isNode_1 : decode cX9_isNode 1 = .ok (.iconst 0, 1) := by decide +kernel
theorem dX9_isNode_2 : decode cX9_isNode 2 = .ok (.iconst 3, 1) := by decide +kernel
theorem dX9_isNode_3 : decode cX9_isNode 3 = .ok (.invokestatic 68, 3) := by decide +kernel
theorem dX9_isNode_6 : decode cX9_isNode 6 = .ok (.ireturn, 1) := by decide +kernel
theorem dX9_at_0 : decode cX9_at 0 = .ok (.bipush 8, 2) := by decide +kernel
theorem dX9_at_2 : decode cX9_at 2 = .ok (.iconst 5, 1) := by decide +kernel
theorem dX9_at_3 : decode cX9_at 3 = .ok (.iconst 4, 1) := by decide +kernel
theorem dX9_at_4 : decode cX9_at 4 = .ok (.iload_n 0, 1) := by decide +kernel
theorem dX9_at_5 : decode cX9_at 5 = .ok (.imul, 1) := by decide +kernel
theorem dX9_at_6 : decode cX9_at 6 = .ok (.iload_n 1, 1) := by decide +kernel
theorem dX9_at_7 : decode cX9_at 7 = .ok (.iadd, 1) := by decide +kernel
theorem dX9_at_8 : decode cX9_at 8 = .ok (.imul, 1) := by decide +kernel
theorem dX9_at_9 : decode cX9_at 9 = .ok (.iload_n 2, 1) := by decide +kernel
theorem dX9_at_10 : decode cX9_at 10 = .ok (.iadd, 1) := by decide +kernel
theorem dX9_at_11 : decode cX9_at 11 = .ok (.imul, 1) := by decide +kernel
theorem dX9_at_12 : decode cX9_at 12 = .ok (.ireturn, 1) := by decide +kernel
theorem dX9_rankOf_0 : decode cX9_rankOf 0 = .ok (.aload_n 0, 1) := by decide +kernel
theorem dX9_rankOf_1 : decode cX9_rankOf 1 = .ok (.getfield 41, 3) := by decide +kernel
theorem dX9_rankOf_4 : decode cX9_rankOf 4 = .ok (.iconst 4, 1) := by decide +kernel
theorem dX9_rankOf_5 : decode cX9_rankOf 5 = .ok (.iload_n 1, 1) := by decide +kernel
theorem dX9_rankOf_6 : decode cX9_rankOf 6 = .ok (.imul, 1) := by decide +kernel
theorem dX9_rankOf_7 : decode cX9_rankOf 7 = .ok (.iload_n 2, 1) := by decide +kernel
theorem dX9_rankOf_8 : decode cX9_rankOf 8 = .ok (.iadd, 1) := by decide +kernel
theorem dX9_rankOf_9 : decode cX9_rankOf 9 = .ok (.iaload, 1) := by decide +kernel
theorem dX9_rankOf_10 : decode cX9_rankOf 10 = .ok (.ireturn, 1) := by decide +kernel
theorem dX9_open_0 : decode cX9_open 0 = .ok (.iload_n 1, 1) := by decide +kernel
theorem dX9_open_1 : decode cX9_open 1 = .ok (.iconst 1, 1) := by decide +kernel
theorem dX9_open_2 : decode cX9_open 2 = .ok (.iconst 5, 1) := by decide +kernel
theorem dX9_open_3 : decode cX9_open 3 = .ok (.invokestatic 68, 3) := by decide +kernel
theorem dX9_open_6 : decode cX9_open 6 = .ok (.ifCond .ne 6, 3) := by decide +kernel
theorem dX9_open_9 : decode cX9_open 9 = .ok (.bipush (-2), 2) := by decide +kernel
theorem dX9_open_11 : decode cX9_open 11 = .ok (.ireturn, 1) := by decide +kernel
theorem dX9_open_12 : decode cX9_open 12 = .ok (.aload_n 0, 1) := by decide +kernel
theorem dX9_open_13 : decode cX9_open 13 = .ok (.getfield 140, 3) := by decide +kernel
theorem dX9_open_16 : decode cX9_open 16 = .ok (.iconst 3, 1) := by decide +kernel
theorem dX9_open_17 : decode cX9_open 17 = .ok (.if_icmp .ne 6, 3) := by decide +kernel
theorem dX9_open_20 : decode cX9_open 20 = .ok (.bipush (-4), 2) := by decide +kernel
theorem dX9_open_22 : decode cX9_open 22 = .ok (.ireturn, 1) := by decide +kernel
theorem dX9_open_23 : decode cX9_open 23 = .ok (.aload_n 0, 1) := by decide +kernel
theorem dX9_open_24 : decode cX9_open 24 = .ok (.getfield 140, 3) := by decide +kernel
theorem dX9_open_27 : decode cX9_open 27 = .ok (.istore_n 3, 1) := by decide +kernel
theorem dX9_open_28 : decode cX9_open 28 = .ok (.aload_n 0, 1) := by decide +kernel
theorem dX9_open_29 : decode cX9_open 29 = .ok (.getfield 35, 3) := by decide +kernel
theorem dX9_open_32 : decode cX9_open 32 = .ok (.iload_n 3, 1) := by decide +kernel
theorem dX9_open_33 : decode cX9_open 33 = .ok (.aload_n 0, 1) := by decide +kernel
theorem dX9_open_34 : decode cX9_open 34 = .ok (.getfield 143, 3) := by decide +kernel
theorem dX9_open_37 : decode cX9_open 37 = .ok (.iastore, 1) := by decide +kernel
theorem dX9_open_38 : decode cX9_open 38 = .ok (.aload_n 0, 1) := by decide +kernel
theorem dX9_open_39 : decode cX9_open 39 = .ok (.getfield 38, 3) := by decide +kernel
theorem dX9_open_42 : decode cX9_open 42 = .ok (.iload_n 3, 1) := by decide +kernel
theorem dX9_open_43 : decode cX9_open 43 = .ok (.iload_n 1, 1) := by decide +kernel
theorem dX9_open_44 : decode cX9_open 44 = .ok (.iastore, 1) := by decide +kernel
theorem dX9_open_45 : decode cX9_open 45 = .ok (.iconst 0, 1) := by decide +kernel
theorem dX9_open_46 : decode cX9_open 46 = .ok (.istore 4, 2) := by decide +kernel
theorem dX9_open_48 : decode cX9_open 48 = .ok (.iload 4, 2) := by decide +kernel
theorem dX9_open_50 : decode cX9_open 50 = .ok (.iconst 4, 1) := by decide +kernel
theorem dX9_open_51 : decode cX9_open 51 = .ok (.if_icmp .ge 30, 3) := by decide +kernel
theorem dX9_open_54 : decode cX9_open 54 = .ok (.aload_n 0, 1) := by decide +kernel
theorem dX9_open_55 : decode cX9_open 55 = .ok (.getfield 41, 3) := by decide +kernel
theorem dX9_open_58 : decode cX9_open 58 = .ok (.iconst 4, 1) := by decide +kernel
theorem dX9_open_59 : decode cX9_open 59 = .ok (.iload_n 3, 1) := by decide +kernel
theorem dX9_open_60 : decode cX9_open 60 = .ok (.imul, 1) := by decide +kernel
theorem dX9_open_61 : decode cX9_open 61 = .ok (.iload 4, 2) := by decide +kernel
theorem dX9_open_63 : decode cX9_open 63 = .ok (.iadd, 1) := by decide +kernel
theorem dX9_open_64 : decode cX9_open 64 = .ok (.iload 4, 2) := by decide +kernel
theorem dX9_open_66 : decode cX9_open 66 = .ok (.ifCond .ne 7, 3) := by decide +kernel
theorem dX9_open_69 : decode cX9_open 69 = .ok (.iload_n 1, 1) := by decide +kernel
theorem dX9_open_70 : decode cX9_open 70 = .ok (.goto 4, 3) := by decide +kernel
theorem dX9_open_73 : decode cX9_open 73 = .ok (.iconst 0, 1) := by decide +kernel
theorem dX9_open_74 : decode cX9_open 74 = .ok (.iastore, 1) := by decide +kernel
theorem dX9_open_75 : decode cX9_open 75 = .ok (.iinc 4 1, 3) := by decide +kernel
theorem dX9_open_78 : decode cX9_open 78 = .ok (.goto (-30), 3) := by decide +kernel
theorem dX9_open_81 : decode cX9_open 81 = .ok (.iconst 0, 1) := by decide +kernel
theorem dX9_open_82 : decode cX9_open 82 = .ok (.istore 4, 2) := by decide +kernel
theorem dX9_open_84 : decode cX9_open 84 = .ok (.iload 4, 2) := by decide +kernel
theorem dX9_open_86 : decode cX9_open 86 = .ok (.iload_n 1, 1) := by decide +kernel
theorem dX9_open_87 : decode cX9_open 87 = .ok (.if_icmp .ge 100, 3) := by decide +kernel
theorem dX9_open_90 : decode cX9_open 90 = .ok (.iload_n 3, 1) := by decide +kernel
theorem dX9_open_91 : decode cX9_open 91 = .ok (.iconst 0, 1) := by decide +kernel
theorem dX9_open_92 : decode cX9_open 92 = .ok (.iload 4, 2) := by decide +kernel
theorem dX9_open_94 : decode cX9_open 94 = .ok (.invokestatic 146, 3) := by decide +kernel
theorem dX9_open_97 : decode cX9_open 97 = .ok (.istore 5, 2) := by decide +kernel
theorem dX9_open_99 : decode cX9_open 99 = .ok (.iconst 0, 1) := by decide +kernel
theorem dX9_open_100 : decode cX9_open 100 = .ok (.istore 6, 2) := by decide +kernel
theorem dX9_open_102 : decode cX9_open 102 = .ok (.iload 6, 2) := by decide +kernel
theorem dX9_open_104 : decode cX9_open 104 = .ok (.iload_n 1, 1) := by decide +kernel
theorem dX9_open_105 : decode cX9_open 105 = .ok (.if_icmp .ge 31, 3) := by decide +kernel
theorem dX9_open_108 : decode cX9_open 108 = .ok (.aload_n 0, 1) := by decide +kernel
theorem dX9_open_109 : decode cX9_open 109 = .ok (.getfield 44, 3) := by decide +kernel
theorem dX9_open_112 : decode cX9_open 112 = .ok (.iload 5, 2) := by decide +kernel
theorem dX9_open_114 : decode cX9_open 114 = .ok (.iload 6, 2) := by decide +kernel
theorem dX9_open_116 : decode cX9_open 116 = .ok (.iadd, 1) := by decide +kernel
theorem dX9_open_117 : decode cX9_open 117 = .ok (.iload 6, 2) := by decide +kernel
theorem dX9_open_119 : decode cX9_open 119 = .ok (.iload 4, 2) := by decide +kernel
theorem dX9_open_121 : decode cX9_open 121 = .ok (.if_icmp .ne 7, 3) := by decide +kernel
theorem dX9_open_124 : decode cX9_open 124 = .ok (.iconst 1, 1) := by decide +kernel
theorem dX9_open_125 : decode cX9_open 125 = .ok (.goto 4, 3) := by decide +kernel
theorem dX9_open_128 : decode cX9_open 128 = .ok (.iconst 0, 1) := by decide +kernel
theorem dX9_open_129 : decode cX9_open 129 = .ok (.iastore, 1) := by decide +kernel
theorem dX9_open_130 : decode cX9_open 130 = .ok (.iinc 6 1, 3) := by decide +kernel
theorem dX9_open_133 : decode cX9_open 133 = .ok (.goto (-31), 3) := by decide +kernel
theorem dX9_open_136 : decode cX9_open 136 = .ok (.iconst 0, 1) := by decide +kernel
theorem dX9_open_137 : decode cX9_open 137 = .ok (.istore 6, 2) := by decide +kernel
theorem dX9_open_139 : decode cX9_open 139 = .ok (.iload 6, 2) := by decide +kernel
theorem dX9_open_141 : decode cX9_open 141 = .ok (.iconst 3, 1) := by decide +kernel
theorem dX9_open_142 : decode cX9_open 142 = .ok (.if_icmp .ge 39, 3) := by decide +kernel
end
section
theorem dX9_open_145 : decode cX9_open 145 = .ok (.aload_n 0, 1) := by decide +kernel
theorem dX9_open_146 : decode cX9_open 146 = .ok (.getfield 44, 3) := by decide +kernel
theorem dX9_open_149 : decode cX9_open 149 = .ok (.iload 5, 2) := by decide +kernel
theorem dX9_open_151 : decode cX9_open 151 = .ok (.iload_n 1, 1) := by decide +kernel
theorem dX9_open_152 : decode cX9_open 152 = .ok (.iadd, 1) := by decide +kernel
theorem dX9_open_153 : decode cX9_open 153 = .ok (.iload 6, 2) := by decide +kernel
theorem dX9_open_155 : decode cX9_open 155 = .ok (.iadd, 1) := by decide +kernel
theorem dX9_open_156 : decode cX9_open 156 = .ok (.iload_n 2, 1) := by decide +kernel
theorem dX9_open_157 : decode cX9_open 157 = .ok (.iconst 2, 1) := by decide +kernel
theorem dX9_open_158 : decode cX9_open 158 = .ok (.iconst 3, 1) := by decide +kernel
theorem dX9_open_159 : decode cX9_open 159 = .ok (.iload 4, 2) := by decide +kernel
theorem dX9_open_161 : decode cX9_open 161 = .ok (.imul, 1) := by decide +kernel
theorem dX9_open_162 : decode cX9_open 162 = .ok (.iload 6, 2) := by decide +kernel
theorem dX9_open_164 : decode cX9_open 164 = .ok (.iadd, 1) := by decide +kernel
theorem dX9_open_165 : decode cX9_open 165 = .ok (.imul, 1) := by decide +kernel
theorem dX9_open_166 : decode cX9_open 166 = .ok (.iushr, 1) := by decide +kernel
theorem dX9_open_167 : decode cX9_open 167 = .ok (.iconst 3, 1) := by decide +kernel
theorem dX9_open_168 : decode cX9_open 168 = .ok (.iand, 1) := by decide +kernel
theorem dX9_open_169 : decode cX9_open 169 = .ok (.aload_n 0, 1) := by decide +kernel
theorem dX9_open_170 : decode cX9_open 170 = .ok (.getfield 32, 3) := by decide +kernel
theorem dX9_open_173 : decode cX9_open 173 = .ok (.irem, 1) := by decide +kernel
theorem dX9_open_174 : decode cX9_open 174 = .ok (.iastore, 1) := by decide +kernel
theorem dX9_open_175 : decode cX9_open 175 = .ok (.iinc 6 1, 3) := by decide +kernel
theorem dX9_open_178 : decode cX9_open 178 = .ok (.goto (-39), 3) := by decide +kernel
theorem dX9_open_181 : decode cX9_open 181 = .ok (.iinc 4 1, 3) := by decide +kernel
theorem dX9_open_184 : decode cX9_open 184 = .ok (.goto (-100), 3) := by decide +kernel
theorem dX9_open_187 : decode cX9_open 187 = .ok (.aload_n 0, 1) := by decide +kernel
theorem dX9_open_188 : decode cX9_open 188 = .ok (.dup, 1) := by decide +kernel
theorem dX9_open_189 : decode cX9_open 189 = .ok (.getfield 140, 3) := by decide +kernel
theorem dX9_open_192 : decode cX9_open 192 = .ok (.iconst 1, 1) := by decide +kernel
theorem dX9_open_193 : decode cX9_open 193 = .ok (.iadd, 1) := by decide +kernel
theorem dX9_open_194 : decode cX9_open 194 = .ok (.putfield 140, 3) := by decide +kernel
theorem dX9_open_197 : decode cX9_open 197 = .ok (.aload_n 0, 1) := by decide +kernel
theorem dX9_open_198 : decode cX9_open 198 = .ok (.dup, 1) := by decide +kernel
theorem dX9_open_199 : decode cX9_open 199 = .ok (.getfield 143, 3) := by decide +kernel
theorem dX9_open_202 : decode cX9_open 202 = .ok (.iconst 1, 1) := by decide +kernel
theorem dX9_open_203 : decode cX9_open 203 = .ok (.iadd, 1) := by decide +kernel
theorem dX9_open_204 : decode cX9_open 204 = .ok (.putfield 143, 3) := by decide +kernel
theorem dX9_open_207 : decode cX9_open 207 = .ok (.aload_n 0, 1) := by decide +kernel
theorem dX9_open_208 : decode cX9_open 208 = .ok (.getfield 143, 3) := by decide +kernel
theorem dX9_open_211 : decode cX9_open 211 = .ok (.iconst 1, 1) := by decide +kernel
theorem dX9_open_212 : decode cX9_open 212 = .ok (.isub, 1) := by decide +kernel
theorem dX9_open_213 : decode cX9_open 213 = .ok (.ireturn, 1) := by decide +kernel
theorem dX9_rank_0 : decode cX9_rank 0 = .ok (.aload_n 0, 1) := by decide +kernel
theorem dX9_rank_1 : decode cX9_rank 1 = .ok (.iload_n 1, 1) := by decide +kernel
theorem dX9_rank_2 : decode cX9_rank 2 = .ok (.invokevirtual 150, 3) := by decide +kernel
theorem dX9_rank_5 : decode cX9_rank 5 = .ok (.istore_n 3, 1) := by decide +kernel
theorem dX9_rank_6 : decode cX9_rank 6 = .ok (.iload_n 3, 1) := by decide +kernel
theorem dX9_rank_7 : decode cX9_rank 7 = .ok (.bipush (-9), 2) := by decide +kernel
theorem dX9_rank_9 : decode cX9_rank 9 = .ok (.if_icmp .eq 10, 3) := by decide +kernel
theorem dX9_rank_12 : decode cX9_rank 12 = .ok (.iload_n 2, 1) := by decide +kernel
theorem dX9_rank_13 : decode cX9_rank 13 = .ok (.invokestatic 153, 3) := by decide +kernel
theorem dX9_rank_16 : decode cX9_rank 16 = .ok (.ifCond .ne 7, 3) := by decide +kernel
theorem dX9_rank_19 : decode cX9_rank 19 = .ok (.iconst (-1), 1) := by decide +kernel
theorem dX9_rank_20 : decode cX9_rank 20 = .ok (.goto 9, 3) := by decide +kernel
theorem dX9_rank_23 : decode cX9_rank 23 = .ok (.aload_n 0, 1) := by decide +kernel
theorem dX9_rank_24 : decode cX9_rank 24 = .ok (.iload_n 3, 1) := by decide +kernel
theorem dX9_rank_25 : decode cX9_rank 25 = .ok (.iload_n 2, 1) := by decide +kernel
theorem dX9_rank_26 : decode cX9_rank 26 = .ok (.invokevirtual 156, 3) := by decide +kernel
theorem dX9_rank_29 : decode cX9_rank 29 = .ok (.ireturn, 1) := by decide +kernel
theorem dX9_row_0 : decode cX9_row 0 = .ok (.aload_n 0, 1) := by decide +kernel
theorem dX9_row_1 : decode cX9_row 1 = .ok (.iload_n 1, 1) := by decide +kernel
theorem dX9_row_2 : decode cX9_row 2 = .ok (.invokevirtual 150, 3) := by decide +kernel
theorem dX9_row_5 : decode cX9_row 5 = .ok (.istore 5, 2) := by decide +kernel
theorem dX9_row_7 : decode cX9_row 7 = .ok (.iload 5, 2) := by decide +kernel
theorem dX9_row_9 : decode cX9_row 9 = .ok (.bipush (-9), 2) := by decide +kernel
theorem dX9_row_11 : decode cX9_row 11 = .ok (.if_icmp .eq 27, 3) := by decide +kernel
theorem dX9_row_14 : decode cX9_row 14 = .ok (.iload_n 2, 1) := by decide +kernel
theorem dX9_row_15 : decode cX9_row 15 = .ok (.invokestatic 153, 3) := by decide +kernel
theorem dX9_row_18 : decode cX9_row 18 = .ok (.ifCond .eq 20, 3) := by decide +kernel
theorem dX9_row_21 : decode cX9_row 21 = .ok (.iload_n 3, 1) := by decide +kernel
theorem dX9_row_22 : decode cX9_row 22 = .ok (.iconst 0, 1) := by decide +kernel
theorem dX9_row_23 : decode cX9_row 23 = .ok (.aload_n 0, 1) := by decide +kernel
theorem dX9_row_24 : decode cX9_row 24 = .ok (.iload 5, 2) := by decide +kernel
theorem dX9_row_26 : decode cX9_row 26 = .ok (.iload_n 2, 1) := by decide +kernel
theorem dX9_row_27 : decode cX9_row 27 = .ok (.invokevirtual 156, 3) := by decide +kernel
theorem dX9_row_30 : decode cX9_row 30 = .ok (.iconst 1, 1) := by decide +kernel
theorem dX9_row_31 : decode cX9_row 31 = .ok (.isub, 1) := by decide +kernel
theorem dX9_row_32 : decode cX9_row 32 = .ok (.invokestatic 68, 3) := by decide +kernel
theorem dX9_row_35 : decode cX9_row 35 = .ok (.ifCond .ne 5, 3) := by decide +kernel
theorem dX9_row_38 : decode cX9_row 38 = .ok (.iconst (-1), 1) := by decide +kernel
theorem dX9_row_39 : decode cX9_row 39 = .ok (.ireturn, 1) := by decide +kernel
theorem dX9_row_40 : decode cX9_row 40 = .ok (.iload 4, 2) := by decide +kernel
theorem dX9_row_42 : decode cX9_row 42 = .ok (.iconst 0, 1) := by decide +kernel
theorem dX9_row_43 : decode cX9_row 43 = .ok (.aload_n 0, 1) := by decide +kernel
theorem dX9_row_44 : decode cX9_row 44 = .ok (.getfield 38, 3) := by decide +kernel
theorem dX9_row_47 : decode cX9_row 47 = .ok (.iload 5, 2) := by decide +kernel
theorem dX9_row_49 : decode cX9_row 49 = .ok (.iaload, 1) := by decide +kernel
theorem dX9_row_50 : decode cX9_row 50 = .ok (.iconst 3, 1) := by decide +kernel
theorem dX9_row_51 : decode cX9_row 51 = .ok (.iadd, 1) := by decide +kernel
theorem dX9_row_52 : decode cX9_row 52 = .ok (.iconst 1, 1) := by decide +kernel
theorem dX9_row_53 : decode cX9_row 53 = .ok (.isub, 1) := by decide +kernel
theorem dX9_row_54 : decode cX9_row 54 = .ok (.invokestatic 68, 3) := by decide +kernel
theorem dX9_row_57 : decode cX9_row 57 = .ok (.ifCond .eq 21, 3) := by decide +kernel
theorem dX9_row_60 : decode cX9_row 60 = .ok (.aload_n 0, 1) := by decide +kernel
theorem dX9_row_61 : decode cX9_row 61 = .ok (.getfield 44, 3) := by decide +kernel
theorem dX9_row_64 : decode cX9_row 64 = .ok (.iload 5, 2) := by decide +kernel
theorem dX9_row_66 : decode cX9_row 66 = .ok (.iload_n 2, 1) := by decide +kernel
theorem dX9_row_67 : decode cX9_row 67 = .ok (.iload_n 3, 1) := by decide +kernel
theorem dX9_row_68 : decode cX9_row 68 = .ok (.invokestatic 146, 3) := by decide +kernel
theorem dX9_row_71 : decode cX9_row 71 = .ok (.iload 4, 2) := by decide +kernel
theorem dX9_row_73 : decode cX9_row 73 = .ok (.iadd, 1) := by decide +kernel
theorem dX9_row_74 : decode cX9_row 74 = .ok (.iaload, 1) := by decide +kernel
theorem dX9_row_75 : decode cX9_row 75 = .ok (.goto 5, 3) := by decide +kernel
theorem dX9_row_78 : decode cX9_row 78 = .ok (.bipush (-2), 2) := by decide +kernel
theorem dX9_row_80 : decode cX9_row 80 = .ok (.ireturn, 1) := by decide +kernel
theorem dX9_leadOf_0 : decode cX9_leadOf 0 = .ok (.iconst 0, 1) := by decide +kernel
theorem dX9_leadOf_1 : decode cX9_leadOf 1 = .ok (.istore 4, 2) := by decide +kernel
theorem dX9_leadOf_3 : decode cX9_leadOf 3 = .ok (.iload 4, 2) := by decide +kernel
theorem dX9_leadOf_5 : decode cX9_leadOf 5 = .ok (.iload_n 3, 1) := by decide +kernel
theorem dX9_leadOf_6 : decode cX9_leadOf 6 = .ok (.if_icmp .ge 18, 3) := by decide +kernel
theorem dX9_leadOf_9 : decode cX9_leadOf 9 = .ok (.aload_n 1, 1) := by decide +kernel
theorem dX9_leadOf_10 : decode cX9_leadOf 10 = .ok (.iload_n 2, 1) := by decide +kernel
theorem dX9_leadOf_11 : decode cX9_leadOf 11 = .ok (.iload 4, 2) := by decide +kernel
theorem dX9_leadOf_13 : decode cX9_leadOf 13 = .ok (.iadd, 1) := by decide +kernel
theorem dX9_leadOf_14 : decode cX9_leadOf 14 = .ok (.iaload, 1) := by decide +kernel
theorem dX9_leadOf_15 : decode cX9_leadOf 15 = .ok (.ifCond .ne 9, 3) := by decide +kernel
theorem dX9_leadOf_18 : decode cX9_leadOf 18 = .ok (.iinc 4 1, 3) := by decide +kernel
theorem dX9_leadOf_21 : decode cX9_leadOf 21 = .ok (.goto (-18), 3) := by decide +kernel
theorem dX9_leadOf_24 : decode cX9_leadOf 24 = .ok (.iload 4, 2) := by decide +kernel
theorem dX9_leadOf_26 : decode cX9_leadOf 26 = .ok (.ireturn, 1) := by decide +kernel
theorem dX9_isPlain_0 : decode cX9_isPlain 0 = .ok (.iconst 0, 1) := by decide +kernel
theorem dX9_isPlain_1 : decode cX9_isPlain 1 = .ok (.istore 4, 2) := by decide +kernel
theorem dX9_isPlain_3 : decode cX9_isPlain 3 = .ok (.iload 4, 2) := by decide +kernel
theorem dX9_isPlain_5 : decode cX9_isPlain 5 = .ok (.aload_n 0, 1) := by decide +kernel
theorem dX9_isPlain_6 : decode cX9_isPlain 6 = .ok (.getfield 38, 3) := by decide +kernel
theorem dX9_isPlain_9 : decode cX9_isPlain 9 = .ok (.iload_n 1, 1) := by decide +kernel
theorem dX9_isPlain_10 : decode cX9_isPlain 10 = .ok (.iaload, 1) := by decide +kernel
theorem dX9_isPlain_11 : decode cX9_isPlain 11 = .ok (.if_icmp .ge 34, 3) := by decide +kernel
theorem dX9_isPlain_14 : decode cX9_isPlain 14 = .ok (.aload_n 0, 1) := by decide +kernel
theorem dX9_isPlain_15 : decode cX9_isPlain 15 = .ok (.getfield 44, 3) := by decide +kernel
theorem dX9_isPlain_18 : decode cX9_isPlain 18 = .ok (.iload_n 2, 1) := by decide +kernel
theorem dX9_isPlain_19 : decode cX9_isPlain 19 = .ok (.iload 4, 2) := by decide +kernel
theorem dX9_isPlain_21 : decode cX9_isPlain 21 = .ok (.iadd, 1) := by decide +kernel
theorem dX9_isPlain_22 : decode cX9_isPlain 22 = .ok (.iaload, 1) := by decide +kernel
theorem dX9_isPlain_23 : decode cX9_isPlain 23 = .ok (.iload 4, 2) := by decide +kernel
theorem dX9_isPlain_25 : decode cX9_isPlain 25 = .ok (.iload_n 3, 1) := by decide +kernel
theorem dX9_isPlain_26 : decode cX9_isPlain 26 = .ok (.if_icmp .ne 7, 3) := by decide +kernel
theorem dX9_isPlain_29 : decode cX9_isPlain 29 = .ok (.iconst 1, 1) := by decide +kernel
theorem dX9_isPlain_30 : decode cX9_isPlain 30 = .ok (.goto 4, 3) := by decide +kernel
theorem dX9_isPlain_33 : decode cX9_isPlain 33 = .ok (.iconst 0, 1) := by decide +kernel
theorem dX9_isPlain_34 : decode cX9_isPlain 34 = .ok (.if_icmp .eq 5, 3) := by decide +kernel
theorem dX9_isPlain_37 : decode cX9_isPlain 37 = .ok (.iconst 0, 1) := by decide +kernel
theorem dX9_isPlain_38 : decode cX9_isPlain 38 = .ok (.ireturn, 1) := by decide +kernel
theorem dX9_isPlain_39 : decode cX9_isPlain 39 = .ok (.iinc 4 1, 3) := by decide +kernel
theorem dX9_isPlain_42 : decode cX9_isPlain 42 = .ok (.goto (-39), 3) := by decide +kernel
theorem dX9_isPlain_45 : decode cX9_isPlain 45 = .ok (.iconst 1, 1) := by decide +kernel
theorem dX9_isPlain_46 : decode cX9_isPlain 46 = .ok (.ireturn, 1) := by decide +kernel
theorem dX9_read_0 : decode cX9_read 0 = .ok (.aload_n 0, 1) := by decide +kernel
theorem dX9_read_1 : decode cX9_read 1 = .ok (.iload_n 1, 1) := by decide +kernel
theorem dX9_read_2 : decode cX9_read 2 = .ok (.invokevirtual 150, 3) := by decide +kernel
theorem dX9_read_5 : decode cX9_read 5 = .ok (.istore 5, 2) := by decide +kernel
theorem dX9_read_7 : decode cX9_read 7 = .ok (.iload 5, 2) := by decide +kernel
theorem dX9_read_9 : decode cX9_read 9 = .ok (.bipush (-9), 2) := by decide +kernel
theorem dX9_read_11 : decode cX9_read 11 = .ok (.if_icmp .eq 10, 3) := by decide +kernel
theorem dX9_read_14 : decode cX9_read 14 = .ok (.iload_n 2, 1) := by decide +kernel
theorem dX9_read_15 : decode cX9_read 15 = .ok (.invokestatic 153, 3) := by decide +kernel
theorem dX9_read_18 : decode cX9_read 18 = .ok (.ifCond .ne 5, 3) := by decide +kernel
theorem dX9_read_21 : decode cX9_read 21 = .ok (.iconst (-1), 1) := by decide +kernel
theorem dX9_read_22 : decode cX9_read 22 = .ok (.ireturn, 1) := by decide +kernel
theorem dX9_read_23 : decode cX9_read 23 = .ok (.iload_n 3, 1) := by decide +kernel
theorem dX9_read_24 : decode cX9_read 24 = .ok (.iconst 0, 1) := by decide +kernel
theorem dX9_read_25 : decode cX9_read 25 = .ok (.aload_n 0, 1) := by decide +kernel
theorem dX9_read_26 : decode cX9_read 26 = .ok (.getfield 38, 3) := by decide +kernel
theorem dX9_read_29 : decode cX9_read 29 = .ok (.iload 5, 2) := by decide +kernel
theorem dX9_read_31 : decode cX9_read 31 = .ok (.iaload, 1) := by decide +kernel
theorem dX9_read_32 : decode cX9_read 32 = .ok (.iconst 1, 1) := by decide +kernel
theorem dX9_read_33 : decode cX9_read 33 = .ok (.isub, 1) := by decide +kernel
theorem dX9_read_34 : decode cX9_read 34 = .ok (.invokestatic 68, 3) := by decide +kernel
theorem dX9_read_37 : decode cX9_read 37 = .ok (.ifCond .eq 13, 3) := by decide +kernel
theorem dX9_read_40 : decode cX9_read 40 = .ok (.iload 4, 2) := by decide +kernel
theorem dX9_read_42 : decode cX9_read 42 = .ok (.iconst 0, 1) := by decide +kernel
theorem dX9_read_43 : decode cX9_read 43 = .ok (.iconst 2, 1) := by decide +kernel
theorem dX9_read_44 : decode cX9_read 44 = .ok (.invokestatic 68, 3) := by decide +kernel
theorem dX9_read_47 : decode cX9_read 47 = .ok (.ifCond .ne 6, 3) := by decide +kernel
theorem dX9_read_50 : decode cX9_read 50 = .ok (.bipush (-2), 2) := by decide +kernel
theorem dX9_read_52 : decode cX9_read 52 = .ok (.ireturn, 1) := by decide +kernel
theorem dX9_read_53 : decode cX9_read 53 = .ok (.iconst 0, 1) := by decide +kernel
theorem dX9_read_54 : decode cX9_read 54 = .ok (.istore 6, 2) := by decide +kernel
theorem dX9_read_56 : decode cX9_read 56 = .ok (.iload 6, 2) := by decide +kernel
theorem dX9_read_58 : decode cX9_read 58 = .ok (.aload_n 0, 1) := by decide +kernel
theorem dX9_read_59 : decode cX9_read 59 = .ok (.iload 5, 2) := by decide +kernel
theorem dX9_read_61 : decode cX9_read 61 = .ok (.iload_n 2, 1) := by decide +kernel
theorem dX9_read_62 : decode cX9_read 62 = .ok (.invokevirtual 156, 3) := by decide +kernel
theorem dX9_read_65 : decode cX9_read 65 = .ok (.if_icmp .ge 52, 3) := by decide +kernel
theorem dX9_read_68 : decode cX9_read 68 = .ok (.aload_n 0, 1) := by decide +kernel
theorem dX9_read_69 : decode cX9_read 69 = .ok (.iload 5, 2) := by decide +kernel
theorem dX9_read_71 : decode cX9_read 71 = .ok (.iload 5, 2) := by decide +kernel
theorem dX9_read_73 : decode cX9_read 73 = .ok (.iload_n 2, 1) := by decide +kernel
theorem dX9_read_74 : decode cX9_read 74 = .ok (.iload 6, 2) := by decide +kernel
theorem dX9_read_76 : decode cX9_read 76 = .ok (.invokestatic 146, 3) := by decide +kernel
theorem dX9_read_79 : decode cX9_read 79 = .ok (.iload_n 3, 1) := by decide +kernel
theorem dX9_read_80 : decode cX9_read 80 = .ok (.invokevirtual 159, 3) := by decide +kernel
theorem dX9_read_83 : decode cX9_read 83 = .ok (.ifCond .eq 28, 3) := by decide +kernel
theorem dX9_read_86 : decode cX9_read 86 = .ok (.aload_n 0, 1) := by decide +kernel
theorem dX9_read_87 : decode cX9_read 87 = .ok (.getfield 44, 3) := by decide +kernel
theorem dX9_read_90 : decode cX9_read 90 = .ok (.iload 5, 2) := by decide +kernel
theorem dX9_read_92 : decode cX9_read 92 = .ok (.iload_n 2, 1) := by decide +kernel
theorem dX9_read_93 : decode cX9_read 93 = .ok (.iload 6, 2) := by decide +kernel
theorem dX9_read_95 : decode cX9_read 95 = .ok (.invokestatic 146, 3) := by decide +kernel
theorem dX9_read_98 : decode cX9_read 98 = .ok (.aload_n 0, 1) := by decide +kernel
theorem dX9_read_99 : decode cX9_read 99 = .ok (.getfield 38, 3) := by decide +kernel
theorem dX9_read_102 : decode cX9_read 102 = .ok (.iload 5, 2) := by decide +kernel
theorem dX9_read_104 : decode cX9_read 104 = .ok (.iaload, 1) := by decide +kernel
theorem dX9_read_105 : decode cX9_read 105 = .ok (.iadd, 1) := by decide +kernel
theorem dX9_read_106 : decode cX9_read 106 = .ok (.iload 4, 2) := by decide +kernel
theorem dX9_read_108 : decode cX9_read 108 = .ok (.iadd, 1) := by decide +kernel
theorem dX9_read_109 : decode cX9_read 109 = .ok (.iaload, 1) := by decide +kernel
theorem dX9_read_110 : decode cX9_read 110 = .ok (.ireturn, 1) := by decide +kernel
theorem dX9_read_111 : decode cX9_read 111 = .ok (.iinc 6 1, 3) := by decide +kernel
theorem dX9_read_114 : decode cX9_read 114 = .ok (.goto (-58), 3) := by decide +kernel
theorem dX9_read_117 : decode cX9_read 117 = .ok (.bipush (-9), 2) := by decide +kernel
theorem dX9_read_119 : decode cX9_read 119 = .ok (.ireturn, 1) := by decide +kernel
theorem dX9_mixes_0 : decode cX9_mixes 0 = .ok (.iconst 0, 1) := by decide +kernel
theorem dX9_mixes_1 : decode cX9_mixes 1 = .ok (.istore 4, 2) := by decide +kernel
theorem dX9_mixes_3 : decode cX9_mixes 3 = .ok (.iload 4, 2) := by decide +kernel
theorem dX9_mixes_5 : decode cX9_mixes 5 = .ok (.bipush 8, 2) := by decide +kernel
theorem dX9_mixes_7 : decode cX9_mixes 7 = .ok (.if_icmp .ge 17, 3) := by decide +kernel
theorem dX9_mixes_10 : decode cX9_mixes 10 = .ok (.aload_n 0, 1) := by decide +kernel
theorem dX9_mixes_11 : decode cX9_mixes 11 = .ok (.getfield 59, 3) := by decide +kernel
theorem dX9_mixes_14 : decode cX9_mixes 14 = .ok (.iload 4, 2) := by decide +kernel
theorem dX9_mixes_16 : decode cX9_mixes 16 = .ok (.iconst 0, 1) := by decide +kernel
theorem dX9_mixes_17 : decode cX9_mixes 17 = .ok (.iastore, 1) := by decide +kernel
theorem dX9_mixes_18 : decode cX9_mixes 18 = .ok (.iinc 4 1, 3) := by decide +kernel
theorem dX9_mixes_21 : decode cX9_mixes 21 = .ok (.goto (-18), 3) := by decide +kernel
theorem dX9_mixes_24 : decode cX9_mixes 24 = .ok (.iload_n 3, 1) := by decide +kernel
theorem dX9_mixes_25 : decode cX9_mixes 25 = .ok (.istore 4, 2) := by decide +kernel
theorem dX9_mixes_27 : decode cX9_mixes 27 = .ok (.iconst 0, 1) := by decide +kernel
theorem dX9_mixes_28 : decode cX9_mixes 28 = .ok (.istore 5, 2) := by decide +kernel
theorem dX9_mixes_30 : decode cX9_mixes 30 = .ok (.iload 5, 2) := by decide +kernel
theorem dX9_mixes_32 : decode cX9_mixes 32 = .ok (.aload_n 0, 1) := by decide +kernel
theorem dX9_mixes_33 : decode cX9_mixes 33 = .ok (.iload_n 1, 1) := by decide +kernel
theorem dX9_mixes_34 : decode cX9_mixes 34 = .ok (.iload_n 2, 1) := by decide +kernel
theorem dX9_mixes_35 : decode cX9_mixes 35 = .ok (.invokevirtual 156, 3) := by decide +kernel
theorem dX9_mixes_38 : decode cX9_mixes 38 = .ok (.if_icmp .ge 87, 3) := by decide +kernel
theorem dX9_mixes_41 : decode cX9_mixes 41 = .ok (.iload 4, 2) := by decide +kernel
theorem dX9_mixes_43 : decode cX9_mixes 43 = .ok (.aload_n 0, 1) := by decide +kernel
theorem dX9_mixes_44 : decode cX9_mixes 44 = .ok (.getfield 32, 3) := by decide +kernel
theorem dX9_mixes_47 : decode cX9_mixes 47 = .ok (.irem, 1) := by decide +kernel
theorem dX9_mixes_48 : decode cX9_mixes 48 = .ok (.istore 6, 2) := by decide +kernel
theorem dX9_mixes_50 : decode cX9_mixes 50 = .ok (.iload 4, 2) := by decide +kernel
theorem dX9_mixes_52 : decode cX9_mixes 52 = .ok (.aload_n 0, 1) := by decide +kernel
theorem dX9_mixes_53 : decode cX9_mixes 53 = .ok (.getfield 32, 3) := by decide +kernel
theorem dX9_mixes_56 : decode cX9_mixes 56 = .ok (.idiv, 1) := by decide +kernel
theorem dX9_mixes_57 : decode cX9_mixes 57 = .ok (.istore 4, 2) := by decide +kernel
theorem dX9_mixes_59 : decode cX9_mixes 59 = .ok (.iconst 0, 1) := by decide +kernel
theorem dX9_mixes_60 : decode cX9_mixes 60 = .ok (.istore 7, 2) := by decide +kernel
theorem dX9_mixes_62 : decode cX9_mixes 62 = .ok (.iload 7, 2) := by decide +kernel
theorem dX9_mixes_64 : decode cX9_mixes 64 = .ok (.aload_n 0, 1) := by decide +kernel
theorem dX9_mixes_65 : decode cX9_mixes 65 = .ok (.getfield 38, 3) := by decide +kernel
theorem dX9_mixes_68 : decode cX9_mixes 68 = .ok (.iload_n 1, 1) := by decide +kernel
theorem dX9_mixes_69 : decode cX9_mixes 69 = .ok (.iaload, 1) := by decide +kernel
theorem dX9_mixes_70 : decode cX9_mixes 70 = .ok (.iconst 3, 1) := by decide +kernel
theorem dX9_mixes_71 : decode cX9_mixes 71 = .ok (.iadd, 1) := by decide +kernel
theorem dX9_mixes_72 : decode cX9_mixes 72 = .ok (.if_icmp .ge 47, 3) := by decide +kernel
theorem dX9_mixes_75 : decode cX9_mixes 75 = .ok (.aload_n 0, 1) := by decide +kernel
theorem dX9_mixes_76 : decode cX9_mixes 76 = .ok (.getfield 59, 3) := by decide +kernel
theorem dX9_mixes_79 : decode cX9_mixes 79 = .ok (.iload 7, 2) := by decide +kernel
theorem dX9_mixes_81 : decode cX9_mixes 81 = .ok (.aload_n 0, 1) := by decide +kernel
theorem dX9_mixes_82 : decode cX9_mixes 82 = .ok (.getfield 59, 3) := by decide +kernel
theorem dX9_mixes_85 : decode cX9_mixes 85 = .ok (.iload 7, 2) := by decide +kernel
theorem dX9_mixes_87 : decode cX9_mixes 87 = .ok (.iaload, 1) := by decide +kernel
theorem dX9_mixes_88 : decode cX9_mixes 88 = .ok (.iload 6, 2) := by decide +kernel
theorem dX9_mixes_90 : decode cX9_mixes 90 = .ok (.aload_n 0, 1) := by decide +kernel
theorem dX9_mixes_91 : decode cX9_mixes 91 = .ok (.getfield 44, 3) := by decide +kernel
theorem dX9_mixes_94 : decode cX9_mixes 94 = .ok (.iload_n 1, 1) := by decide +kernel
theorem dX9_mixes_95 : decode cX9_mixes 95 = .ok (.iload_n 2, 1) := by decide +kernel
theorem dX9_mixes_96 : decode cX9_mixes 96 = .ok (.iload 5, 2) := by decide +kernel
theorem dX9_mixes_98 : decode cX9_mixes 98 = .ok (.invokestatic 146, 3) := by decide +kernel
theorem dX9_mixes_101 : decode cX9_mixes 101 = .ok (.iload 7, 2) := by decide +kernel
theorem dX9_mixes_103 : decode cX9_mixes 103 = .ok (.iadd, 1) := by decide +kernel
theorem dX9_mixes_104 : decode cX9_mixes 104 = .ok (.iaload, 1) := by decide +kernel
theorem dX9_mixes_105 : decode cX9_mixes 105 = .ok (.imul, 1) := by decide +kernel
theorem dX9_mixes_106 : decode cX9_mixes 106 = .ok (.iadd, 1) := by decide +kernel
theorem dX9_mixes_107 : decode cX9_mixes 107 = .ok (.aload_n 0, 1) := by decide +kernel
theorem dX9_mixes_108 : decode cX9_mixes 108 = .ok (.getfield 32, 3) := by decide +kernel
theorem dX9_mixes_111 : decode cX9_mixes 111 = .ok (.irem, 1) := by decide +kernel
theorem dX9_mixes_112 : decode cX9_mixes 112 = .ok (.iastore, 1) := by decide +kernel
theorem dX9_mixes_113 : decode cX9_mixes 113 = .ok (.iinc 7 1, 3) := by decide +kernel
theorem dX9_mixes_116 : decode cX9_mixes 116 = .ok (.goto (-54), 3) := by decide +kernel
theorem dX9_mixes_119 : decode cX9_mixes 119 = .ok (.iinc 5 1, 3) := by decide +kernel
theorem dX9_mixes_122 : decode cX9_mixes 122 = .ok (.goto (-92), 3) := by decide +kernel
theorem dX9_mixes_125 : decode cX9_mixes 125 = .ok (.return_, 1) := by decide +kernel
theorem dX9_isNewTo_0 : decode cX9_isNewTo 0 = .ok (.aload_n 0, 1) := by decide +kernel
theorem dX9_isNewTo_1 : decode cX9_isNewTo 1 = .ok (.getfield 38, 3) := by decide +kernel
theorem dX9_isNewTo_4 : decode cX9_isNewTo 4 = .ok (.iload_n 1, 1) := by decide +kernel
theorem dX9_isNewTo_5 : decode cX9_isNewTo 5 = .ok (.iaload, 1) := by decide +kernel
theorem dX9_isNewTo_6 : decode cX9_isNewTo 6 = .ok (.istore_n 3, 1) := by decide +kernel
theorem dX9_isNewTo_7 : decode cX9_isNewTo 7 = .ok (.iconst 0, 1) := by decide +kernel
theorem dX9_isNewTo_8 : decode cX9_isNewTo 8 = .ok (.istore 4, 2) := by decide +kernel
theorem dX9_isNewTo_10 : decode cX9_isNewTo 10 = .ok (.iload 4, 2) := by decide +kernel
theorem dX9_isNewTo_12 : decode cX9_isNewTo 12 = .ok (.bipush 8, 2) := by decide +kernel
theorem dX9_isNewTo_14 : decode cX9_isNewTo 14 = .ok (.if_icmp .ge 23, 3) := by decide +kernel
theorem dX9_isNewTo_17 : decode cX9_isNewTo 17 = .ok (.aload_n 0, 1) := by decide +kernel
theorem dX9_isNewTo_18 : decode cX9_isNewTo 18 = .ok (.getfield 62, 3) := by decide +kernel
theorem dX9_isNewTo_21 : decode cX9_isNewTo 21 = .ok (.iload 4, 2) := by decide +kernel
theorem dX9_isNewTo_23 : decode cX9_isNewTo 23 = .ok (.aload_n 0, 1) := by decide +kernel
theorem dX9_isNewTo_24 : decode cX9_isNewTo 24 = .ok (.getfield 59, 3) := by decide +kernel
theorem dX9_isNewTo_27 : decode cX9_isNewTo 27 = .ok (.iload 4, 2) := by decide +kernel
theorem dX9_isNewTo_29 : decode cX9_isNewTo 29 = .ok (.iaload, 1) := by decide +kernel
theorem dX9_isNewTo_30 : decode cX9_isNewTo 30 = .ok (.iastore, 1) := by decide +kernel
theorem dX9_isNewTo_31 : decode cX9_isNewTo 31 = .ok (.iinc 4 1, 3) := by decide +kernel
theorem dX9_isNewTo_34 : decode cX9_isNewTo 34 = .ok (.goto (-24), 3) := by decide +kernel
theorem dX9_isNewTo_37 : decode cX9_isNewTo 37 = .ok (.iconst 0, 1) := by decide +kernel
theorem dX9_isNewTo_38 : decode cX9_isNewTo 38 = .ok (.istore 4, 2) := by decide +kernel
theorem dX9_isNewTo_40 : decode cX9_isNewTo 40 = .ok (.iload 4, 2) := by decide +kernel
theorem dX9_isNewTo_42 : decode cX9_isNewTo 42 = .ok (.aload_n 0, 1) := by decide +kernel
theorem dX9_isNewTo_43 : decode cX9_isNewTo 43 = .ok (.iload_n 1, 1) := by decide +kernel
theorem dX9_isNewTo_44 : decode cX9_isNewTo 44 = .ok (.iload_n 2, 1) := by decide +kernel
theorem dX9_isNewTo_45 : decode cX9_isNewTo 45 = .ok (.invokevirtual 156, 3) := by decide +kernel
theorem dX9_isNewTo_48 : decode cX9_isNewTo 48 = .ok (.if_icmp .ge 91, 3) := by decide +kernel
theorem dX9_isNewTo_51 : decode cX9_isNewTo 51 = .ok (.iload_n 1, 1) := by decide +kernel
theorem dX9_isNewTo_52 : decode cX9_isNewTo 52 = .ok (.iload_n 2, 1) := by decide +kernel
theorem dX9_isNewTo_53 : decode cX9_isNewTo 53 = .ok (.iload 4, 2) := by decide +kernel
theorem dX9_isNewTo_55 : decode cX9_isNewTo 55 = .ok (.invokestatic 146, 3) := by decide +kernel
theorem dX9_isNewTo_58 : decode cX9_isNewTo 58 = .ok (.istore 5, 2) := by decide +kernel
theorem dX9_isNewTo_60 : decode cX9_isNewTo 60 = .ok (.aload_n 0, 1) := by decide +kernel
theorem dX9_isNewTo_61 : decode cX9_isNewTo 61 = .ok (.getfield 62, 3) := by decide +kernel
theorem dX9_isNewTo_64 : decode cX9_isNewTo 64 = .ok (.aload_n 0, 1) := by decide +kernel
theorem dX9_isNewTo_65 : decode cX9_isNewTo 65 = .ok (.aload_n 0, 1) := by decide +kernel
theorem dX9_isNewTo_66 : decode cX9_isNewTo 66 = .ok (.getfield 44, 3) := by decide +kernel
theorem dX9_isNewTo_69 : decode cX9_isNewTo 69 = .ok (.iload 5, 2) := by decide +kernel
theorem dX9_isNewTo_71 : decode cX9_isNewTo 71 = .ok (.iload_n 3, 1) := by decide +kernel
theorem dX9_isNewTo_72 : decode cX9_isNewTo 72 = .ok (.invokevirtual 162, 3) := by decide +kernel
theorem dX9_isNewTo_75 : decode cX9_isNewTo 75 = .ok (.iaload, 1) := by decide +kernel
theorem dX9_isNewTo_76 : decode cX9_isNewTo 76 = .ok (.istore 6, 2) := by decide +kernel
theorem dX9_isNewTo_78 : decode cX9_isNewTo 78 = .ok (.iconst 0, 1) := by decide +kernel
theorem dX9_isNewTo_79 : decode cX9_isNewTo 79 = .ok (.istore 7, 2) := by decide +kernel
theorem dX9_isNewTo_81 : decode cX9_isNewTo 81 = .ok (.iload 7, 2) := by decide +kernel
theorem dX9_isNewTo_83 : decode cX9_isNewTo 83 = .ok (.iload_n 3, 1) := by decide +kernel
theorem dX9_isNewTo_84 : decode cX9_isNewTo 84 = .ok (.iconst 3, 1) := by decide +kernel
theorem dX9_isNewTo_85 : decode cX9_isNewTo 85 = .ok (.iadd, 1) := by decide +kernel
theorem dX9_isNewTo_86 : decode cX9_isNewTo 86 = .ok (.if_icmp .ge 47, 3) := by decide +kernel
theorem dX9_isNewTo_89 : decode cX9_isNewTo 89 = .ok (.aload_n 0, 1) := by decide +kernel
theorem dX9_isNewTo_90 : decode cX9_isNewTo 90 = .ok (.getfield 62, 3) := by decide +kernel
theorem dX9_isNewTo_93 : decode cX9_isNewTo 93 = .ok (.iload 7, 2) := by decide +kernel
theorem dX9_isNewTo_95 : decode cX9_isNewTo 95 = .ok (.aload_n 0, 1) := by decide +kernel
theorem dX9_isNewTo_96 : decode cX9_isNewTo 96 = .ok (.getfield 62, 3) := by decide +kernel
theorem dX9_isNewTo_99 : decode cX9_isNewTo 99 = .ok (.iload 7, 2) := by decide +kernel
theorem dX9_isNewTo_101 : decode cX9_isNewTo 101 = .ok (.iaload, 1) := by decide +kernel
theorem dX9_isNewTo_102 : decode cX9_isNewTo 102 = .ok (.aload_n 0, 1) := by decide +kernel
theorem dX9_isNewTo_103 : decode cX9_isNewTo 103 = .ok (.getfield 32, 3) := by decide +kernel
theorem dX9_isNewTo_106 : decode cX9_isNewTo 106 = .ok (.iload 6, 2) := by decide +kernel
theorem dX9_isNewTo_108 : decode cX9_isNewTo 108 = .ok (.isub, 1) := by decide +kernel
theorem dX9_isNewTo_109 : decode cX9_isNewTo 109 = .ok (.aload_n 0, 1) := by decide +kernel
theorem dX9_isNewTo_110 : decode cX9_isNewTo 110 = .ok (.getfield 44, 3) := by decide +kernel
theorem dX9_isNewTo_113 : decode cX9_isNewTo 113 = .ok (.iload 5, 2) := by decide +kernel
theorem dX9_isNewTo_115 : decode cX9_isNewTo 115 = .ok (.iload 7, 2) := by decide +kernel
theorem dX9_isNewTo_117 : decode cX9_isNewTo 117 = .ok (.iadd, 1) := by decide +kernel
theorem dX9_isNewTo_118 : decode cX9_isNewTo 118 = .ok (.iaload, 1) := by decide +kernel
theorem dX9_isNewTo_119 : decode cX9_isNewTo 119 = .ok (.imul, 1) := by decide +kernel
theorem dX9_isNewTo_120 : decode cX9_isNewTo 120 = .ok (.iadd, 1) := by decide +kernel
theorem dX9_isNewTo_121 : decode cX9_isNewTo 121 = .ok (.aload_n 0, 1) := by decide +kernel
theorem dX9_isNewTo_122 : decode cX9_isNewTo 122 = .ok (.getfield 32, 3) := by decide +kernel
theorem dX9_isNewTo_125 : decode cX9_isNewTo 125 = .ok (.irem, 1) := by decide +kernel
theorem dX9_isNewTo_126 : decode cX9_isNewTo 126 = .ok (.iastore, 1) := by decide +kernel
theorem dX9_isNewTo_127 : decode cX9_isNewTo 127 = .ok (.iinc 7 1, 3) := by decide +kernel
theorem dX9_isNewTo_130 : decode cX9_isNewTo 130 = .ok (.goto (-49), 3) := by decide +kernel
theorem dX9_isNewTo_133 : decode cX9_isNewTo 133 = .ok (.iinc 4 1, 3) := by decide +kernel
theorem dX9_isNewTo_136 : decode cX9_isNewTo 136 = .ok (.goto (-96), 3) := by decide +kernel
theorem dX9_isNewTo_139 : decode cX9_isNewTo 139 = .ok (.aload_n 0, 1) := by decide +kernel
theorem dX9_isNewTo_140 : decode cX9_isNewTo 140 = .ok (.aload_n 0, 1) := by decide +kernel
theorem dX9_isNewTo_141 : decode cX9_isNewTo 141 = .ok (.getfield 62, 3) := by decide +kernel
theorem dX9_isNewTo_144 : decode cX9_isNewTo 144 = .ok (.iconst 0, 1) := by decide +kernel
theorem dX9_isNewTo_145 : decode cX9_isNewTo 145 = .ok (.iload_n 3, 1) := by decide +kernel
theorem dX9_isNewTo_146 : decode cX9_isNewTo 146 = .ok (.invokevirtual 162, 3) := by decide +kernel
theorem dX9_isNewTo_149 : decode cX9_isNewTo 149 = .ok (.iload_n 3, 1) := by decide +kernel
theorem dX9_isNewTo_150 : decode cX9_isNewTo 150 = .ok (.if_icmp .ge 7, 3) := by decide +kernel
theorem dX9_isNewTo_153 : decode cX9_isNewTo 153 = .ok (.iconst 1, 1) := by decide +kernel
theorem dX9_isNewTo_154 : decode cX9_isNewTo 154 = .ok (.goto 4, 3) := by decide +kernel
theorem dX9_isNewTo_157 : decode cX9_isNewTo 157 = .ok (.iconst 0, 1) := by decide +kernel
theorem dX9_isNewTo_158 : decode cX9_isNewTo 158 = .ok (.ireturn, 1) := by decide +kernel
theorem dX9_inverse_0 : decode cX9_inverse 0 = .ok (.iconst 1, 1) := by decide +kernel
theorem dX9_inverse_1 : decode cX9_inverse 1 = .ok (.istore_n 2, 1) := by decide +kernel
theorem dX9_inverse_2 : decode cX9_inverse 2 = .ok (.iload_n 2, 1) := by decide +kernel
theorem dX9_inverse_3 : decode cX9_inverse 3 = .ok (.iload_n 1, 1) := by decide +kernel
theorem dX9_inverse_4 : decode cX9_inverse 4 = .ok (.imul, 1) := by decide +kernel
theorem dX9_inverse_5 : decode cX9_inverse 5 = .ok (.aload_n 0, 1) := by decide +kernel
theorem dX9_inverse_6 : decode cX9_inverse 6 = .ok (.getfield 32, 3) := by decide +kernel
theorem dX9_inverse_9 : decode cX9_inverse 9 = .ok (.irem, 1) := by decide +kernel
theorem dX9_inverse_10 : decode cX9_inverse 10 = .ok (.iconst 1, 1) := by decide +kernel
theorem dX9_inverse_11 : decode cX9_inverse 11 = .ok (.if_icmp .eq 9, 3) := by decide +kernel
theorem dX9_inverse_14 : decode cX9_inverse 14 = .ok (.iinc 2 1, 3) := by decide +kernel
theorem dX9_inverse_17 : decode cX9_inverse 17 = .ok (.goto (-15), 3) := by decide +kernel
theorem dX9_inverse_20 : decode cX9_inverse 20 = .ok (.iload_n 2, 1) := by decide +kernel
theorem dX9_inverse_21 : decode cX9_inverse 21 = .ok (.ireturn, 1) := by decide +kernel
theorem dX9_comes_0 : decode cX9_comes 0 = .ok (.aload_n 0, 1) := by decide +kernel
theorem dX9_comes_1 : decode cX9_comes 1 = .ok (.iload_n 1, 1) := by decide +kernel
theorem dX9_comes_2 : decode cX9_comes 2 = .ok (.iload_n 2, 1) := by decide +kernel
theorem dX9_comes_3 : decode cX9_comes 3 = .ok (.invokevirtual 166, 3) := by decide +kernel
theorem dX9_comes_6 : decode cX9_comes 6 = .ok (.ifCond .ne 5, 3) := by decide +kernel
theorem dX9_comes_9 : decode cX9_comes 9 = .ok (.iconst 0, 1) := by decide +kernel
theorem dX9_comes_10 : decode cX9_comes 10 = .ok (.ireturn, 1) := by decide +kernel
theorem dX9_comes_11 : decode cX9_comes 11 = .ok (.aload_n 0, 1) := by decide +kernel
theorem dX9_comes_12 : decode cX9_comes 12 = .ok (.getfield 38, 3) := by decide +kernel
theorem dX9_comes_15 : decode cX9_comes 15 = .ok (.iload_n 1, 1) := by decide +kernel
theorem dX9_comes_16 : decode cX9_comes 16 = .ok (.iaload, 1) := by decide +kernel
theorem dX9_comes_17 : decode cX9_comes 17 = .ok (.istore_n 3, 1) := by decide +kernel
theorem dX9_comes_18 : decode cX9_comes 18 = .ok (.aload_n 0, 1) := by decide +kernel
theorem dX9_comes_19 : decode cX9_comes 19 = .ok (.aload_n 0, 1) := by decide +kernel
end
section
theorem dX9_comes_20 : decode cX9_comes 20 = .ok (.getfield 62, 3) := by decide +kernel
theorem dX9_comes_23 : decode cX9_comes 23 = .ok (.iconst 0, 1) := by decide +kernel
theorem dX9_comes_24 : decode cX9_comes 24 = .ok (.iload_n 3, 1) := by decide +kernel
theorem dX9_comes_25 : decode cX9_comes 25 = .ok (.invokevirtual 162, 3) := by decide +kernel
theorem dX9_comes_28 : decode cX9_comes 28 = .ok (.istore 4, 2) := by decide +kernel
theorem dX9_comes_30 : decode cX9_comes 30 = .ok (.aload_n 0, 1) := by decide +kernel
theorem dX9_comes_31 : decode cX9_comes 31 = .ok (.aload_n 0, 1) := by decide +kernel
theorem dX9_comes_32 : decode cX9_comes 32 = .ok (.getfield 62, 3) := by decide +kernel
theorem dX9_comes_35 : decode cX9_comes 35 = .ok (.iload 4, 2) := by decide +kernel
theorem dX9_comes_37 : decode cX9_comes 37 = .ok (.iaload, 1) := by decide +kernel
theorem dX9_comes_38 : decode cX9_comes 38 = .ok (.invokevirtual 169, 3) := by decide +kernel
theorem dX9_comes_41 : decode cX9_comes 41 = .ok (.istore 5, 2) := by decide +kernel
theorem dX9_comes_43 : decode cX9_comes 43 = .ok (.iconst 0, 1) := by decide +kernel
theorem dX9_comes_44 : decode cX9_comes 44 = .ok (.istore 6, 2) := by decide +kernel
theorem dX9_comes_46 : decode cX9_comes 46 = .ok (.iload 6, 2) := by decide +kernel
theorem dX9_comes_48 : decode cX9_comes 48 = .ok (.iload_n 3, 1) := by decide +kernel
theorem dX9_comes_49 : decode cX9_comes 49 = .ok (.iconst 3, 1) := by decide +kernel
theorem dX9_comes_50 : decode cX9_comes 50 = .ok (.iadd, 1) := by decide +kernel
theorem dX9_comes_51 : decode cX9_comes 51 = .ok (.if_icmp .ge 31, 3) := by decide +kernel
theorem dX9_comes_54 : decode cX9_comes 54 = .ok (.aload_n 0, 1) := by decide +kernel
theorem dX9_comes_55 : decode cX9_comes 55 = .ok (.getfield 62, 3) := by decide +kernel
theorem dX9_comes_58 : decode cX9_comes 58 = .ok (.iload 6, 2) := by decide +kernel
theorem dX9_comes_60 : decode cX9_comes 60 = .ok (.aload_n 0, 1) := by decide +kernel
theorem dX9_comes_61 : decode cX9_comes 61 = .ok (.getfield 62, 3) := by decide +kernel
theorem dX9_comes_64 : decode cX9_comes 64 = .ok (.iload 6, 2) := by decide +kernel
theorem dX9_comes_66 : decode cX9_comes 66 = .ok (.iaload, 1) := by decide +kernel
theorem dX9_comes_67 : decode cX9_comes 67 = .ok (.iload 5, 2) := by decide +kernel
theorem dX9_comes_69 : decode cX9_comes 69 = .ok (.imul, 1) := by decide +kernel
theorem dX9_comes_70 : decode cX9_comes 70 = .ok (.aload_n 0, 1) := by decide +kernel
theorem dX9_comes_71 : decode cX9_comes 71 = .ok (.getfield 32, 3) := by decide +kernel
theorem dX9_comes_74 : decode cX9_comes 74 = .ok (.irem, 1) := by decide +kernel
theorem dX9_comes_75 : decode cX9_comes 75 = .ok (.iastore, 1) := by decide +kernel
theorem dX9_comes_76 : decode cX9_comes 76 = .ok (.iinc 6 1, 3) := by decide +kernel
theorem dX9_comes_79 : decode cX9_comes 79 = .ok (.goto (-33), 3) := by decide +kernel
theorem dX9_comes_82 : decode cX9_comes 82 = .ok (.iconst 0, 1) := by decide +kernel
theorem dX9_comes_83 : decode cX9_comes 83 = .ok (.istore 6, 2) := by decide +kernel
theorem dX9_comes_85 : decode cX9_comes 85 = .ok (.iconst 0, 1) := by decide +kernel
theorem dX9_comes_86 : decode cX9_comes 86 = .ok (.istore 7, 2) := by decide +kernel
theorem dX9_comes_88 : decode cX9_comes 88 = .ok (.iload 7, 2) := by decide +kernel
theorem dX9_comes_90 : decode cX9_comes 90 = .ok (.aload_n 0, 1) := by decide +kernel
theorem dX9_comes_91 : decode cX9_comes 91 = .ok (.iload_n 1, 1) := by decide +kernel
theorem dX9_comes_92 : decode cX9_comes 92 = .ok (.iload_n 2, 1) := by decide +kernel
theorem dX9_comes_93 : decode cX9_comes 93 = .ok (.invokevirtual 156, 3) := by decide +kernel
theorem dX9_comes_96 : decode cX9_comes 96 = .ok (.if_icmp .ge 114, 3) := by decide +kernel
theorem dX9_comes_99 : decode cX9_comes 99 = .ok (.iload_n 1, 1) := by decide +kernel
theorem dX9_comes_100 : decode cX9_comes 100 = .ok (.iload_n 2, 1) := by decide +kernel
theorem dX9_comes_101 : decode cX9_comes 101 = .ok (.iload 7, 2) := by decide +kernel
theorem dX9_comes_103 : decode cX9_comes 103 = .ok (.invokestatic 146, 3) := by decide +kernel
theorem dX9_comes_106 : decode cX9_comes 106 = .ok (.istore 8, 2) := by decide +kernel
theorem dX9_comes_108 : decode cX9_comes 108 = .ok (.aload_n 0, 1) := by decide +kernel
theorem dX9_comes_109 : decode cX9_comes 109 = .ok (.getfield 44, 3) := by decide +kernel
theorem dX9_comes_112 : decode cX9_comes 112 = .ok (.iload 8, 2) := by decide +kernel
theorem dX9_comes_114 : decode cX9_comes 114 = .ok (.iload 4, 2) := by decide +kernel
theorem dX9_comes_116 : decode cX9_comes 116 = .ok (.iadd, 1) := by decide +kernel
theorem dX9_comes_117 : decode cX9_comes 117 = .ok (.iaload, 1) := by decide +kernel
theorem dX9_comes_118 : decode cX9_comes 118 = .ok (.istore 9, 2) := by decide +kernel
theorem dX9_comes_120 : decode cX9_comes 120 = .ok (.iload 6, 2) := by decide +kernel
theorem dX9_comes_122 : decode cX9_comes 122 = .ok (.aload_n 0, 1) := by decide +kernel
theorem dX9_comes_123 : decode cX9_comes 123 = .ok (.aload_n 0, 1) := by decide +kernel
theorem dX9_comes_124 : decode cX9_comes 124 = .ok (.getfield 44, 3) := by decide +kernel
theorem dX9_comes_127 : decode cX9_comes 127 = .ok (.iload 8, 2) := by decide +kernel
theorem dX9_comes_129 : decode cX9_comes 129 = .ok (.iload_n 3, 1) := by decide +kernel
theorem dX9_comes_130 : decode cX9_comes 130 = .ok (.invokevirtual 162, 3) := by decide +kernel
theorem dX9_comes_133 : decode cX9_comes 133 = .ok (.iload 4, 2) := by decide +kernel
theorem dX9_comes_135 : decode cX9_comes 135 = .ok (.if_icmp .ge 7, 3) := by decide +kernel
theorem dX9_comes_138 : decode cX9_comes 138 = .ok (.iconst 1, 1) := by decide +kernel
theorem dX9_comes_139 : decode cX9_comes 139 = .ok (.goto 4, 3) := by decide +kernel
theorem dX9_comes_142 : decode cX9_comes 142 = .ok (.iconst 0, 1) := by decide +kernel
theorem dX9_comes_143 : decode cX9_comes 143 = .ok (.iadd, 1) := by decide +kernel
theorem dX9_comes_144 : decode cX9_comes 144 = .ok (.istore 6, 2) := by decide +kernel
theorem dX9_comes_146 : decode cX9_comes 146 = .ok (.iconst 0, 1) := by decide +kernel
theorem dX9_comes_147 : decode cX9_comes 147 = .ok (.istore 10, 2) := by decide +kernel
theorem dX9_comes_149 : decode cX9_comes 149 = .ok (.iload 10, 2) := by decide +kernel
theorem dX9_comes_151 : decode cX9_comes 151 = .ok (.iload_n 3, 1) := by decide +kernel
theorem dX9_comes_152 : decode cX9_comes 152 = .ok (.iconst 3, 1) := by decide +kernel
theorem dX9_comes_153 : decode cX9_comes 153 = .ok (.iadd, 1) := by decide +kernel
theorem dX9_comes_154 : decode cX9_comes 154 = .ok (.if_icmp .ge 50, 3) := by decide +kernel
theorem dX9_comes_157 : decode cX9_comes 157 = .ok (.aload_n 0, 1) := by decide +kernel
theorem dX9_comes_158 : decode cX9_comes 158 = .ok (.getfield 44, 3) := by decide +kernel
theorem dX9_comes_161 : decode cX9_comes 161 = .ok (.iload 8, 2) := by decide +kernel
theorem dX9_comes_163 : decode cX9_comes 163 = .ok (.iload 10, 2) := by decide +kernel
theorem dX9_comes_165 : decode cX9_comes 165 = .ok (.iadd, 1) := by decide +kernel
theorem dX9_comes_166 : decode cX9_comes 166 = .ok (.aload_n 0, 1) := by decide +kernel
theorem dX9_comes_167 : decode cX9_comes 167 = .ok (.getfield 44, 3) := by decide +kernel
theorem dX9_comes_170 : decode cX9_comes 170 = .ok (.iload 8, 2) := by decide +kernel
theorem dX9_comes_172 : decode cX9_comes 172 = .ok (.iload 10, 2) := by decide +kernel
theorem dX9_comes_174 : decode cX9_comes 174 = .ok (.iadd, 1) := by decide +kernel
theorem dX9_comes_175 : decode cX9_comes 175 = .ok (.iaload, 1) := by decide +kernel
theorem dX9_comes_176 : decode cX9_comes 176 = .ok (.aload_n 0, 1) := by decide +kernel
theorem dX9_comes_177 : decode cX9_comes 177 = .ok (.getfield 32, 3) := by decide +kernel
theorem dX9_comes_180 : decode cX9_comes 180 = .ok (.iload 9, 2) := by decide +kernel
theorem dX9_comes_182 : decode cX9_comes 182 = .ok (.isub, 1) := by decide +kernel
theorem dX9_comes_183 : decode cX9_comes 183 = .ok (.aload_n 0, 1) := by decide +kernel
theorem dX9_comes_184 : decode cX9_comes 184 = .ok (.getfield 62, 3) := by decide +kernel
theorem dX9_comes_187 : decode cX9_comes 187 = .ok (.iload 10, 2) := by decide +kernel
theorem dX9_comes_189 : decode cX9_comes 189 = .ok (.iaload, 1) := by decide +kernel
theorem dX9_comes_190 : decode cX9_comes 190 = .ok (.imul, 1) := by decide +kernel
theorem dX9_comes_191 : decode cX9_comes 191 = .ok (.iadd, 1) := by decide +kernel
theorem dX9_comes_192 : decode cX9_comes 192 = .ok (.aload_n 0, 1) := by decide +kernel
theorem dX9_comes_193 : decode cX9_comes 193 = .ok (.getfield 32, 3) := by decide +kernel
theorem dX9_comes_196 : decode cX9_comes 196 = .ok (.irem, 1) := by decide +kernel
theorem dX9_comes_197 : decode cX9_comes 197 = .ok (.iastore, 1) := by decide +kernel
theorem dX9_comes_198 : decode cX9_comes 198 = .ok (.iinc 10 1, 3) := by decide +kernel
theorem dX9_comes_201 : decode cX9_comes 201 = .ok (.goto (-52), 3) := by decide +kernel
theorem dX9_comes_204 : decode cX9_comes 204 = .ok (.iinc 7 1, 3) := by decide +kernel
theorem dX9_comes_207 : decode cX9_comes 207 = .ok (.goto (-119), 3) := by decide +kernel
theorem dX9_comes_210 : decode cX9_comes 210 = .ok (.aload_n 0, 1) := by decide +kernel
theorem dX9_comes_211 : decode cX9_comes 211 = .ok (.iload_n 1, 1) := by decide +kernel
theorem dX9_comes_212 : decode cX9_comes 212 = .ok (.iload_n 2, 1) := by decide +kernel
theorem dX9_comes_213 : decode cX9_comes 213 = .ok (.invokevirtual 156, 3) := by decide +kernel
theorem dX9_comes_216 : decode cX9_comes 216 = .ok (.istore 7, 2) := by decide +kernel
theorem dX9_comes_218 : decode cX9_comes 218 = .ok (.iload 7, 2) := by decide +kernel
theorem dX9_comes_220 : decode cX9_comes 220 = .ok (.iload 6, 2) := by decide +kernel
theorem dX9_comes_222 : decode cX9_comes 222 = .ok (.if_icmp .le 57, 3) := by decide +kernel
theorem dX9_comes_225 : decode cX9_comes 225 = .ok (.iconst 0, 1) := by decide +kernel
theorem dX9_comes_226 : decode cX9_comes 226 = .ok (.istore 8, 2) := by decide +kernel
theorem dX9_comes_228 : decode cX9_comes 228 = .ok (.iload 8, 2) := by decide +kernel
theorem dX9_comes_230 : decode cX9_comes 230 = .ok (.bipush 8, 2) := by decide +kernel
theorem dX9_comes_232 : decode cX9_comes 232 = .ok (.if_icmp .ge 41, 3) := by decide +kernel
theorem dX9_comes_235 : decode cX9_comes 235 = .ok (.aload_n 0, 1) := by decide +kernel
theorem dX9_comes_236 : decode cX9_comes 236 = .ok (.getfield 44, 3) := by decide +kernel
theorem dX9_comes_239 : decode cX9_comes 239 = .ok (.iload_n 1, 1) := by decide +kernel
theorem dX9_comes_240 : decode cX9_comes 240 = .ok (.iload_n 2, 1) := by decide +kernel
theorem dX9_comes_241 : decode cX9_comes 241 = .ok (.iload 7, 2) := by decide +kernel
theorem dX9_comes_243 : decode cX9_comes 243 = .ok (.invokestatic 146, 3) := by decide +kernel
theorem dX9_comes_246 : decode cX9_comes 246 = .ok (.iload 8, 2) := by decide +kernel
theorem dX9_comes_248 : decode cX9_comes 248 = .ok (.iadd, 1) := by decide +kernel
theorem dX9_comes_249 : decode cX9_comes 249 = .ok (.aload_n 0, 1) := by decide +kernel
theorem dX9_comes_250 : decode cX9_comes 250 = .ok (.getfield 44, 3) := by decide +kernel
theorem dX9_comes_253 : decode cX9_comes 253 = .ok (.iload_n 1, 1) := by decide +kernel
theorem dX9_comes_254 : decode cX9_comes 254 = .ok (.iload_n 2, 1) := by decide +kernel
theorem dX9_comes_255 : decode cX9_comes 255 = .ok (.iload 7, 2) := by decide +kernel
theorem dX9_comes_257 : decode cX9_comes 257 = .ok (.iconst 1, 1) := by decide +kernel
theorem dX9_comes_258 : decode cX9_comes 258 = .ok (.isub, 1) := by decide +kernel
theorem dX9_comes_259 : decode cX9_comes 259 = .ok (.invokestatic 146, 3) := by decide +kernel
theorem dX9_comes_262 : decode cX9_comes 262 = .ok (.iload 8, 2) := by decide +kernel
theorem dX9_comes_264 : decode cX9_comes 264 = .ok (.iadd, 1) := by decide +kernel
theorem dX9_comes_265 : decode cX9_comes 265 = .ok (.iaload, 1) := by decide +kernel
theorem dX9_comes_266 : decode cX9_comes 266 = .ok (.iastore, 1) := by decide +kernel
theorem dX9_comes_267 : decode cX9_comes 267 = .ok (.iinc 8 1, 3) := by decide +kernel
theorem dX9_comes_270 : decode cX9_comes 270 = .ok (.goto (-42), 3) := by decide +kernel
theorem dX9_comes_273 : decode cX9_comes 273 = .ok (.iinc 7 (-1), 3) := by decide +kernel
theorem dX9_comes_276 : decode cX9_comes 276 = .ok (.goto (-58), 3) := by decide +kernel
theorem dX9_comes_279 : decode cX9_comes 279 = .ok (.iconst 0, 1) := by decide +kernel
theorem dX9_comes_280 : decode cX9_comes 280 = .ok (.istore 7, 2) := by decide +kernel
theorem dX9_comes_282 : decode cX9_comes 282 = .ok (.iload 7, 2) := by decide +kernel
theorem dX9_comes_284 : decode cX9_comes 284 = .ok (.bipush 8, 2) := by decide +kernel
theorem dX9_comes_286 : decode cX9_comes 286 = .ok (.if_icmp .ge 31, 3) := by decide +kernel
theorem dX9_comes_289 : decode cX9_comes 289 = .ok (.aload_n 0, 1) := by decide +kernel
theorem dX9_comes_290 : decode cX9_comes 290 = .ok (.getfield 44, 3) := by decide +kernel
theorem dX9_comes_293 : decode cX9_comes 293 = .ok (.iload_n 1, 1) := by decide +kernel
theorem dX9_comes_294 : decode cX9_comes 294 = .ok (.iload_n 2, 1) := by decide +kernel
theorem dX9_comes_295 : decode cX9_comes 295 = .ok (.iload 6, 2) := by decide +kernel
theorem dX9_comes_297 : decode cX9_comes 297 = .ok (.invokestatic 146, 3) := by decide +kernel
theorem dX9_comes_300 : decode cX9_comes 300 = .ok (.iload 7, 2) := by decide +kernel
theorem dX9_comes_302 : decode cX9_comes 302 = .ok (.iadd, 1) := by decide +kernel
theorem dX9_comes_303 : decode cX9_comes 303 = .ok (.aload_n 0, 1) := by decide +kernel
theorem dX9_comes_304 : decode cX9_comes 304 = .ok (.getfield 62, 3) := by decide +kernel
theorem dX9_comes_307 : decode cX9_comes 307 = .ok (.iload 7, 2) := by decide +kernel
theorem dX9_comes_309 : decode cX9_comes 309 = .ok (.iaload, 1) := by decide +kernel
theorem dX9_comes_310 : decode cX9_comes 310 = .ok (.iastore, 1) := by decide +kernel
theorem dX9_comes_311 : decode cX9_comes 311 = .ok (.iinc 7 1, 3) := by decide +kernel
theorem dX9_comes_314 : decode cX9_comes 314 = .ok (.goto (-32), 3) := by decide +kernel
theorem dX9_comes_317 : decode cX9_comes 317 = .ok (.aload_n 0, 1) := by decide +kernel
theorem dX9_comes_318 : decode cX9_comes 318 = .ok (.getfield 41, 3) := by decide +kernel
theorem dX9_comes_321 : decode cX9_comes 321 = .ok (.iconst 4, 1) := by decide +kernel
theorem dX9_comes_322 : decode cX9_comes 322 = .ok (.iload_n 1, 1) := by decide +kernel
theorem dX9_comes_323 : decode cX9_comes 323 = .ok (.imul, 1) := by decide +kernel
theorem dX9_comes_324 : decode cX9_comes 324 = .ok (.iload_n 2, 1) := by decide +kernel
theorem dX9_comes_325 : decode cX9_comes 325 = .ok (.iadd, 1) := by decide +kernel
theorem dX9_comes_326 : decode cX9_comes 326 = .ok (.dup2, 1) := by decide +kernel
theorem dX9_comes_327 : decode cX9_comes 327 = .ok (.iaload, 1) := by decide +kernel
theorem dX9_comes_328 : decode cX9_comes 328 = .ok (.iconst 1, 1) := by decide +kernel
theorem dX9_comes_329 : decode cX9_comes 329 = .ok (.iadd, 1) := by decide +kernel
theorem dX9_comes_330 : decode cX9_comes 330 = .ok (.iastore, 1) := by decide +kernel
theorem dX9_comes_331 : decode cX9_comes 331 = .ok (.iconst 1, 1) := by decide +kernel
theorem dX9_comes_332 : decode cX9_comes 332 = .ok (.ireturn, 1) := by decide +kernel
theorem dX9_againstNodes_0 : decode cX9_againstNodes 0 = .ok (.aload_n 0, 1) := by decide +kernel
theorem dX9_againstNodes_1 : decode cX9_againstNodes 1 = .ok (.iload_n 1, 1) := by decide +kernel
theorem dX9_againstNodes_2 : decode cX9_againstNodes 2 = .ok (.invokevirtual 150, 3) := by decide +kernel
theorem dX9_againstNodes_5 : decode cX9_againstNodes 5 = .ok (.bipush (-9), 2) := by decide +kernel
theorem dX9_againstNodes_7 : decode cX9_againstNodes 7 = .ok (.if_icmp .eq 17, 3) := by decide +kernel
theorem dX9_againstNodes_10 : decode cX9_againstNodes 10 = .ok (.iload_n 2, 1) := by decide +kernel
theorem dX9_againstNodes_11 : decode cX9_againstNodes 11 = .ok (.invokestatic 153, 3) := by decide +kernel
theorem dX9_againstNodes_14 : decode cX9_againstNodes 14 = .ok (.ifCond .eq 10, 3) := by decide +kernel
theorem dX9_againstNodes_17 : decode cX9_againstNodes 17 = .ok (.iload_n 3, 1) := by decide +kernel
theorem dX9_againstNodes_18 : decode cX9_againstNodes 18 = .ok (.invokestatic 153, 3) := by decide +kernel
theorem dX9_againstNodes_21 : decode cX9_againstNodes 21 = .ok (.ifCond .ne 7, 3) := by decide +kernel
theorem dX9_againstNodes_24 : decode cX9_againstNodes 24 = .ok (.iconst (-1), 1) := by decide +kernel
theorem dX9_againstNodes_25 : decode cX9_againstNodes 25 = .ok (.goto 14, 3) := by decide +kernel
theorem dX9_againstNodes_28 : decode cX9_againstNodes 28 = .ok (.iload_n 2, 1) := by decide +kernel
theorem dX9_againstNodes_29 : decode cX9_againstNodes 29 = .ok (.iload_n 3, 1) := by decide +kernel
theorem dX9_againstNodes_30 : decode cX9_againstNodes 30 = .ok (.if_icmp .ne 8, 3) := by decide +kernel
theorem dX9_againstNodes_33 : decode cX9_againstNodes 33 = .ok (.bipush (-3), 2) := by decide +kernel
theorem dX9_againstNodes_35 : decode cX9_againstNodes 35 = .ok (.goto 4, 3) := by decide +kernel
theorem dX9_againstNodes_38 : decode cX9_againstNodes 38 = .ok (.iconst 0, 1) := by decide +kernel
theorem dX9_againstNodes_39 : decode cX9_againstNodes 39 = .ok (.ireturn, 1) := by decide +kernel
theorem dX9_mix_0 : decode cX9_mix 0 = .ok (.aload_n 0, 1) := by decide +kernel
theorem dX9_mix_1 : decode cX9_mix 1 = .ok (.iload_n 1, 1) := by decide +kernel
theorem dX9_mix_2 : decode cX9_mix 2 = .ok (.iload_n 2, 1) := by decide +kernel
theorem dX9_mix_3 : decode cX9_mix 3 = .ok (.iload_n 3, 1) := by decide +kernel
theorem dX9_mix_4 : decode cX9_mix 4 = .ok (.invokevirtual 172, 3) := by decide +kernel
theorem dX9_mix_7 : decode cX9_mix 7 = .ok (.istore 5, 2) := by decide +kernel
theorem dX9_mix_9 : decode cX9_mix 9 = .ok (.iload 5, 2) := by decide +kernel
theorem dX9_mix_11 : decode cX9_mix 11 = .ok (.iconst (-1), 1) := by decide +kernel
theorem dX9_mix_12 : decode cX9_mix 12 = .ok (.if_icmp .ne 5, 3) := by decide +kernel
theorem dX9_mix_15 : decode cX9_mix 15 = .ok (.iconst (-1), 1) := by decide +kernel
theorem dX9_mix_16 : decode cX9_mix 16 = .ok (.ireturn, 1) := by decide +kernel
theorem dX9_mix_17 : decode cX9_mix 17 = .ok (.iload 4, 2) := by decide +kernel
theorem dX9_mix_19 : decode cX9_mix 19 = .ok (.iconst 0, 1) := by decide +kernel
theorem dX9_mix_20 : decode cX9_mix 20 = .ok (.sipush 16806, 3) := by decide +kernel
theorem dX9_mix_23 : decode cX9_mix 23 = .ok (.invokestatic 68, 3) := by decide +kernel
theorem dX9_mix_26 : decode cX9_mix 26 = .ok (.ifCond .ne 6, 3) := by decide +kernel
theorem dX9_mix_29 : decode cX9_mix 29 = .ok (.bipush (-2), 2) := by decide +kernel
theorem dX9_mix_31 : decode cX9_mix 31 = .ok (.ireturn, 1) := by decide +kernel
theorem dX9_mix_32 : decode cX9_mix 32 = .ok (.iload 5, 2) := by decide +kernel
theorem dX9_mix_34 : decode cX9_mix 34 = .ok (.ifCond .eq 6, 3) := by decide +kernel
theorem dX9_mix_37 : decode cX9_mix 37 = .ok (.iload 5, 2) := by decide +kernel
theorem dX9_mix_39 : decode cX9_mix 39 = .ok (.ireturn, 1) := by decide +kernel
theorem dX9_mix_40 : decode cX9_mix 40 = .ok (.aload_n 0, 1) := by decide +kernel
theorem dX9_mix_41 : decode cX9_mix 41 = .ok (.iload_n 1, 1) := by decide +kernel
theorem dX9_mix_42 : decode cX9_mix 42 = .ok (.invokevirtual 150, 3) := by decide +kernel
theorem dX9_mix_45 : decode cX9_mix 45 = .ok (.istore 6, 2) := by decide +kernel
theorem dX9_mix_47 : decode cX9_mix 47 = .ok (.aload_n 0, 1) := by decide +kernel
theorem dX9_mix_48 : decode cX9_mix 48 = .ok (.iload 6, 2) := by decide +kernel
theorem dX9_mix_50 : decode cX9_mix 50 = .ok (.iload_n 2, 1) := by decide +kernel
theorem dX9_mix_51 : decode cX9_mix 51 = .ok (.iload 4, 2) := by decide +kernel
theorem dX9_mix_53 : decode cX9_mix 53 = .ok (.invokevirtual 175, 3) := by decide +kernel
theorem dX9_mix_56 : decode cX9_mix 56 = .ok (.aload_n 0, 1) := by decide +kernel
theorem dX9_mix_57 : decode cX9_mix 57 = .ok (.iload 6, 2) := by decide +kernel
theorem dX9_mix_59 : decode cX9_mix 59 = .ok (.iload_n 3, 1) := by decide +kernel
theorem dX9_mix_60 : decode cX9_mix 60 = .ok (.invokevirtual 179, 3) := by decide +kernel
theorem dX9_mix_63 : decode cX9_mix 63 = .ok (.ifCond .eq 7, 3) := by decide +kernel
theorem dX9_mix_66 : decode cX9_mix 66 = .ok (.iconst 1, 1) := by decide +kernel
theorem dX9_mix_67 : decode cX9_mix 67 = .ok (.goto 4, 3) := by decide +kernel
theorem dX9_mix_70 : decode cX9_mix 70 = .ok (.iconst 0, 1) := by decide +kernel
theorem dX9_mix_71 : decode cX9_mix 71 = .ok (.ireturn, 1) := by decide +kernel
theorem dX9_draw_0 : decode cX9_draw 0 = .ok (.aload_n 0, 1) := by decide +kernel
theorem dX9_draw_1 : decode cX9_draw 1 = .ok (.iload_n 1, 1) := by decide +kernel
theorem dX9_draw_2 : decode cX9_draw 2 = .ok (.iload_n 2, 1) := by decide +kernel
theorem dX9_draw_3 : decode cX9_draw 3 = .ok (.iload_n 3, 1) := by decide +kernel
theorem dX9_draw_4 : decode cX9_draw 4 = .ok (.invokevirtual 172, 3) := by decide +kernel
theorem dX9_draw_7 : decode cX9_draw 7 = .ok (.istore 4, 2) := by decide +kernel
theorem dX9_draw_9 : decode cX9_draw 9 = .ok (.iload 4, 2) := by decide +kernel
theorem dX9_draw_11 : decode cX9_draw 11 = .ok (.ifCond .eq 6, 3) := by decide +kernel
theorem dX9_draw_14 : decode cX9_draw 14 = .ok (.iload 4, 2) := by decide +kernel
theorem dX9_draw_16 : decode cX9_draw 16 = .ok (.ireturn, 1) := by decide +kernel
theorem dX9_draw_17 : decode cX9_draw 17 = .ok (.aload_n 0, 1) := by decide +kernel
theorem dX9_draw_18 : decode cX9_draw 18 = .ok (.ldc 182, 2) := by decide +kernel
theorem dX9_draw_20 : decode cX9_draw 20 = .ok (.aload_n 0, 1) := by decide +kernel
theorem dX9_draw_21 : decode cX9_draw 21 = .ok (.getfield 47, 3) := by decide +kernel
theorem dX9_draw_24 : decode cX9_draw 24 = .ok (.imul, 1) := by decide +kernel
theorem dX9_draw_25 : decode cX9_draw 25 = .ok (.sipush 12345, 3) := by decide +kernel
theorem dX9_draw_28 : decode cX9_draw 28 = .ok (.iadd, 1) := by decide +kernel
theorem dX9_draw_29 : decode cX9_draw 29 = .ok (.putfield 47, 3) := by decide +kernel
theorem dX9_draw_32 : decode cX9_draw 32 = .ok (.aload_n 0, 1) := by decide +kernel
theorem dX9_draw_33 : decode cX9_draw 33 = .ok (.getfield 47, 3) := by decide +kernel
theorem dX9_draw_36 : decode cX9_draw 36 = .ok (.bipush 16, 2) := by decide +kernel
theorem dX9_draw_38 : decode cX9_draw 38 = .ok (.iushr, 1) := by decide +kernel
theorem dX9_draw_39 : decode cX9_draw 39 = .ok (.sipush 16807, 3) := by decide +kernel
theorem dX9_draw_42 : decode cX9_draw 42 = .ok (.irem, 1) := by decide +kernel
theorem dX9_draw_43 : decode cX9_draw 43 = .ok (.istore 5, 2) := by decide +kernel
theorem dX9_draw_45 : decode cX9_draw 45 = .ok (.aload_n 0, 1) := by decide +kernel
theorem dX9_draw_46 : decode cX9_draw 46 = .ok (.iload_n 1, 1) := by decide +kernel
theorem dX9_draw_47 : decode cX9_draw 47 = .ok (.invokevirtual 150, 3) := by decide +kernel
theorem dX9_draw_50 : decode cX9_draw 50 = .ok (.istore 6, 2) := by decide +kernel
theorem dX9_draw_52 : decode cX9_draw 52 = .ok (.aload_n 0, 1) := by decide +kernel
theorem dX9_draw_53 : decode cX9_draw 53 = .ok (.iload 6, 2) := by decide +kernel
theorem dX9_draw_55 : decode cX9_draw 55 = .ok (.iload_n 2, 1) := by decide +kernel
theorem dX9_draw_56 : decode cX9_draw 56 = .ok (.iload 5, 2) := by decide +kernel
theorem dX9_draw_58 : decode cX9_draw 58 = .ok (.invokevirtual 175, 3) := by decide +kernel
theorem dX9_draw_61 : decode cX9_draw 61 = .ok (.aload_n 0, 1) := by decide +kernel
theorem dX9_draw_62 : decode cX9_draw 62 = .ok (.iload 6, 2) := by decide +kernel
theorem dX9_draw_64 : decode cX9_draw 64 = .ok (.iload_n 3, 1) := by decide +kernel
theorem dX9_draw_65 : decode cX9_draw 65 = .ok (.invokevirtual 179, 3) := by decide +kernel
theorem dX9_draw_68 : decode cX9_draw 68 = .ok (.pop, 1) := by decide +kernel
theorem dX9_draw_69 : decode cX9_draw 69 = .ok (.iload 5, 2) := by decide +kernel
theorem dX9_draw_71 : decode cX9_draw 71 = .ok (.ireturn, 1) := by decide +kernel
theorem dX9_mixesOf_0 : decode cX9_mixesOf 0 = .ok (.iconst 1, 1) := by decide +kernel
theorem dX9_mixesOf_1 : decode cX9_mixesOf 1 = .ok (.istore_n 3, 1) := by decide +kernel
theorem dX9_mixesOf_2 : decode cX9_mixesOf 2 = .ok (.iconst 0, 1) := by decide +kernel
theorem dX9_mixesOf_3 : decode cX9_mixesOf 3 = .ok (.istore 4, 2) := by decide +kernel
theorem dX9_mixesOf_5 : decode cX9_mixesOf 5 = .ok (.iload 4, 2) := by decide +kernel
theorem dX9_mixesOf_7 : decode cX9_mixesOf 7 = .ok (.aload_n 0, 1) := by decide +kernel
theorem dX9_mixesOf_8 : decode cX9_mixesOf 8 = .ok (.iload_n 1, 1) := by decide +kernel
theorem dX9_mixesOf_9 : decode cX9_mixesOf 9 = .ok (.iload_n 2, 1) := by decide +kernel
theorem dX9_mixesOf_10 : decode cX9_mixesOf 10 = .ok (.invokevirtual 156, 3) := by decide +kernel
theorem dX9_mixesOf_13 : decode cX9_mixesOf 13 = .ok (.if_icmp .ge 16, 3) := by decide +kernel
theorem dX9_mixesOf_16 : decode cX9_mixesOf 16 = .ok (.iload_n 3, 1) := by decide +kernel
theorem dX9_mixesOf_17 : decode cX9_mixesOf 17 = .ok (.aload_n 0, 1) := by decide +kernel
theorem dX9_mixesOf_18 : decode cX9_mixesOf 18 = .ok (.getfield 32, 3) := by decide +kernel
theorem dX9_mixesOf_21 : decode cX9_mixesOf 21 = .ok (.imul, 1) := by decide +kernel
theorem dX9_mixesOf_22 : decode cX9_mixesOf 22 = .ok (.istore_n 3, 1) := by decide +kernel
theorem dX9_mixesOf_23 : decode cX9_mixesOf 23 = .ok (.iinc 4 1, 3) := by decide +kernel
theorem dX9_mixesOf_26 : decode cX9_mixesOf 26 = .ok (.goto (-21), 3) := by decide +kernel
theorem dX9_mixesOf_29 : decode cX9_mixesOf 29 = .ok (.iload_n 3, 1) := by decide +kernel
theorem dX9_mixesOf_30 : decode cX9_mixesOf 30 = .ok (.ireturn, 1) := by decide +kernel
theorem dX9_freshOf_0 : decode cX9_freshOf 0 = .ok (.iconst 0, 1) := by decide +kernel
theorem dX9_freshOf_1 : decode cX9_freshOf 1 = .ok (.istore 4, 2) := by decide +kernel
theorem dX9_freshOf_3 : decode cX9_freshOf 3 = .ok (.iload 4, 2) := by decide +kernel
theorem dX9_freshOf_5 : decode cX9_freshOf 5 = .ok (.aload_n 0, 1) := by decide +kernel
theorem dX9_freshOf_6 : decode cX9_freshOf 6 = .ok (.iload_n 1, 1) := by decide +kernel
theorem dX9_freshOf_7 : decode cX9_freshOf 7 = .ok (.iload_n 2, 1) := by decide +kernel
theorem dX9_freshOf_8 : decode cX9_freshOf 8 = .ok (.invokevirtual 183, 3) := by decide +kernel
theorem dX9_freshOf_11 : decode cX9_freshOf 11 = .ok (.if_icmp .ge 29, 3) := by decide +kernel
theorem dX9_freshOf_14 : decode cX9_freshOf 14 = .ok (.aload_n 0, 1) := by decide +kernel
theorem dX9_freshOf_15 : decode cX9_freshOf 15 = .ok (.iload_n 1, 1) := by decide +kernel
theorem dX9_freshOf_16 : decode cX9_freshOf 16 = .ok (.iload_n 2, 1) := by decide +kernel
theorem dX9_freshOf_17 : decode cX9_freshOf 17 = .ok (.iload 4, 2) := by decide +kernel
theorem dX9_freshOf_19 : decode cX9_freshOf 19 = .ok (.invokevirtual 175, 3) := by decide +kernel
theorem dX9_freshOf_22 : decode cX9_freshOf 22 = .ok (.aload_n 0, 1) := by decide +kernel
theorem dX9_freshOf_23 : decode cX9_freshOf 23 = .ok (.iload_n 1, 1) := by decide +kernel
theorem dX9_freshOf_24 : decode cX9_freshOf 24 = .ok (.iload_n 3, 1) := by decide +kernel
theorem dX9_freshOf_25 : decode cX9_freshOf 25 = .ok (.invokevirtual 166, 3) := by decide +kernel
theorem dX9_freshOf_28 : decode cX9_freshOf 28 = .ok (.ifCond .eq 6, 3) := by decide +kernel
theorem dX9_freshOf_31 : decode cX9_freshOf 31 = .ok (.iload 4, 2) := by decide +kernel
theorem dX9_freshOf_33 : decode cX9_freshOf 33 = .ok (.ireturn, 1) := by decide +kernel
theorem dX9_freshOf_34 : decode cX9_freshOf 34 = .ok (.iinc 4 1, 3) := by decide +kernel
theorem dX9_freshOf_37 : decode cX9_freshOf 37 = .ok (.goto (-34), 3) := by decide +kernel
theorem dX9_freshOf_40 : decode cX9_freshOf 40 = .ok (.bipush (-9), 2) := by decide +kernel
theorem dX9_freshOf_42 : decode cX9_freshOf 42 = .ok (.ireturn, 1) := by decide +kernel
theorem dX9_fresh_0 : decode cX9_fresh 0 = .ok (.aload_n 0, 1) := by decide +kernel
theorem dX9_fresh_1 : decode cX9_fresh 1 = .ok (.iload_n 1, 1) := by decide +kernel
theorem dX9_fresh_2 : decode cX9_fresh 2 = .ok (.iload_n 2, 1) := by decide +kernel
theorem dX9_fresh_3 : decode cX9_fresh 3 = .ok (.iload_n 3, 1) := by decide +kernel
theorem dX9_fresh_4 : decode cX9_fresh 4 = .ok (.invokevirtual 172, 3) := by decide +kernel
theorem dX9_fresh_7 : decode cX9_fresh 7 = .ok (.istore 4, 2) := by decide +kernel
theorem dX9_fresh_9 : decode cX9_fresh 9 = .ok (.iload 4, 2) := by decide +kernel
theorem dX9_fresh_11 : decode cX9_fresh 11 = .ok (.ifCond .eq 8, 3) := by decide +kernel
theorem dX9_fresh_14 : decode cX9_fresh 14 = .ok (.iload 4, 2) := by decide +kernel
theorem dX9_fresh_16 : decode cX9_fresh 16 = .ok (.goto 14, 3) := by decide +kernel
theorem dX9_fresh_19 : decode cX9_fresh 19 = .ok (.aload_n 0, 1) := by decide +kernel
theorem dX9_fresh_20 : decode cX9_fresh 20 = .ok (.aload_n 0, 1) := by decide +kernel
theorem dX9_fresh_21 : decode cX9_fresh 21 = .ok (.iload_n 1, 1) := by decide +kernel
theorem dX9_fresh_22 : decode cX9_fresh 22 = .ok (.invokevirtual 150, 3) := by decide +kernel
theorem dX9_fresh_25 : decode cX9_fresh 25 = .ok (.iload_n 2, 1) := by decide +kernel
theorem dX9_fresh_26 : decode cX9_fresh 26 = .ok (.iload_n 3, 1) := by decide +kernel
theorem dX9_fresh_27 : decode cX9_fresh 27 = .ok (.invokevirtual 186, 3) := by decide +kernel
theorem dX9_fresh_30 : decode cX9_fresh 30 = .ok (.ireturn, 1) := by decide +kernel
theorem dX9_isNewToAll_0 : decode cX9_isNewToAll 0 = .ok (.iconst 0, 1) := by decide +kernel
theorem dX9_isNewToAll_1 : decode cX9_isNewToAll 1 = .ok (.istore_n 3, 1) := by decide +kernel
theorem dX9_isNewToAll_2 : decode cX9_isNewToAll 2 = .ok (.iload_n 3, 1) := by decide +kernel
theorem dX9_isNewToAll_3 : decode cX9_isNewToAll 3 = .ok (.iconst 4, 1) := by decide +kernel
theorem dX9_isNewToAll_4 : decode cX9_isNewToAll 4 = .ok (.if_icmp .ge 28, 3) := by decide +kernel
theorem dX9_isNewToAll_7 : decode cX9_isNewToAll 7 = .ok (.iload_n 2, 1) := by decide +kernel
theorem dX9_isNewToAll_8 : decode cX9_isNewToAll 8 = .ok (.iload_n 3, 1) := by decide +kernel
theorem dX9_isNewToAll_9 : decode cX9_isNewToAll 9 = .ok (.invokestatic 75, 3) := by decide +kernel
theorem dX9_isNewToAll_12 : decode cX9_isNewToAll 12 = .ok (.ifCond .eq 14, 3) := by decide +kernel
theorem dX9_isNewToAll_15 : decode cX9_isNewToAll 15 = .ok (.aload_n 0, 1) := by decide +kernel
theorem dX9_isNewToAll_16 : decode cX9_isNewToAll 16 = .ok (.iload_n 1, 1) := by decide +kernel
theorem dX9_isNewToAll_17 : decode cX9_isNewToAll 17 = .ok (.iload_n 3, 1) := by decide +kernel
theorem dX9_isNewToAll_18 : decode cX9_isNewToAll 18 = .ok (.invokevirtual 166, 3) := by decide +kernel
theorem dX9_isNewToAll_21 : decode cX9_isNewToAll 21 = .ok (.ifCond .ne 5, 3) := by decide +kernel
theorem dX9_isNewToAll_24 : decode cX9_isNewToAll 24 = .ok (.iconst 0, 1) := by decide +kernel
theorem dX9_isNewToAll_25 : decode cX9_isNewToAll 25 = .ok (.ireturn, 1) := by decide +kernel
theorem dX9_isNewToAll_26 : decode cX9_isNewToAll 26 = .ok (.iinc 3 1, 3) := by decide +kernel
theorem dX9_isNewToAll_29 : decode cX9_isNewToAll 29 = .ok (.goto (-27), 3) := by decide +kernel
theorem dX9_isNewToAll_32 : decode cX9_isNewToAll 32 = .ok (.iconst 1, 1) := by decide +kernel
theorem dX9_isNewToAll_33 : decode cX9_isNewToAll 33 = .ok (.ireturn, 1) := by decide +kernel
theorem dX9_forAll_0 : decode cX9_forAll 0 = .ok (.aload_n 0, 1) := by decide +kernel
theorem dX9_forAll_1 : decode cX9_forAll 1 = .ok (.iload_n 1, 1) := by decide +kernel
theorem dX9_forAll_2 : decode cX9_forAll 2 = .ok (.invokevirtual 150, 3) := by decide +kernel
theorem dX9_forAll_5 : decode cX9_forAll 5 = .ok (.istore_n 3, 1) := by decide +kernel
theorem dX9_forAll_6 : decode cX9_forAll 6 = .ok (.iload_n 3, 1) := by decide +kernel
theorem dX9_forAll_7 : decode cX9_forAll 7 = .ok (.bipush (-9), 2) := by decide +kernel
theorem dX9_forAll_9 : decode cX9_forAll 9 = .ok (.if_icmp .eq 10, 3) := by decide +kernel
theorem dX9_forAll_12 : decode cX9_forAll 12 = .ok (.iload_n 2, 1) := by decide +kernel
theorem dX9_forAll_13 : decode cX9_forAll 13 = .ok (.invokestatic 153, 3) := by decide +kernel
theorem dX9_forAll_16 : decode cX9_forAll 16 = .ok (.ifCond .ne 5, 3) := by decide +kernel
theorem dX9_forAll_19 : decode cX9_forAll 19 = .ok (.iconst (-1), 1) := by decide +kernel
theorem dX9_forAll_20 : decode cX9_forAll 20 = .ok (.ireturn, 1) := by decide +kernel
theorem dX9_forAll_21 : decode cX9_forAll 21 = .ok (.iconst 0, 1) := by decide +kernel
theorem dX9_forAll_22 : decode cX9_forAll 22 = .ok (.istore 4, 2) := by decide +kernel
theorem dX9_forAll_24 : decode cX9_forAll 24 = .ok (.iconst 0, 1) := by decide +kernel
theorem dX9_forAll_25 : decode cX9_forAll 25 = .ok (.istore 5, 2) := by decide +kernel
theorem dX9_forAll_27 : decode cX9_forAll 27 = .ok (.iload 5, 2) := by decide +kernel
theorem dX9_forAll_29 : decode cX9_forAll 29 = .ok (.iconst 4, 1) := by decide +kernel
theorem dX9_forAll_30 : decode cX9_forAll 30 = .ok (.if_icmp .ge 41, 3) := by decide +kernel
theorem dX9_forAll_33 : decode cX9_forAll 33 = .ok (.iload 4, 2) := by decide +kernel
theorem dX9_forAll_35 : decode cX9_forAll 35 = .ok (.iload 5, 2) := by decide +kernel
theorem dX9_forAll_37 : decode cX9_forAll 37 = .ok (.iload_n 2, 1) := by decide +kernel
theorem dX9_forAll_38 : decode cX9_forAll 38 = .ok (.if_icmp .eq 23, 3) := by decide +kernel
theorem dX9_forAll_41 : decode cX9_forAll 41 = .ok (.aload_n 0, 1) := by decide +kernel
theorem dX9_forAll_42 : decode cX9_forAll 42 = .ok (.iload_n 3, 1) := by decide +kernel
theorem dX9_forAll_43 : decode cX9_forAll 43 = .ok (.iload_n 2, 1) := by decide +kernel
theorem dX9_forAll_44 : decode cX9_forAll 44 = .ok (.iload 5, 2) := by decide +kernel
theorem dX9_forAll_46 : decode cX9_forAll 46 = .ok (.invokevirtual 186, 3) := by decide +kernel
theorem dX9_forAll_49 : decode cX9_forAll 49 = .ok (.bipush (-9), 2) := by decide +kernel
theorem dX9_forAll_51 : decode cX9_forAll 51 = .ok (.if_icmp .eq 10, 3) := by decide +kernel
theorem dX9_forAll_54 : decode cX9_forAll 54 = .ok (.iconst 1, 1) := by decide +kernel
theorem dX9_forAll_55 : decode cX9_forAll 55 = .ok (.iload 5, 2) := by decide +kernel
theorem dX9_forAll_57 : decode cX9_forAll 57 = .ok (.ishl, 1) := by decide +kernel
theorem dX9_forAll_58 : decode cX9_forAll 58 = .ok (.goto 4, 3) := by decide +kernel
theorem dX9_forAll_61 : decode cX9_forAll 61 = .ok (.iconst 0, 1) := by decide +kernel
theorem dX9_forAll_62 : decode cX9_forAll 62 = .ok (.ior, 1) := by decide +kernel
theorem dX9_forAll_63 : decode cX9_forAll 63 = .ok (.istore 4, 2) := by decide +kernel
theorem dX9_forAll_65 : decode cX9_forAll 65 = .ok (.iinc 5 1, 3) := by decide +kernel
theorem dX9_forAll_68 : decode cX9_forAll 68 = .ok (.goto (-41), 3) := by decide +kernel
theorem dX9_forAll_71 : decode cX9_forAll 71 = .ok (.iconst 0, 1) := by decide +kernel
theorem dX9_forAll_72 : decode cX9_forAll 72 = .ok (.istore 5, 2) := by decide +kernel
end
section
theorem dX9_forAll_74 : decode cX9_forAll 74 = .ok (.iload 5, 2) := by decide +kernel
theorem dX9_forAll_76 : decode cX9_forAll 76 = .ok (.aload_n 0, 1) := by decide +kernel
theorem dX9_forAll_77 : decode cX9_forAll 77 = .ok (.iload_n 3, 1) := by decide +kernel
theorem dX9_forAll_78 : decode cX9_forAll 78 = .ok (.iload_n 2, 1) := by decide +kernel
theorem dX9_forAll_79 : decode cX9_forAll 79 = .ok (.invokevirtual 183, 3) := by decide +kernel
theorem dX9_forAll_82 : decode cX9_forAll 82 = .ok (.if_icmp .ge 35, 3) := by decide +kernel
theorem dX9_forAll_85 : decode cX9_forAll 85 = .ok (.iload 4, 2) := by decide +kernel
theorem dX9_forAll_87 : decode cX9_forAll 87 = .ok (.ifCond .eq 30, 3) := by decide +kernel
theorem dX9_forAll_90 : decode cX9_forAll 90 = .ok (.aload_n 0, 1) := by decide +kernel
theorem dX9_forAll_91 : decode cX9_forAll 91 = .ok (.iload_n 3, 1) := by decide +kernel
theorem dX9_forAll_92 : decode cX9_forAll 92 = .ok (.iload_n 2, 1) := by decide +kernel
theorem dX9_forAll_93 : decode cX9_forAll 93 = .ok (.iload 5, 2) := by decide +kernel
theorem dX9_forAll_95 : decode cX9_forAll 95 = .ok (.invokevirtual 175, 3) := by decide +kernel
theorem dX9_forAll_98 : decode cX9_forAll 98 = .ok (.aload_n 0, 1) := by decide +kernel
theorem dX9_forAll_99 : decode cX9_forAll 99 = .ok (.iload_n 3, 1) := by decide +kernel
theorem dX9_forAll_100 : decode cX9_forAll 100 = .ok (.iload 4, 2) := by decide +kernel
theorem dX9_forAll_102 : decode cX9_forAll 102 = .ok (.invokevirtual 189, 3) := by decide +kernel
theorem dX9_forAll_105 : decode cX9_forAll 105 = .ok (.ifCond .eq 6, 3) := by decide +kernel
theorem dX9_forAll_108 : decode cX9_forAll 108 = .ok (.iload 5, 2) := by decide +kernel
theorem dX9_forAll_110 : decode cX9_forAll 110 = .ok (.ireturn, 1) := by decide +kernel
theorem dX9_forAll_111 : decode cX9_forAll 111 = .ok (.iinc 5 1, 3) := by decide +kernel
theorem dX9_forAll_114 : decode cX9_forAll 114 = .ok (.goto (-40), 3) := by decide +kernel
theorem dX9_forAll_117 : decode cX9_forAll 117 = .ok (.bipush (-9), 2) := by decide +kernel
theorem dX9_forAll_119 : decode cX9_forAll 119 = .ok (.ireturn, 1) := by decide +kernel
theorem dX9_isDone_0 : decode cX9_isDone 0 = .ok (.iconst 1, 1) := by decide +kernel
theorem dX9_isDone_1 : decode cX9_isDone 1 = .ok (.istore_n 2, 1) := by decide +kernel
theorem dX9_isDone_2 : decode cX9_isDone 2 = .ok (.iconst 0, 1) := by decide +kernel
theorem dX9_isDone_3 : decode cX9_isDone 3 = .ok (.istore_n 3, 1) := by decide +kernel
theorem dX9_isDone_4 : decode cX9_isDone 4 = .ok (.iload_n 3, 1) := by decide +kernel
theorem dX9_isDone_5 : decode cX9_isDone 5 = .ok (.iconst 4, 1) := by decide +kernel
theorem dX9_isDone_6 : decode cX9_isDone 6 = .ok (.if_icmp .ge 34, 3) := by decide +kernel
theorem dX9_isDone_9 : decode cX9_isDone 9 = .ok (.iload_n 2, 1) := by decide +kernel
theorem dX9_isDone_10 : decode cX9_isDone 10 = .ok (.ifCond .eq 22, 3) := by decide +kernel
theorem dX9_isDone_13 : decode cX9_isDone 13 = .ok (.aload_n 0, 1) := by decide +kernel
theorem dX9_isDone_14 : decode cX9_isDone 14 = .ok (.iload_n 1, 1) := by decide +kernel
theorem dX9_isDone_15 : decode cX9_isDone 15 = .ok (.iload_n 3, 1) := by decide +kernel
theorem dX9_isDone_16 : decode cX9_isDone 16 = .ok (.invokevirtual 156, 3) := by decide +kernel
theorem dX9_isDone_19 : decode cX9_isDone 19 = .ok (.aload_n 0, 1) := by decide +kernel
theorem dX9_isDone_20 : decode cX9_isDone 20 = .ok (.getfield 38, 3) := by decide +kernel
theorem dX9_isDone_23 : decode cX9_isDone 23 = .ok (.iload_n 1, 1) := by decide +kernel
theorem dX9_isDone_24 : decode cX9_isDone 24 = .ok (.iaload, 1) := by decide +kernel
theorem dX9_isDone_25 : decode cX9_isDone 25 = .ok (.if_icmp .ne 7, 3) := by decide +kernel
theorem dX9_isDone_28 : decode cX9_isDone 28 = .ok (.iconst 1, 1) := by decide +kernel
theorem dX9_isDone_29 : decode cX9_isDone 29 = .ok (.goto 4, 3) := by decide +kernel
theorem dX9_isDone_32 : decode cX9_isDone 32 = .ok (.iconst 0, 1) := by decide +kernel
theorem dX9_isDone_33 : decode cX9_isDone 33 = .ok (.istore_n 2, 1) := by decide +kernel
theorem dX9_isDone_34 : decode cX9_isDone 34 = .ok (.iinc 3 1, 3) := by decide +kernel
theorem dX9_isDone_37 : decode cX9_isDone 37 = .ok (.goto (-33), 3) := by decide +kernel
theorem dX9_isDone_40 : decode cX9_isDone 40 = .ok (.iload_n 2, 1) := by decide +kernel
theorem dX9_isDone_41 : decode cX9_isDone 41 = .ok (.ireturn, 1) := by decide +kernel
theorem dX9_moves_0 : decode cX9_moves 0 = .ok (.aload_n 0, 1) := by decide +kernel
theorem dX9_moves_1 : decode cX9_moves 1 = .ok (.getfield 35, 3) := by decide +kernel
theorem dX9_moves_4 : decode cX9_moves 4 = .ok (.iload_n 1, 1) := by decide +kernel
theorem dX9_moves_5 : decode cX9_moves 5 = .ok (.aload_n 0, 1) := by decide +kernel
theorem dX9_moves_6 : decode cX9_moves 6 = .ok (.getfield 35, 3) := by decide +kernel
theorem dX9_moves_9 : decode cX9_moves 9 = .ok (.iload_n 2, 1) := by decide +kernel
theorem dX9_moves_10 : decode cX9_moves 10 = .ok (.iaload, 1) := by decide +kernel
theorem dX9_moves_11 : decode cX9_moves 11 = .ok (.iastore, 1) := by decide +kernel
theorem dX9_moves_12 : decode cX9_moves 12 = .ok (.aload_n 0, 1) := by decide +kernel
theorem dX9_moves_13 : decode cX9_moves 13 = .ok (.getfield 38, 3) := by decide +kernel
theorem dX9_moves_16 : decode cX9_moves 16 = .ok (.iload_n 1, 1) := by decide +kernel
theorem dX9_moves_17 : decode cX9_moves 17 = .ok (.aload_n 0, 1) := by decide +kernel
theorem dX9_moves_18 : decode cX9_moves 18 = .ok (.getfield 38, 3) := by decide +kernel
theorem dX9_moves_21 : decode cX9_moves 21 = .ok (.iload_n 2, 1) := by decide +kernel
theorem dX9_moves_22 : decode cX9_moves 22 = .ok (.iaload, 1) := by decide +kernel
theorem dX9_moves_23 : decode cX9_moves 23 = .ok (.iastore, 1) := by decide +kernel
theorem dX9_moves_24 : decode cX9_moves 24 = .ok (.iconst 0, 1) := by decide +kernel
theorem dX9_moves_25 : decode cX9_moves 25 = .ok (.istore_n 3, 1) := by decide +kernel
theorem dX9_moves_26 : decode cX9_moves 26 = .ok (.iload_n 3, 1) := by decide +kernel
theorem dX9_moves_27 : decode cX9_moves 27 = .ok (.iconst 4, 1) := by decide +kernel
theorem dX9_moves_28 : decode cX9_moves 28 = .ok (.if_icmp .ge 29, 3) := by decide +kernel
theorem dX9_moves_31 : decode cX9_moves 31 = .ok (.aload_n 0, 1) := by decide +kernel
theorem dX9_moves_32 : decode cX9_moves 32 = .ok (.getfield 41, 3) := by decide +kernel
theorem dX9_moves_35 : decode cX9_moves 35 = .ok (.iconst 4, 1) := by decide +kernel
theorem dX9_moves_36 : decode cX9_moves 36 = .ok (.iload_n 1, 1) := by decide +kernel
theorem dX9_moves_37 : decode cX9_moves 37 = .ok (.imul, 1) := by decide +kernel
theorem dX9_moves_38 : decode cX9_moves 38 = .ok (.iload_n 3, 1) := by decide +kernel
theorem dX9_moves_39 : decode cX9_moves 39 = .ok (.iadd, 1) := by decide +kernel
theorem dX9_moves_40 : decode cX9_moves 40 = .ok (.aload_n 0, 1) := by decide +kernel
theorem dX9_moves_41 : decode cX9_moves 41 = .ok (.getfield 41, 3) := by decide +kernel
theorem dX9_moves_44 : decode cX9_moves 44 = .ok (.iconst 4, 1) := by decide +kernel
theorem dX9_moves_45 : decode cX9_moves 45 = .ok (.iload_n 2, 1) := by decide +kernel
theorem dX9_moves_46 : decode cX9_moves 46 = .ok (.imul, 1) := by decide +kernel
theorem dX9_moves_47 : decode cX9_moves 47 = .ok (.iload_n 3, 1) := by decide +kernel
theorem dX9_moves_48 : decode cX9_moves 48 = .ok (.iadd, 1) := by decide +kernel
theorem dX9_moves_49 : decode cX9_moves 49 = .ok (.iaload, 1) := by decide +kernel
theorem dX9_moves_50 : decode cX9_moves 50 = .ok (.iastore, 1) := by decide +kernel
theorem dX9_moves_51 : decode cX9_moves 51 = .ok (.iinc 3 1, 3) := by decide +kernel
theorem dX9_moves_54 : decode cX9_moves 54 = .ok (.goto (-28), 3) := by decide +kernel
theorem dX9_moves_57 : decode cX9_moves 57 = .ok (.iconst 0, 1) := by decide +kernel
theorem dX9_moves_58 : decode cX9_moves 58 = .ok (.istore_n 3, 1) := by decide +kernel
theorem dX9_moves_59 : decode cX9_moves 59 = .ok (.iload_n 3, 1) := by decide +kernel
theorem dX9_moves_60 : decode cX9_moves 60 = .ok (.iconst 1, 1) := by decide +kernel
theorem dX9_moves_61 : decode cX9_moves 61 = .ok (.iconst 0, 1) := by decide +kernel
theorem dX9_moves_62 : decode cX9_moves 62 = .ok (.iconst 0, 1) := by decide +kernel
theorem dX9_moves_63 : decode cX9_moves 63 = .ok (.invokestatic 146, 3) := by decide +kernel
theorem dX9_moves_66 : decode cX9_moves 66 = .ok (.if_icmp .ge 35, 3) := by decide +kernel
theorem dX9_moves_69 : decode cX9_moves 69 = .ok (.aload_n 0, 1) := by decide +kernel
theorem dX9_moves_70 : decode cX9_moves 70 = .ok (.getfield 44, 3) := by decide +kernel
theorem dX9_moves_73 : decode cX9_moves 73 = .ok (.iload_n 1, 1) := by decide +kernel
theorem dX9_moves_74 : decode cX9_moves 74 = .ok (.iconst 0, 1) := by decide +kernel
theorem dX9_moves_75 : decode cX9_moves 75 = .ok (.iconst 0, 1) := by decide +kernel
theorem dX9_moves_76 : decode cX9_moves 76 = .ok (.invokestatic 146, 3) := by decide +kernel
theorem dX9_moves_79 : decode cX9_moves 79 = .ok (.iload_n 3, 1) := by decide +kernel
theorem dX9_moves_80 : decode cX9_moves 80 = .ok (.iadd, 1) := by decide +kernel
theorem dX9_moves_81 : decode cX9_moves 81 = .ok (.aload_n 0, 1) := by decide +kernel
theorem dX9_moves_82 : decode cX9_moves 82 = .ok (.getfield 44, 3) := by decide +kernel
theorem dX9_moves_85 : decode cX9_moves 85 = .ok (.iload_n 2, 1) := by decide +kernel
theorem dX9_moves_86 : decode cX9_moves 86 = .ok (.iconst 0, 1) := by decide +kernel
theorem dX9_moves_87 : decode cX9_moves 87 = .ok (.iconst 0, 1) := by decide +kernel
theorem dX9_moves_88 : decode cX9_moves 88 = .ok (.invokestatic 146, 3) := by decide +kernel
theorem dX9_moves_91 : decode cX9_moves 91 = .ok (.iload_n 3, 1) := by decide +kernel
theorem dX9_moves_92 : decode cX9_moves 92 = .ok (.iadd, 1) := by decide +kernel
theorem dX9_moves_93 : decode cX9_moves 93 = .ok (.iaload, 1) := by decide +kernel
theorem dX9_moves_94 : decode cX9_moves 94 = .ok (.iastore, 1) := by decide +kernel
theorem dX9_moves_95 : decode cX9_moves 95 = .ok (.iinc 3 1, 3) := by decide +kernel
theorem dX9_moves_98 : decode cX9_moves 98 = .ok (.goto (-39), 3) := by decide +kernel
theorem dX9_moves_101 : decode cX9_moves 101 = .ok (.return_, 1) := by decide +kernel
theorem dX9_sweep_0 : decode cX9_sweep 0 = .ok (.iconst 0, 1) := by decide +kernel
theorem dX9_sweep_1 : decode cX9_sweep 1 = .ok (.istore_n 1, 1) := by decide +kernel
theorem dX9_sweep_2 : decode cX9_sweep 2 = .ok (.iconst 0, 1) := by decide +kernel
theorem dX9_sweep_3 : decode cX9_sweep 3 = .ok (.istore_n 2, 1) := by decide +kernel
theorem dX9_sweep_4 : decode cX9_sweep 4 = .ok (.iload_n 2, 1) := by decide +kernel
theorem dX9_sweep_5 : decode cX9_sweep 5 = .ok (.aload_n 0, 1) := by decide +kernel
theorem dX9_sweep_6 : decode cX9_sweep 6 = .ok (.getfield 140, 3) := by decide +kernel
theorem dX9_sweep_9 : decode cX9_sweep 9 = .ok (.if_icmp .ge 26, 3) := by decide +kernel
theorem dX9_sweep_12 : decode cX9_sweep 12 = .ok (.aload_n 0, 1) := by decide +kernel
theorem dX9_sweep_13 : decode cX9_sweep 13 = .ok (.iload_n 2, 1) := by decide +kernel
theorem dX9_sweep_14 : decode cX9_sweep 14 = .ok (.invokevirtual 192, 3) := by decide +kernel
theorem dX9_sweep_17 : decode cX9_sweep 17 = .ok (.ifCond .ne 12, 3) := by decide +kernel
theorem dX9_sweep_20 : decode cX9_sweep 20 = .ok (.aload_n 0, 1) := by decide +kernel
theorem dX9_sweep_21 : decode cX9_sweep 21 = .ok (.iload_n 1, 1) := by decide +kernel
theorem dX9_sweep_22 : decode cX9_sweep 22 = .ok (.iload_n 2, 1) := by decide +kernel
theorem dX9_sweep_23 : decode cX9_sweep 23 = .ok (.invokevirtual 195, 3) := by decide +kernel
theorem dX9_sweep_26 : decode cX9_sweep 26 = .ok (.iinc 1 1, 3) := by decide +kernel
theorem dX9_sweep_29 : decode cX9_sweep 29 = .ok (.iinc 2 1, 3) := by decide +kernel
theorem dX9_sweep_32 : decode cX9_sweep 32 = .ok (.goto (-28), 3) := by decide +kernel
theorem dX9_sweep_35 : decode cX9_sweep 35 = .ok (.aload_n 0, 1) := by decide +kernel
theorem dX9_sweep_36 : decode cX9_sweep 36 = .ok (.getfield 140, 3) := by decide +kernel
theorem dX9_sweep_39 : decode cX9_sweep 39 = .ok (.iload_n 1, 1) := by decide +kernel
theorem dX9_sweep_40 : decode cX9_sweep 40 = .ok (.isub, 1) := by decide +kernel
theorem dX9_sweep_41 : decode cX9_sweep 41 = .ok (.istore_n 2, 1) := by decide +kernel
theorem dX9_sweep_42 : decode cX9_sweep 42 = .ok (.aload_n 0, 1) := by decide +kernel
theorem dX9_sweep_43 : decode cX9_sweep 43 = .ok (.iload_n 1, 1) := by decide +kernel
theorem dX9_sweep_44 : decode cX9_sweep 44 = .ok (.putfield 140, 3) := by decide +kernel
theorem dX9_sweep_47 : decode cX9_sweep 47 = .ok (.iload_n 2, 1) := by decide +kernel
theorem dX9_sweep_48 : decode cX9_sweep 48 = .ok (.ireturn, 1) := by decide +kernel
theorem dX9_opened_0 : decode cX9_opened 0 = .ok (.iload_n 1, 1) := by decide +kernel
theorem dX9_opened_1 : decode cX9_opened 1 = .ok (.iconst 0, 1) := by decide +kernel
theorem dX9_opened_2 : decode cX9_opened 2 = .ok (.aload_n 0, 1) := by decide +kernel
theorem dX9_opened_3 : decode cX9_opened 3 = .ok (.getfield 140, 3) := by decide +kernel
theorem dX9_opened_6 : decode cX9_opened 6 = .ok (.iconst 1, 1) := by decide +kernel
theorem dX9_opened_7 : decode cX9_opened 7 = .ok (.isub, 1) := by decide +kernel
theorem dX9_opened_8 : decode cX9_opened 8 = .ok (.invokestatic 68, 3) := by decide +kernel
theorem dX9_opened_11 : decode cX9_opened 11 = .ok (.ifCond .eq 12, 3) := by decide +kernel
theorem dX9_opened_14 : decode cX9_opened 14 = .ok (.aload_n 0, 1) := by decide +kernel
theorem dX9_opened_15 : decode cX9_opened 15 = .ok (.getfield 35, 3) := by decide +kernel
theorem dX9_opened_18 : decode cX9_opened 18 = .ok (.iload_n 1, 1) := by decide +kernel
theorem dX9_opened_19 : decode cX9_opened 19 = .ok (.iaload, 1) := by decide +kernel
theorem dX9_opened_20 : decode cX9_opened 20 = .ok (.goto 4, 3) := by decide +kernel
theorem dX9_opened_23 : decode cX9_opened 23 = .ok (.iconst (-1), 1) := by decide +kernel
theorem dX9_opened_24 : decode cX9_opened 24 = .ok (.ireturn, 1) := by decide +kernel
theorem dX9_writes_0 : decode cX9_writes 0 = .ok (.aload_n 0, 1) := by decide +kernel
theorem dX9_writes_1 : decode cX9_writes 1 = .ok (.getfield 65, 3) := by decide +kernel
theorem dX9_writes_4 : decode cX9_writes 4 = .ok (.aload_n 0, 1) := by decide +kernel
theorem dX9_writes_5 : decode cX9_writes 5 = .ok (.getfield 199, 3) := by decide +kernel
theorem dX9_writes_8 : decode cX9_writes 8 = .ok (.iload_n 1, 1) := by decide +kernel
theorem dX9_writes_9 : decode cX9_writes 9 = .ok (.iastore, 1) := by decide +kernel
theorem dX9_writes_10 : decode cX9_writes 10 = .ok (.aload_n 0, 1) := by decide +kernel
theorem dX9_writes_11 : decode cX9_writes 11 = .ok (.dup, 1) := by decide +kernel
theorem dX9_writes_12 : decode cX9_writes 12 = .ok (.getfield 199, 3) := by decide +kernel
theorem dX9_writes_15 : decode cX9_writes 15 = .ok (.iconst 1, 1) := by decide +kernel
theorem dX9_writes_16 : decode cX9_writes 16 = .ok (.iadd, 1) := by decide +kernel
theorem dX9_writes_17 : decode cX9_writes 17 = .ok (.putfield 199, 3) := by decide +kernel
theorem dX9_writes_20 : decode cX9_writes 20 = .ok (.return_, 1) := by decide +kernel
theorem dX9_signAt_0 : decode cX9_signAt 0 = .ok (.iload_n 1, 1) := by decide +kernel
theorem dX9_signAt_1 : decode cX9_signAt 1 = .ok (.ifCond .ge 10, 3) := by decide +kernel
theorem dX9_signAt_4 : decode cX9_signAt 4 = .ok (.aload_n 0, 1) := by decide +kernel
theorem dX9_signAt_5 : decode cX9_signAt 5 = .ok (.getfield 199, 3) := by decide +kernel
theorem dX9_signAt_8 : decode cX9_signAt 8 = .ok (.goto 22, 3) := by decide +kernel
theorem dX9_signAt_11 : decode cX9_signAt 11 = .ok (.iload_n 1, 1) := by decide +kernel
theorem dX9_signAt_12 : decode cX9_signAt 12 = .ok (.aload_n 0, 1) := by decide +kernel
theorem dX9_signAt_13 : decode cX9_signAt 13 = .ok (.getfield 199, 3) := by decide +kernel
theorem dX9_signAt_16 : decode cX9_signAt 16 = .ok (.if_icmp .ge 12, 3) := by decide +kernel
theorem dX9_signAt_19 : decode cX9_signAt 19 = .ok (.aload_n 0, 1) := by decide +kernel
theorem dX9_signAt_20 : decode cX9_signAt 20 = .ok (.getfield 65, 3) := by decide +kernel
theorem dX9_signAt_23 : decode cX9_signAt 23 = .ok (.iload_n 1, 1) := by decide +kernel
theorem dX9_signAt_24 : decode cX9_signAt 24 = .ok (.iaload, 1) := by decide +kernel
theorem dX9_signAt_25 : decode cX9_signAt 25 = .ok (.goto 5, 3) := by decide +kernel
theorem dX9_signAt_28 : decode cX9_signAt 28 = .ok (.bipush (-9), 2) := by decide +kernel
theorem dX9_signAt_30 : decode cX9_signAt 30 = .ok (.ireturn, 1) := by decide +kernel
theorem dX9_writesNumber_0 : decode cX9_writesNumber 0 = .ok (.iload_n 1, 1) := by decide +kernel
theorem dX9_writesNumber_1 : decode cX9_writesNumber 1 = .ok (.bipush 99, 2) := by decide +kernel
theorem dX9_writesNumber_3 : decode cX9_writesNumber 3 = .ok (.if_icmp .le 8, 3) := by decide +kernel
theorem dX9_writesNumber_6 : decode cX9_writesNumber 6 = .ok (.bipush 100, 2) := by decide +kernel
theorem dX9_writesNumber_8 : decode cX9_writesNumber 8 = .ok (.goto 15, 3) := by decide +kernel
theorem dX9_writesNumber_11 : decode cX9_writesNumber 11 = .ok (.iload_n 1, 1) := by decide +kernel
theorem dX9_writesNumber_12 : decode cX9_writesNumber 12 = .ok (.bipush 9, 2) := by decide +kernel
theorem dX9_writesNumber_14 : decode cX9_writesNumber 14 = .ok (.if_icmp .le 8, 3) := by decide +kernel
theorem dX9_writesNumber_17 : decode cX9_writesNumber 17 = .ok (.bipush 10, 2) := by decide +kernel
theorem dX9_writesNumber_19 : decode cX9_writesNumber 19 = .ok (.goto 4, 3) := by decide +kernel
theorem dX9_writesNumber_22 : decode cX9_writesNumber 22 = .ok (.iconst 1, 1) := by decide +kernel
theorem dX9_writesNumber_23 : decode cX9_writesNumber 23 = .ok (.istore_n 2, 1) := by decide +kernel
theorem dX9_writesNumber_24 : decode cX9_writesNumber 24 = .ok (.iload_n 2, 1) := by decide +kernel
theorem dX9_writesNumber_25 : decode cX9_writesNumber 25 = .ok (.ifCond .le 24, 3) := by decide +kernel
theorem dX9_writesNumber_28 : decode cX9_writesNumber 28 = .ok (.aload_n 0, 1) := by decide +kernel
theorem dX9_writesNumber_29 : decode cX9_writesNumber 29 = .ok (.bipush 48, 2) := by decide +kernel
theorem dX9_writesNumber_31 : decode cX9_writesNumber 31 = .ok (.iload_n 1, 1) := by decide +kernel
theorem dX9_writesNumber_32 : decode cX9_writesNumber 32 = .ok (.iload_n 2, 1) := by decide +kernel
theorem dX9_writesNumber_33 : decode cX9_writesNumber 33 = .ok (.idiv, 1) := by decide +kernel
theorem dX9_writesNumber_34 : decode cX9_writesNumber 34 = .ok (.bipush 10, 2) := by decide +kernel
theorem dX9_writesNumber_36 : decode cX9_writesNumber 36 = .ok (.irem, 1) := by decide +kernel
theorem dX9_writesNumber_37 : decode cX9_writesNumber 37 = .ok (.iadd, 1) := by decide +kernel
theorem dX9_writesNumber_38 : decode cX9_writesNumber 38 = .ok (.invokevirtual 202, 3) := by decide +kernel
theorem dX9_writesNumber_41 : decode cX9_writesNumber 41 = .ok (.iload_n 2, 1) := by decide +kernel
theorem dX9_writesNumber_42 : decode cX9_writesNumber 42 = .ok (.bipush 10, 2) := by decide +kernel
theorem dX9_writesNumber_44 : decode cX9_writesNumber 44 = .ok (.idiv, 1) := by decide +kernel
theorem dX9_writesNumber_45 : decode cX9_writesNumber 45 = .ok (.istore_n 2, 1) := by decide +kernel
theorem dX9_writesNumber_46 : decode cX9_writesNumber 46 = .ok (.goto (-22), 3) := by decide +kernel
theorem dX9_writesNumber_49 : decode cX9_writesNumber 49 = .ok (.return_, 1) := by decide +kernel
theorem dX9_text_0 : decode cX9_text 0 = .ok (.aload_n 0, 1) := by decide +kernel
theorem dX9_text_1 : decode cX9_text 1 = .ok (.iload_n 1, 1) := by decide +kernel
theorem dX9_text_2 : decode cX9_text 2 = .ok (.invokevirtual 106, 3) := by decide +kernel
theorem dX9_text_5 : decode cX9_text 5 = .ok (.ifCond .eq 13, 3) := by decide +kernel
theorem dX9_text_8 : decode cX9_text 8 = .ok (.iload_n 2, 1) := by decide +kernel
theorem dX9_text_9 : decode cX9_text 9 = .ok (.iconst (-1), 1) := by decide +kernel
theorem dX9_text_10 : decode cX9_text 10 = .ok (.bipush 39, 2) := by decide +kernel
theorem dX9_text_12 : decode cX9_text 12 = .ok (.invokestatic 68, 3) := by decide +kernel
theorem dX9_text_15 : decode cX9_text 15 = .ok (.ifCond .ne 6, 3) := by decide +kernel
theorem dX9_text_18 : decode cX9_text 18 = .ok (.bipush (-2), 2) := by decide +kernel
theorem dX9_text_20 : decode cX9_text 20 = .ok (.ireturn, 1) := by decide +kernel
theorem dX9_text_21 : decode cX9_text 21 = .ok (.aload_n 0, 1) := by decide +kernel
theorem dX9_text_22 : decode cX9_text 22 = .ok (.iconst 0, 1) := by decide +kernel
theorem dX9_text_23 : decode cX9_text 23 = .ok (.putfield 199, 3) := by decide +kernel
theorem dX9_text_26 : decode cX9_text 26 = .ok (.iconst 0, 1) := by decide +kernel
theorem dX9_text_27 : decode cX9_text 27 = .ok (.istore_n 3, 1) := by decide +kernel
theorem dX9_text_28 : decode cX9_text 28 = .ok (.iload_n 3, 1) := by decide +kernel
theorem dX9_text_29 : decode cX9_text 29 = .ok (.bipush 10, 2) := by decide +kernel
theorem dX9_text_31 : decode cX9_text 31 = .ok (.if_icmp .ge 38, 3) := by decide +kernel
theorem dX9_text_34 : decode cX9_text 34 = .ok (.iload_n 1, 1) := by decide +kernel
theorem dX9_text_35 : decode cX9_text 35 = .ok (.iload_n 3, 1) := by decide +kernel
theorem dX9_text_36 : decode cX9_text 36 = .ok (.invokestatic 75, 3) := by decide +kernel
theorem dX9_text_39 : decode cX9_text 39 = .ok (.ifCond .eq 24, 3) := by decide +kernel
theorem dX9_text_42 : decode cX9_text 42 = .ok (.aload_n 0, 1) := by decide +kernel
theorem dX9_text_43 : decode cX9_text 43 = .ok (.getfield 199, 3) := by decide +kernel
theorem dX9_text_46 : decode cX9_text 46 = .ok (.ifCond .le 9, 3) := by decide +kernel
theorem dX9_text_49 : decode cX9_text 49 = .ok (.aload_n 0, 1) := by decide +kernel
theorem dX9_text_50 : decode cX9_text 50 = .ok (.bipush 43, 2) := by decide +kernel
theorem dX9_text_52 : decode cX9_text 52 = .ok (.invokevirtual 202, 3) := by decide +kernel
theorem dX9_text_55 : decode cX9_text 55 = .ok (.aload_n 0, 1) := by decide +kernel
theorem dX9_text_56 : decode cX9_text 56 = .ok (.bipush 48, 2) := by decide +kernel
theorem dX9_text_58 : decode cX9_text 58 = .ok (.iload_n 3, 1) := by decide +kernel
theorem dX9_text_59 : decode cX9_text 59 = .ok (.iadd, 1) := by decide +kernel
theorem dX9_text_60 : decode cX9_text 60 = .ok (.invokevirtual 202, 3) := by decide +kernel
theorem dX9_text_63 : decode cX9_text 63 = .ok (.iinc 3 1, 3) := by decide +kernel
theorem dX9_text_66 : decode cX9_text 66 = .ok (.goto (-38), 3) := by decide +kernel
theorem dX9_text_69 : decode cX9_text 69 = .ok (.aload_n 0, 1) := by decide +kernel
theorem dX9_text_70 : decode cX9_text 70 = .ok (.bipush 32, 2) := by decide +kernel
theorem dX9_text_72 : decode cX9_text 72 = .ok (.invokevirtual 202, 3) := by decide +kernel
theorem dX9_text_75 : decode cX9_text 75 = .ok (.aload_n 0, 1) := by decide +kernel
theorem dX9_text_76 : decode cX9_text 76 = .ok (.aload_n 0, 1) := by decide +kernel
theorem dX9_text_77 : decode cX9_text 77 = .ok (.iload_n 1, 1) := by decide +kernel
theorem dX9_text_78 : decode cX9_text 78 = .ok (.invokevirtual 115, 3) := by decide +kernel
theorem dX9_text_81 : decode cX9_text 81 = .ok (.invokevirtual 206, 3) := by decide +kernel
theorem dX9_text_84 : decode cX9_text 84 = .ok (.aload_n 0, 1) := by decide +kernel
theorem dX9_text_85 : decode cX9_text 85 = .ok (.iload_n 2, 1) := by decide +kernel
theorem dX9_text_86 : decode cX9_text 86 = .ok (.invokevirtual 209, 3) := by decide +kernel
theorem dX9_text_89 : decode cX9_text 89 = .ok (.ireturn, 1) := by decide +kernel
theorem dX9_rows_0 : decode cX9_rows 0 = .ok (.aload_n 0, 1) := by decide +kernel
theorem dX9_rows_1 : decode cX9_rows 1 = .ok (.iload_n 1, 1) := by decide +kernel
theorem dX9_rows_2 : decode cX9_rows 2 = .ok (.invokevirtual 150, 3) := by decide +kernel
theorem dX9_rows_5 : decode cX9_rows 5 = .ok (.istore 4, 2) := by decide +kernel
theorem dX9_rows_7 : decode cX9_rows 7 = .ok (.iload 4, 2) := by decide +kernel
theorem dX9_rows_9 : decode cX9_rows 9 = .ok (.bipush (-9), 2) := by decide +kernel
theorem dX9_rows_11 : decode cX9_rows 11 = .ok (.if_icmp .eq 10, 3) := by decide +kernel
theorem dX9_rows_14 : decode cX9_rows 14 = .ok (.iload_n 2, 1) := by decide +kernel
theorem dX9_rows_15 : decode cX9_rows 15 = .ok (.invokestatic 153, 3) := by decide +kernel
theorem dX9_rows_18 : decode cX9_rows 18 = .ok (.ifCond .ne 5, 3) := by decide +kernel
theorem dX9_rows_21 : decode cX9_rows 21 = .ok (.iconst (-1), 1) := by decide +kernel
theorem dX9_rows_22 : decode cX9_rows 22 = .ok (.ireturn, 1) := by decide +kernel
theorem dX9_rows_23 : decode cX9_rows 23 = .ok (.iload_n 3, 1) := by decide +kernel
theorem dX9_rows_24 : decode cX9_rows 24 = .ok (.iconst (-1), 1) := by decide +kernel
theorem dX9_rows_25 : decode cX9_rows 25 = .ok (.bipush 59, 2) := by decide +kernel
theorem dX9_rows_27 : decode cX9_rows 27 = .ok (.invokestatic 68, 3) := by decide +kernel
theorem dX9_rows_30 : decode cX9_rows 30 = .ok (.ifCond .ne 6, 3) := by decide +kernel
theorem dX9_rows_33 : decode cX9_rows 33 = .ok (.bipush (-2), 2) := by decide +kernel
theorem dX9_rows_35 : decode cX9_rows 35 = .ok (.ireturn, 1) := by decide +kernel
theorem dX9_rows_36 : decode cX9_rows 36 = .ok (.aload_n 0, 1) := by decide +kernel
theorem dX9_rows_37 : decode cX9_rows 37 = .ok (.iconst 0, 1) := by decide +kernel
theorem dX9_rows_38 : decode cX9_rows 38 = .ok (.putfield 199, 3) := by decide +kernel
theorem dX9_rows_41 : decode cX9_rows 41 = .ok (.iconst 0, 1) := by decide +kernel
theorem dX9_rows_42 : decode cX9_rows 42 = .ok (.istore 5, 2) := by decide +kernel
theorem dX9_rows_44 : decode cX9_rows 44 = .ok (.iload 5, 2) := by decide +kernel
theorem dX9_rows_46 : decode cX9_rows 46 = .ok (.aload_n 0, 1) := by decide +kernel
theorem dX9_rows_47 : decode cX9_rows 47 = .ok (.iload 4, 2) := by decide +kernel
theorem dX9_rows_49 : decode cX9_rows 49 = .ok (.iload_n 2, 1) := by decide +kernel
theorem dX9_rows_50 : decode cX9_rows 50 = .ok (.invokevirtual 156, 3) := by decide +kernel
theorem dX9_rows_53 : decode cX9_rows 53 = .ok (.if_icmp .ge 84, 3) := by decide +kernel
theorem dX9_rows_56 : decode cX9_rows 56 = .ok (.iload 5, 2) := by decide +kernel
theorem dX9_rows_58 : decode cX9_rows 58 = .ok (.ifCond .le 9, 3) := by decide +kernel
theorem dX9_rows_61 : decode cX9_rows 61 = .ok (.aload_n 0, 1) := by decide +kernel
theorem dX9_rows_62 : decode cX9_rows 62 = .ok (.bipush 32, 2) := by decide +kernel
theorem dX9_rows_64 : decode cX9_rows 64 = .ok (.invokevirtual 202, 3) := by decide +kernel
theorem dX9_rows_67 : decode cX9_rows 67 = .ok (.iconst 0, 1) := by decide +kernel
theorem dX9_rows_68 : decode cX9_rows 68 = .ok (.istore 6, 2) := by decide +kernel
theorem dX9_rows_70 : decode cX9_rows 70 = .ok (.iload 6, 2) := by decide +kernel
theorem dX9_rows_72 : decode cX9_rows 72 = .ok (.aload_n 0, 1) := by decide +kernel
theorem dX9_rows_73 : decode cX9_rows 73 = .ok (.getfield 38, 3) := by decide +kernel
theorem dX9_rows_76 : decode cX9_rows 76 = .ok (.iload 4, 2) := by decide +kernel
theorem dX9_rows_78 : decode cX9_rows 78 = .ok (.iaload, 1) := by decide +kernel
theorem dX9_rows_79 : decode cX9_rows 79 = .ok (.iconst 3, 1) := by decide +kernel
theorem dX9_rows_80 : decode cX9_rows 80 = .ok (.iadd, 1) := by decide +kernel
theorem dX9_rows_81 : decode cX9_rows 81 = .ok (.if_icmp .ge 50, 3) := by decide +kernel
theorem dX9_rows_84 : decode cX9_rows 84 = .ok (.iload 6, 2) := by decide +kernel
theorem dX9_rows_86 : decode cX9_rows 86 = .ok (.aload_n 0, 1) := by decide +kernel
theorem dX9_rows_87 : decode cX9_rows 87 = .ok (.getfield 38, 3) := by decide +kernel
theorem dX9_rows_90 : decode cX9_rows 90 = .ok (.iload 4, 2) := by decide +kernel
theorem dX9_rows_92 : decode cX9_rows 92 = .ok (.iaload, 1) := by decide +kernel
theorem dX9_rows_93 : decode cX9_rows 93 = .ok (.if_icmp .ne 9, 3) := by decide +kernel
theorem dX9_rows_96 : decode cX9_rows 96 = .ok (.aload_n 0, 1) := by decide +kernel
theorem dX9_rows_97 : decode cX9_rows 97 = .ok (.bipush 58, 2) := by decide +kernel
theorem dX9_rows_99 : decode cX9_rows 99 = .ok (.invokevirtual 202, 3) := by decide +kernel
theorem dX9_rows_102 : decode cX9_rows 102 = .ok (.aload_n 0, 1) := by decide +kernel
theorem dX9_rows_103 : decode cX9_rows 103 = .ok (.bipush 48, 2) := by decide +kernel
theorem dX9_rows_105 : decode cX9_rows 105 = .ok (.aload_n 0, 1) := by decide +kernel
theorem dX9_rows_106 : decode cX9_rows 106 = .ok (.getfield 44, 3) := by decide +kernel
theorem dX9_rows_109 : decode cX9_rows 109 = .ok (.iload 4, 2) := by decide +kernel
theorem dX9_rows_111 : decode cX9_rows 111 = .ok (.iload_n 2, 1) := by decide +kernel
theorem dX9_rows_112 : decode cX9_rows 112 = .ok (.iload 5, 2) := by decide +kernel
theorem dX9_rows_114 : decode cX9_rows 114 = .ok (.invokestatic 146, 3) := by decide +kernel
theorem dX9_rows_117 : decode cX9_rows 117 = .ok (.iload 6, 2) := by decide +kernel
theorem dX9_rows_119 : decode cX9_rows 119 = .ok (.iadd, 1) := by decide +kernel
theorem dX9_rows_120 : decode cX9_rows 120 = .ok (.iaload, 1) := by decide +kernel
theorem dX9_rows_121 : decode cX9_rows 121 = .ok (.iadd, 1) := by decide +kernel
theorem dX9_rows_122 : decode cX9_rows 122 = .ok (.invokevirtual 202, 3) := by decide +kernel
theorem dX9_rows_125 : decode cX9_rows 125 = .ok (.iinc 6 1, 3) := by decide +kernel
theorem dX9_rows_128 : decode cX9_rows 128 = .ok (.goto (-58), 3) := by decide +kernel
theorem dX9_rows_131 : decode cX9_rows 131 = .ok (.iinc 5 1, 3) := by decide +kernel
theorem dX9_rows_134 : decode cX9_rows 134 = .ok (.goto (-90), 3) := by decide +kernel
theorem dX9_rows_137 : decode cX9_rows 137 = .ok (.aload_n 0, 1) := by decide +kernel
theorem dX9_rows_138 : decode cX9_rows 138 = .ok (.iload_n 3, 1) := by decide +kernel
theorem dX9_rows_139 : decode cX9_rows 139 = .ok (.invokevirtual 209, 3) := by decide +kernel
theorem dX9_rows_142 : decode cX9_rows 142 = .ok (.ireturn, 1) := by decide +kernel
theorem dX9_many_0 : decode cX9_many 0 = .ok (.iload_n 1, 1) := by decide +kernel
theorem dX9_many_1 : decode cX9_many 1 = .ok (.tableswitch 102 0 8 #[51, 59, 64, 69, 74, 79, 84, 89, 94], 51) := by decide +kernel
theorem dX9_many_52 : decode cX9_many 52 = .ok (.aload_n 0, 1) := by decide +kernel
theorem dX9_many_53 : decode cX9_many 53 = .ok (.getfield 72, 3) := by decide +kernel
theorem dX9_many_56 : decode cX9_many 56 = .ok (.invokestatic 102, 3) := by decide +kernel
theorem dX9_many_59 : decode cX9_many 59 = .ok (.ireturn, 1) := by decide +kernel
theorem dX9_many_60 : decode cX9_many 60 = .ok (.aload_n 0, 1) := by decide +kernel
theorem dX9_many_61 : decode cX9_many 61 = .ok (.getfield 79, 3) := by decide +kernel
theorem dX9_many_64 : decode cX9_many 64 = .ok (.ireturn, 1) := by decide +kernel
theorem dX9_many_65 : decode cX9_many 65 = .ok (.aload_n 0, 1) := by decide +kernel
theorem dX9_many_66 : decode cX9_many 66 = .ok (.getfield 96, 3) := by decide +kernel
theorem dX9_many_69 : decode cX9_many 69 = .ok (.ireturn, 1) := by decide +kernel
theorem dX9_many_70 : decode cX9_many 70 = .ok (.aload_n 0, 1) := by decide +kernel
theorem dX9_many_71 : decode cX9_many 71 = .ok (.getfield 99, 3) := by decide +kernel
theorem dX9_many_74 : decode cX9_many 74 = .ok (.ireturn, 1) := by decide +kernel
theorem dX9_many_75 : decode cX9_many 75 = .ok (.aload_n 0, 1) := by decide +kernel
theorem dX9_many_76 : decode cX9_many 76 = .ok (.getfield 32, 3) := by decide +kernel
theorem dX9_many_79 : decode cX9_many 79 = .ok (.ireturn, 1) := by decide +kernel
theorem dX9_many_80 : decode cX9_many 80 = .ok (.aload_n 0, 1) := by decide +kernel
theorem dX9_many_81 : decode cX9_many 81 = .ok (.getfield 143, 3) := by decide +kernel
theorem dX9_many_84 : decode cX9_many 84 = .ok (.ireturn, 1) := by decide +kernel
theorem dX9_many_85 : decode cX9_many 85 = .ok (.aload_n 0, 1) := by decide +kernel
theorem dX9_many_86 : decode cX9_many 86 = .ok (.getfield 140, 3) := by decide +kernel
theorem dX9_many_89 : decode cX9_many 89 = .ok (.ireturn, 1) := by decide +kernel
theorem dX9_many_90 : decode cX9_many 90 = .ok (.aload_n 0, 1) := by decide +kernel
theorem dX9_many_91 : decode cX9_many 91 = .ok (.getfield 134, 3) := by decide +kernel
theorem dX9_many_94 : decode cX9_many 94 = .ok (.ireturn, 1) := by decide +kernel
theorem dX9_many_95 : decode cX9_many 95 = .ok (.aload_n 0, 1) := by decide +kernel
theorem dX9_many_96 : decode cX9_many 96 = .ok (.getfield 47, 3) := by decide +kernel
theorem dX9_many_99 : decode cX9_many 99 = .ok (.ldc 212, 2) := by decide +kernel
theorem dX9_many_101 : decode cX9_many 101 = .ok (.iand, 1) := by decide +kernel
theorem dX9_many_102 : decode cX9_many 102 = .ok (.ireturn, 1) := by decide +kernel
theorem dX9_many_103 : decode cX9_many 103 = .ok (.bipush (-2), 2) := by decide +kernel
theorem dX9_many_105 : decode cX9_many 105 = .ok (.ireturn, 1) := by decide +kernel
end
section
def zT : List Cond := lw_tbl.filter goodWord
/-! The state picture: (kind, number, place) to an int; addresses by (kind, number). -/
abbrev zS : Type := Nat → Nat → Nat → Int32
abbrev zG : Type := (Nat → Nat → Nat) × (Nat → ClassId) × va_G
abbrev zX : Type := Program × Launch × Env × Room × State × MethodId × Array Value × List Frame × Method × Code × (State → Prop) × zG × (Nat → Prop) × Nat × Nat × Nat
def zad (K : zX) (k i : Nat) : Nat := K.2.2.2.2.2.2.2.2.2.2.2.1.1 k i
def zrm (K : zX) : Room := K.2.2.2.1
def zln (K : zX) : Launch := K.2.1
def zU (σ : zS) (k i j : Nat) (v : Int32) : zS := fun a b => if a = k ∧ b = i then upd (σ a b) j v else σ a b
def zLim (k : Nat) : Nat := if k = 13 ∨ k = 14 then 3 else if k = 15 ∨ k = 16 ∨ k = 17 then 12 else if k = 18 then 61 else if k < 37 then 1 else 0
def zIds : List (Nat × Nat) := (List.range 37).flatMap (fun k => (List.range (zLim k)).map (fun i => (k, i)))

/-- a cell: kind k, number i, its ints f -/
def zC (g : zG) (f : Nat → Int32) (k i : Nat) : va_E := match k with
  | 0 => .inr (8, [.ref (g.1 1 0), .ref (g.1 7 0), .ref (g.1 9 0), .ref (g.1 10 0), .ref (g.1 19 0)])
  | 1 => .inr (6, [.ref (g.1 2 0), .ref (g.1 3 0), .ref (g.1 4 0), .int (f 3), .int (f 4), .int (f 5), .int (f 6), .int (f 7)])
  | 2 => .inl (g.2.1 0, 10, .inl f)
  | 3 => .inl (g.2.1 0, 8, .inl f)
  | 4 => .inr (5, [.ref (g.1 5 0), .ref (g.1 6 0), .int (f 2)])
  | 5 => .inl (g.2.1 0, 16, .inl f)
  | 6 => .inl (g.2.1 0, 16, .inl f)
  | 7 => .inr (7, [.ref (g.1 8 0), .int (f 1)])
  | 8 => .inl (g.2.1 0, 12, .inl f)
  | 9 => .inr (0, [.int (f 0), .int (f 1)])
  | 10 => .inr (2, [.ref (g.1 11 0), .ref (g.1 9 0), .ref (g.1 18 60), .ref (g.1 12 0), .int (f 4), .int (f 5)])
  | 11 => .inl (g.2.1 2, 3, .inr (.inr (.inr (.inr (fun j => some (g.1 13 ((f j).toNatClampNeg % 3)))))))
  | 12 => .inl (g.2.1 1, 4, .inl f)
  | 13 => .inr (1, [.ref (g.1 14 i), .int (f 1), .int (f 2)])
  | 14 => .inl (g.2.1 3, 4, .inr (.inr (.inr (.inr (fun j => some (g.1 15 (4 * i + j)))))))
  | 15 => .inr (3, [.ref (g.1 16 i), .ref (g.1 17 i)])
  | 16 => .inl (g.2.1 4, 5, .inr (.inr (.inr (.inr (fun j => some (g.1 18 (5 * i + j)))))))
  | 17 => .inl (g.2.1 1, 5, .inl f)
  | 18 => .inl (g.2.1 0, 8, .inl f)
  | 19 => .inr (4, [.ref (g.1 20 0), .int (f 1)])
  | 20 => .inl (g.2.1 0, 60, .inl f)
  | 21 => .inr (9, [.int (f 0), .ref (g.1 22 0), .ref (g.1 23 0), .int (f 3), .ref (g.1 24 0), .ref (g.1 25 0), .int (f 6), .int (f 7), .int (f 8), .int (f 9), .ref (g.1 26 0), .int (f 11), .int (f 12), .int (f 13), .int (f 14), .ref (g.1 27 0), .ref (g.1 28 0), .ref (g.1 29 0), .ref (g.1 30 0), .int (f 19), .ref (g.1 31 0), .ref (g.1 32 0), .ref (g.1 33 0), .ref (g.1 34 0), .ref (g.1 35 0), .ref (g.1 36 0), .int (f 26)])
  | 22 => .inl (g.2.1 0, 10, .inl f)
  | 23 => .inl (g.2.1 0, 8, .inl f)
  | 24 => .inl (g.2.1 0, 16, .inl f)
  | 25 => .inl (g.2.1 0, 16, .inl f)
  | 26 => .inl (g.2.1 0, 12, .inl f)
  | 27 => .inl (g.2.1 0, 3, .inl f)
  | 28 => .inl (g.2.1 0, 3, .inl f)
  | 29 => .inl (g.2.1 0, 12, .inl f)
  | 30 => .inl (g.2.1 0, 480, .inl f)
  | 31 => .inl (g.2.1 0, 4, .inl f)
  | 32 => .inl (g.2.1 0, 4, .inl f)
  | 33 => .inl (g.2.1 0, 17, .inl f)
  | 34 => .inl (g.2.1 0, 8, .inl f)
  | 35 => .inl (g.2.1 0, 8, .inl f)
  | _ => .inl (g.2.1 0, 60, .inl f)
def zW (g : zG) (σ : zS) : va_W := zIds.map (fun q => (g.1 q.1 q.2, zC g (σ q.1 q.2) q.1 q.2))
def zTys (g : zG) : List (ClassId × FieldType) := [(g.2.1 0, .int), (g.2.1 1, .boolean), (g.2.1 2, .object "AddedLetters$Generation"), (g.2.1 3, .object "AddedLetters$Node"), (g.2.1 4, .array .int)]

def zNest : List Cond := [.fieldLinkNest "AddedLetters" 97 "AddedLetters$Queue" "letters" "[I" "AddedLetters", .fieldLinkNest "AddedLetters$Relay" 75 "AddedLetters$Queue" "letters" "[I" "AddedLetters", .fieldLinkNest "AddedLetters" 101 "AddedLetters$Queue" "stations" "[I" "AddedLetters", .fieldLinkNest "AddedLetters$Relay" 72 "AddedLetters$Queue" "stations" "[I" "AddedLetters", .fieldLinkNest "AddedLetters" 84 "AddedLetters$Queue" "size" "I" "AddedLetters", .fieldLinkNest "AddedLetters$Relay" 51 "AddedLetters$Queue" "size" "I" "AddedLetters", .fieldLinkNest "AddedLetters" 104 "AddedLetters$Relay" "held" "[I" "AddedLetters", .fieldLinkNest "AddedLetters" 71 "AddedLetters$Relay" "queue" "LAddedLetters$Queue;" "AddedLetters", .fieldLinkNest "AddedLetters" 209 "AddedLetters$Relay" "there" "I" "AddedLetters", .fieldLinkNest "AddedLetters" 88 "AddedLetters$Relay" "onAir" "I" "AddedLetters", .fieldLinkNest "AddedLetters" 91 "AddedLetters$Relay" "limit" "I" "AddedLetters", .fieldLinkNest "AddedLetters" 217 "AddedLetters$Relay" "sent" "I" "AddedLetters", .fieldLinkNest "AddedLetters" 220 "AddedLetters$Relay" "served" "I" "AddedLetters", .fieldLinkNest "AddedLetters" 131 "AddedLetters$Tape" "size" "I" "AddedLetters", .fieldLinkNest "AddedLetters$Mixing" 82 "AddedLetters$Field" "p" "I" "AddedLetters", .fieldLinkNest "AddedLetters" 135 "AddedLetters$Field" "p" "I" "AddedLetters", .fieldLinkNest "AddedLetters" 226 "AddedLetters$Field" "seed" "I" "AddedLetters", .fieldLinkNest "AddedLetters$Mixing" 74 "AddedLetters$Node" "cells" "[[I" "AddedLetters", .fieldLinkNest "AddedLetters$Paper" 29 "AddedLetters$Node" "led" "[Z" "AddedLetters", .fieldLinkNest "AddedLetters$Mixing" 71 "AddedLetters$Node" "led" "[Z" "AddedLetters", .fieldLinkNest "AddedLetters$Mixing" 44 "AddedLetters$Generation" "nodes" "[LAddedLetters$Node;" "AddedLetters", .fieldLinkNest "AddedLetters$Mixing" 37 "AddedLetters$Generation" "number" "I" "AddedLetters", .fieldLinkNest "AddedLetters" 196 "AddedLetters$Generation" "number" "I" "AddedLetters", .fieldLinkNest "AddedLetters" 160 "AddedLetters$Generation" "n" "I" "AddedLetters", .fieldLinkNest "AddedLetters" 192 "AddedLetters$Mixing" "slots" "[LAddedLetters$Generation;" "AddedLetters", .fieldLinkNest "AddedLetters" 189 "AddedLetters$Mixing" "open" "I" "AddedLetters", .fieldLinkNest "AddedLetters" 223 "AddedLetters$Mixing" "begun" "I" "AddedLetters", .methodLinkNest "AddedLetters" 11 ⟨"AddedLetters$Relay", "<init>", "()V"⟩ "AddedLetters", .methodLinkNest "AddedLetters$Relay" 20 ⟨"AddedLetters$Queue", "<init>", "()V"⟩ "AddedLetters", .methodLinkNest "AddedLetters" 18 ⟨"AddedLetters$Tape", "<init>", "()V"⟩ "AddedLetters", .methodLinkNest "AddedLetters" 25 ⟨"AddedLetters$Field", "<init>", "()V"⟩ "AddedLetters", .methodLinkNest "AddedLetters" 32 ⟨"AddedLetters$Mixing", "<init>", "(LAddedLetters$Field;)V"⟩ "AddedLetters", .methodLinkNest "AddedLetters$Mixing" 29 ⟨"AddedLetters$Generation", "<init>", "()V"⟩ "AddedLetters", .methodLinkNest "AddedLetters$Generation" 17 ⟨"AddedLetters$Node", "<init>", "()V"⟩ "AddedLetters", .methodLinkNest "AddedLetters" 41 ⟨"AddedLetters$Paper", "<init>", "()V"⟩ "AddedLetters", .methodLinkNest "AddedLetters" 46 ⟨"AddedLetters$Relay", "putLetter", "(II)Z"⟩ "AddedLetters", .methodLinkNest "AddedLetters" 50 ⟨"AddedLetters$Relay", "isThere", "(I)Z"⟩ "AddedLetters", .methodLinkNest "AddedLetters" 54 ⟨"AddedLetters$Relay", "takeLetter", "(I)I"⟩ "AddedLetters", .methodLinkNest "AddedLetters$Relay" 43 ⟨"AddedLetters$Queue", "removeLetter", "(I)I"⟩ "AddedLetters", .methodLinkNest "AddedLetters" 61 ⟨"AddedLetters$Relay", "holds", "(II)Z"⟩ "AddedLetters", .methodLinkNest "AddedLetters" 64 ⟨"AddedLetters$Relay", "give", "(II)Z"⟩ "AddedLetters", .methodLinkNest "AddedLetters$Relay" 47 ⟨"AddedLetters$Queue", "removePair", "(II)Z"⟩ "AddedLetters", .methodLinkNest "AddedLetters" 67 ⟨"AddedLetters$Relay", "takeFrom", "(II)V"⟩ "AddedLetters", .methodLinkNest "AddedLetters" 75 ⟨"AddedLetters$Queue", "indexOf", "(II)I"⟩ "AddedLetters", .methodLinkNest "AddedLetters" 81 ⟨"AddedLetters$Queue", "add", "(II)Z"⟩ "AddedLetters", .methodLinkNest "AddedLetters" 94 ⟨"AddedLetters$Relay", "clear", "()V"⟩ "AddedLetters", .methodLinkNest "AddedLetters" 107 ⟨"AddedLetters$Relay", "isSum", "(I)Z"⟩ "AddedLetters", .methodLinkNest "AddedLetters" 110 ⟨"AddedLetters$Relay", "readBy", "(II)I"⟩ "AddedLetters", .methodLinkNest "AddedLetters" 113 ⟨"AddedLetters$Relay", "bodyOf", "(I)I"⟩ "AddedLetters", .methodLinkNest "AddedLetters" 116 ⟨"AddedLetters$Relay", "countServed", "(I)I"⟩ "AddedLetters", .methodLinkNest "AddedLetters" 119 ⟨"AddedLetters$Relay", "openers", "(I)I"⟩ "AddedLetters", .methodLinkNest "AddedLetters" 122 ⟨"AddedLetters$Relay", "findBest", "()I"⟩ "AddedLetters", .methodLinkNest "AddedLetters" 126 ⟨"AddedLetters$Relay", "deliver", "(I)I"⟩ "AddedLetters", .methodLinkNest "AddedLetters" 129 ⟨"AddedLetters$Tape", "add", "(I)Z"⟩ "AddedLetters", .methodLinkNest "AddedLetters" 132 ⟨"AddedLetters$Tape", "toldNumber", "()I"⟩ "AddedLetters", .methodLinkNest "AddedLetters" 138 ⟨"AddedLetters$Mixing", "forget", "()V"⟩ "AddedLetters", .methodLinkNest "AddedLetters" 141 ⟨"AddedLetters$Mixing", "begin", "(II)I"⟩ "AddedLetters", .methodLinkNest "AddedLetters$Mixing" 48 ⟨"AddedLetters$Generation", "renew", "(II)V"⟩ "AddedLetters", .methodLinkNest "AddedLetters$Generation" 25 ⟨"AddedLetters$Node", "clear", "()V"⟩ "AddedLetters", .methodLinkNest "AddedLetters$Mixing" 61 ⟨"AddedLetters$Field", "left", "(I)I"⟩ "AddedLetters", .methodLinkNest "AddedLetters$Mixing" 55 ⟨"AddedLetters$Node", "take", "([ILAddedLetters$Field;)Z"⟩ "AddedLetters", .methodLinkNest "AddedLetters$Node" 20 ⟨"AddedLetters$Field", "left", "(I)I"⟩ "AddedLetters", .methodLinkNest "AddedLetters$Node" 41 ⟨"AddedLetters$Field", "inverse", "(I)I"⟩ "AddedLetters", .methodLinkNest "AddedLetters" 144 ⟨"AddedLetters$Mixing", "nodeOf", "(II)LAddedLetters$Node;"⟩ "AddedLetters", .methodLinkNest "AddedLetters" 148 ⟨"AddedLetters$Node", "height", "()I"⟩ "AddedLetters", .methodLinkNest "AddedLetters" 153 ⟨"AddedLetters$Mixing", "find", "(I)LAddedLetters$Generation;"⟩ "AddedLetters", .methodLinkNest "AddedLetters" 157 ⟨"AddedLetters$Node", "placeOf", "(I)I"⟩ "AddedLetters", .methodLinkNest "AddedLetters" 165 ⟨"AddedLetters$Node", "cell", "(II)I"⟩ "AddedLetters", .methodLinkNest "AddedLetters" 168 ⟨"AddedLetters$Node", "knows", "(I)Z"⟩ "AddedLetters", .methodLinkNest "AddedLetters" 171 ⟨"AddedLetters$Mixing", "carry", "(LAddedLetters$Node;LAddedLetters$Node;I)Z"⟩ "AddedLetters", .methodLinkNest "AddedLetters$Mixing" 67 ⟨"AddedLetters$Node", "mixInto", "([ILAddedLetters$Field;I)V"⟩ "AddedLetters", .methodLinkNest "AddedLetters$Node" 30 ⟨"AddedLetters$Field", "cut", "(I)I"⟩ "AddedLetters", .methodLinkNest "AddedLetters" 175 ⟨"AddedLetters$Field", "nextDrawn", "()I"⟩ "AddedLetters", .methodLinkNest "AddedLetters" 178 ⟨"AddedLetters$Mixing", "leastNew", "(LAddedLetters$Node;LAddedLetters$Node;)I"⟩ "AddedLetters", .methodLinkNest "AddedLetters$Mixing" 78 ⟨"AddedLetters$Node", "newLead", "([ILAddedLetters$Field;)I"⟩ "AddedLetters", .methodLinkNest "AddedLetters" 182 ⟨"AddedLetters$Mixing", "leastNewForAll", "(LAddedLetters$Generation;I)I"⟩ "AddedLetters", .methodLinkNest "AddedLetters$Mixing" 95 ⟨"AddedLetters$Node", "height", "()I"⟩ "AddedLetters", .methodLinkNest "AddedLetters" 186 ⟨"AddedLetters$Mixing", "takeOutDone", "()I"⟩ "AddedLetters", .methodLinkNest "AddedLetters$Mixing" 106 ⟨"AddedLetters$Generation", "isDone", "()Z"⟩ "AddedLetters", .methodLinkNest "AddedLetters$Generation" 28 ⟨"AddedLetters$Node", "height", "()I"⟩ "AddedLetters", .methodLinkNest "AddedLetters" 199 ⟨"AddedLetters$Paper", "writeSum", "(II)V"⟩ "AddedLetters", .methodLinkNest "AddedLetters" 202 ⟨"AddedLetters$Paper", "answer", "(I)I"⟩ "AddedLetters", .methodLinkNest "AddedLetters" 205 ⟨"AddedLetters$Paper", "writeRows", "(LAddedLetters$Node;I)V"⟩ "AddedLetters", .methodLinkNest "AddedLetters$Paper" 39 ⟨"AddedLetters$Node", "cell", "(II)I"⟩ "AddedLetters"]
def zNestW : Cond → Bool
  | .fieldLinkNest .. => true
  | .methodLinkNest .. => true
  | _ => false
theorem zNest_ok : zNest.all zNestW = true := by decide +kernel
theorem zNest_warm {w : Cond} (h : zNestW w = true) {s U : State} (hW : s.WarmedH U.vm) (hZ : va_Nw w s) : va_Nw w U := by
  cases w <;> first | (simp [zNestW] at h; done) | exact va_Nw.warmF hW hZ | exact va_Nw.warmM hW hZ
theorem zNest_same {w : Cond} (h : zNestW w = true) {s U : State} (hW : s.vm = U.vm) (hZ : va_Nw w s) : va_Nw w U := by
  cases w <;> first | (simp [zNestW] at h; done) | exact va_Nw.same rfl hW hZ
def zKn (g : zG) (U : State) : Prop := va_K g.2.2 vwCl (zTys g) U ∧ ∀ w ∈ zNest, va_Nw w U
theorem zKn.warm {g : zG} {s U : State} (h : zKn g s) (hW : s.WarmedH U.vm) : zKn g U := ⟨va_K.moved hW.alike h.1, fun w hw => zNest_warm (List.all_eq_true.mp zNest_ok w hw) hW (h.2 w hw)⟩
theorem zKn.same {g : zG} {s U : State} (h : zKn g s) (hW : s.vm = U.vm) : zKn g U := ⟨va_K.moved (by rw [hW]; exact Vm.Alike.refl U.vm) h.1, fun w hw => zNest_same (List.all_eq_true.mp zNest_ok w hw) hW (h.2 w hw)⟩
/-! ids -/
theorem zIds_mem {k i : Nat} (h : i < zLim k) : (k, i) ∈ zIds := by
  have hk : k < 37 := by
    unfold zLim at h
    repeat' split at h
    all_goals omega
  exact List.mem_flatMap.mpr ⟨k, List.mem_range.mpr hk, List.mem_map.mpr ⟨i, List.mem_range.mpr h, rfl⟩⟩
theorem zIds_nd : zIds.Nodup := by decide +kernel
theorem zW_at {g : zG} {σ : zS} {k i : Nat} (h : i < zLim k) : ∃ q : Nat, zIds[q]? = some (k, i) ∧ (zW g σ)[q]? = some (g.1 k i, zC g (σ k i) k i) := by
  obtain ⟨q, hq⟩ := List.getElem?_of_mem (zIds_mem h)
  exact ⟨q, hq, by unfold zW; rw [List.getElem?_map, hq]; rfl⟩
theorem zW_set {g : zG} {σ σ' : zS} {k i q : Nat} {e : va_E} (hq : zIds[q]? = some (k, i)) (he : zC g (σ' k i) k i = e) (ho : ∀ a b, (a, b) ≠ (k, i) → σ' a b = σ a b) : (zW g σ).set q (g.1 k i, e) = zW g σ' := by
  apply List.ext_getElem?
  intro j
  have hl : q < (zW g σ).length := by unfold zW; rw [List.length_map]; exact (List.getElem?_eq_some_iff.mp hq).1
  by_cases hj : j = q
  · subst hj
    rw [List.getElem?_set_self hl]
    unfold zW
    rw [List.getElem?_map, hq, ← he]
    rfl
  · rw [List.getElem?_set_ne (Ne.symm hj)]
    unfold zW
    rw [List.getElem?_map, List.getElem?_map]
    cases hz : zIds[j]? with
    | none => rfl
    | some x =>
      have hne : x ≠ (k, i) := by
        intro hx
        subst hx
        exact hj ((List.getElem?_inj (List.getElem?_eq_some_iff.mp hz).1 zIds_nd).mp (hz.trans hq.symm))
      show some (g.1 x.1 x.2, zC g (σ x.1 x.2) x.1 x.2) = some (g.1 x.1 x.2, zC g (σ' x.1 x.2) x.1 x.2)
      rw [ho x.1 x.2 hne]
theorem zD_any {g : zG} {A : Nat → Prop} {σ σ' : zS} (h : va_D A (zW g σ)) : va_D A (zW g σ') := by
  have key : ∀ (n : Nat) (q : Nat × va_E), (zW g σ')[n]? = some q → ∃ q0, (zW g σ)[n]? = some q0 ∧ q0.1 = q.1 := by
    intro n q hn
    unfold zW at hn ⊢
    rw [List.getElem?_map] at hn ⊢
    cases hz : zIds[n]? with
    | none => rw [hz] at hn; cases hn
    | some x => rw [hz] at hn; cases hn; exact ⟨_, rfl, rfl⟩
  refine ⟨fun i j x y hi hj hxy => ?_, fun n q hn => ?_⟩
  · obtain ⟨x0, h1, h2⟩ := key i x hi
    obtain ⟨y0, h3, h4⟩ := key j y hj
    exact h.1 i j x0 y0 h1 h3 (h2.trans (hxy.trans h4.symm))
  · obtain ⟨q0, h1, h2⟩ := key n q hn
    rw [← h2]; exact h.2 n q0 h1
theorem zU_at {σ : zS} {k i j : Nat} {v : Int32} : zU σ k i j v k i = upd (σ k i) j v := by unfold zU; rw [if_pos ⟨rfl, rfl⟩]
theorem zU_ne {σ : zS} {k i j : Nat} {v : Int32} : ∀ a b, (a, b) ≠ (k, i) → zU σ k i j v a b = σ a b := by
  intro a b h
  unfold zU
  rw [if_neg (fun q => h (by rw [q.1, q.2]))]
/-! locals -/
def zL (ls : Array Slot) (nL : Nat) (lv : List (Option Value)) : Prop := ls.size = nL ∧ lv_wf ls ∧ (∀ (i : Nat) (v : Value), lv[i]? = some (some v) → ls[i]? = some (.val v)) ∧ lv.length = nL ∧ ∀ (i : Nat) (v : Value), lv[i]? = some (some v) → v.category = 1
def zPr (lv : List (Option Value)) : List (Nat × Value) := (List.range lv.length).filterMap (fun i => match lv[i]? with | some (some v) => some (i, v) | _ => none)
theorem zPr_mem {lv : List (Option Value)} {i : Nat} {v : Value} : (i, v) ∈ zPr lv ↔ lv[i]? = some (some v) := by
  unfold zPr
  rw [List.mem_filterMap]
  constructor
  · rintro ⟨j, hj, h⟩
    split at h
    · next w hw => cases h; exact hw
    · cases h
  · intro h
    refine ⟨i, List.mem_range.mpr (List.getElem?_eq_some_iff.mp h).1, ?_⟩
    rw [h]
theorem zL.has {ls : Array Slot} {nL : Nat} {lv : List (Option Value)} (h : zL ls nL lv) : lv_has ls nL (zPr lv) := ⟨h.1, h.2.1, fun q hq => h.2.2.1 q.1 q.2 (zPr_mem.mp (by cases q; exact hq))⟩
theorem zL.store {ls ls' : Array Slot} {nL i : Nat} {lv lv' : List (Option Value)} {v : Value} (h : zL ls nL lv) (hc : v.category = 1) (hi : i < nL) (hs : lv.set i (some v) = lv') (h' : lv_has ls' nL ((i, v) :: (zPr lv).filter (fun q => !(q.1 == i) && !(q.1 + 1 == i && q.2.category == 2)))) : zL ls' nL lv' := by
  subst hs
  have hlen : i < lv.length := by rw [h.2.2.2.1]; exact hi
  have key : ∀ (j : Nat) (w : Value), (lv.set i (some v))[j]? = some (some w) → (j = i ∧ w = v) ∨ (j ≠ i ∧ lv[j]? = some (some w)) := by
    intro j w hj
    by_cases e : j = i
    · subst e
      rw [List.getElem?_set_self hlen] at hj
      cases hj
      exact Or.inl ⟨rfl, rfl⟩
    · rw [List.getElem?_set_ne (Ne.symm e)] at hj
      exact Or.inr ⟨e, hj⟩
  refine ⟨h'.1, h'.2.1, fun j w hj => ?_, by rw [List.length_set]; exact h.2.2.2.1, fun j w hj => ?_⟩
  · rcases key j w hj with ⟨rfl, rfl⟩ | ⟨e, hj⟩
    · exact h'.2.2 (j, w) List.mem_cons_self
    · refine h'.2.2 (j, w) (List.mem_cons_of_mem _ (List.mem_filter.mpr ⟨zPr_mem.mpr hj, ?_⟩))
      have hc2 := h.2.2.2.2 j w hj
      simp [e, hc2]
  · rcases key j w hj with ⟨rfl, rfl⟩ | ⟨e, hj⟩
    · exact hc
    · exact h.2.2.2.2 j w hj
/-! the judgement -/
def ZO (K : zX) {α : Type} (t : α) (pc : Nat) (lv : List (Option Value)) (st : List Value) (σ : zS) (o : Option α) : Prop := match K with
  | (p, l, e, R, s, m, args, below, meth, c, Q, g, A, nL, nc, ns) => o = some t → ∀ (H : Heap) (locs : List Loc) (ls : Array Slot), va_P g.2.2 vwCl (zW g σ) H → va_S A s.heap H locs → zL ls nL lv → W p l e R s m args below meth c H locs nc ns Q (F0 m pc ls st)
/-- what is fixed in a method -/
def zF (K : zX) (cc : ByteArray) (own : String) (ret : Option FieldType) : Prop := match K with
  | (p, _, _, R, s, m, args, _, meth, c, _, g, A, nL, nc, ns) => p.tables.exec = Jvm.exec ∧ c.code = cc ∧ c.maxLocals = nL ∧ s.vm.findClass own = some m.cls ∧ (∀ w ∈ zT, w.before args s = true) ∧ zKn g s ∧ va_D A (zW g (fun _ _ _ => 0)) ∧ (∀ q, s.heap.size ≤ q → A q) ∧ meth.sig.returnType = ret ∧ meth.locks = false ∧ nc ≤ R.cells ∧ ns ≤ R.slots
def zB {α β : Type} (x : α) (k : α → Option β) : Option β := k x
def zIx {α : Type} (i : Int32) (n : Nat) (o : Option α) : Option α := if i < 0 ∨ n ≤ i.toNatClampNeg then none else o
def zGd {α : Type} (c : Prop) [Decidable c] (o : Option α) : Option α := if c then o else none
def zSt (l : Launch) : Prop := l = l
section ZR
variable {K : zX} {α : Type} {t : α} {pc : Nat} {lv : List (Option Value)} {st : List Value} {σ : zS} {o o1 o2 : Option α} {cc : ByteArray} {own : String} {ret : Option FieldType}
theorem z_none : ZO K t pc lv st σ none := by
  obtain ⟨p, l, e, R, s, m, args, below, meth, c, Q, g, A, nL, nc, ns⟩ := K
  intro h
  cases h
theorem z_ix {i : Int32} {n : Nat} (k : vp_in i n → ZO K t pc lv st σ o) : ZO K t pc lv st σ (zIx i n o) := by
  unfold zIx
  by_cases h : i < 0 ∨ n ≤ i.toNatClampNeg
  · rw [if_pos h]; exact z_none
  · rw [if_neg h]; exact k h
theorem z_gd {q : Prop} [Decidable q] (k : q → ZO K t pc lv st σ o) : ZO K t pc lv st σ (zGd q o) := by
  unfold zGd
  by_cases h : q
  · rw [if_pos h]; exact k h
  · rw [if_neg h]; exact z_none
theorem z_B {β : Type} {x : β} {k : β → Option α} (kk : ∀ y, ZO K t pc lv st σ (k y)) : ZO K t pc lv st σ (zB x k) := kk x

theorem z_iconst (F : zF K cc own ret) {n : Int} {v : Int32} (d : decode cc pc = .ok (.iconst n, 1)) (hv : Int32.ofInt n = v) (kk : ZO K t (pc + 1) lv (.int v :: st) σ o) : ZO K t pc lv st σ o := by
  obtain ⟨p, l, e, R, s, m, args, below, meth, c, Q, g, A, nL, nc, ns⟩ := K
  intro ho H locs ls hP hS hl
  exact lv_iconst F.1 F.2.1 d hv (kk ho H locs ls hP hS hl)
theorem z_bipush (F : zF K cc own ret) {n : Int} {v : Int32} (d : decode cc pc = .ok (.bipush n, 2)) (hv : (Int8.ofInt n).toInt32 = v) (kk : ZO K t (pc + 2) lv (.int v :: st) σ o) : ZO K t pc lv st σ o := by
  obtain ⟨p, l, e, R, s, m, args, below, meth, c, Q, g, A, nL, nc, ns⟩ := K
  intro ho H locs ls hP hS hl
  exact lv_bipush F.1 F.2.1 d hv (kk ho H locs ls hP hS hl)
theorem z_sipush (F : zF K cc own ret) {n : Int} {v : Int32} (d : decode cc pc = .ok (.sipush n, 3)) (hv : (Int16.ofInt n).toInt32 = v) (kk : ZO K t (pc + 3) lv (.int v :: st) σ o) : ZO K t pc lv st σ o := by
  obtain ⟨p, l, e, R, s, m, args, below, meth, c, Q, g, A, nL, nc, ns⟩ := K
  intro ho H locs ls hP hS hl
  exact lv_sipush F.1 F.2.1 d hv (kk ho H locs ls hP hS hl)
theorem z_iload_n (F : zF K cc own ret) {x : Int32} {k : Fin 4} (d : decode cc pc = .ok (.iload_n k, 1)) (h : lv[(k : Nat)]? = some (some (.int x))) (kk : ZO K t (pc + 1) lv (.int x :: st) σ o) : ZO K t pc lv st σ o := by
  obtain ⟨p, l, e, R, s, m, args, below, meth, c, Q, g, A, nL, nc, ns⟩ := K
  intro ho H locs ls hP hS hl
  exact lv_iload_n F.1 F.2.1 d rfl (hl.2.2.1 _ _ h) (kk ho H locs ls hP hS hl)
theorem z_iload (F : zF K cc own ret) {x : Int32} {i : Nat} (d : decode cc pc = .ok (.iload i, 2)) (h : lv[i]? = some (some (.int x))) (kk : ZO K t (pc + 2) lv (.int x :: st) σ o) : ZO K t pc lv st σ o := by
  obtain ⟨p, l, e, R, s, m, args, below, meth, c, Q, g, A, nL, nc, ns⟩ := K
  intro ho H locs ls hP hS hl
  exact lv_iload F.1 F.2.1 d (hl.2.2.1 _ _ h) (kk ho H locs ls hP hS hl)
theorem z_aload_n (F : zF K cc own ret) {x : Nat} {k : Fin 4} (d : decode cc pc = .ok (.aload_n k, 1)) (h : lv[(k : Nat)]? = some (some (.ref x))) (kk : ZO K t (pc + 1) lv (.ref x :: st) σ o) : ZO K t pc lv st σ o := by
  obtain ⟨p, l, e, R, s, m, args, below, meth, c, Q, g, A, nL, nc, ns⟩ := K
  intro ho H locs ls hP hS hl
  exact lv_aload_n F.1 F.2.1 d rfl (hl.2.2.1 _ _ h) (kk ho H locs ls hP hS hl)
theorem z_aload (F : zF K cc own ret) {x : Nat} {i : Nat} (d : decode cc pc = .ok (.aload i, 2)) (h : lv[i]? = some (some (.ref x))) (kk : ZO K t (pc + 2) lv (.ref x :: st) σ o) : ZO K t pc lv st σ o := by
  obtain ⟨p, l, e, R, s, m, args, below, meth, c, Q, g, A, nL, nc, ns⟩ := K
  intro ho H locs ls hP hS hl
  exact lv_aload F.1 F.2.1 d (hl.2.2.1 _ _ h) (kk ho H locs ls hP hS hl)
theorem z_aload_nN (F : zF K cc own ret) {k : Fin 4} (d : decode cc pc = .ok (.aload_n k, 1)) (h : lv[(k : Nat)]? = some (some .null)) (kk : ZO K t (pc + 1) lv (.null :: st) σ o) : ZO K t pc lv st σ o := by
  obtain ⟨p, l, e, R, s, m, args, below, meth, c, Q, g, A, nL, nc, ns⟩ := K
  intro ho H locs ls hP hS hl
  exact lv_aload_nN F.1 F.2.1 d rfl (hl.2.2.1 _ _ h) (kk ho H locs ls hP hS hl)
theorem z_aloadN (F : zF K cc own ret) {i : Nat} (d : decode cc pc = .ok (.aload i, 2)) (h : lv[i]? = some (some .null)) (kk : ZO K t (pc + 2) lv (.null :: st) σ o) : ZO K t pc lv st σ o := by
  obtain ⟨p, l, e, R, s, m, args, below, meth, c, Q, g, A, nL, nc, ns⟩ := K
  intro ho H locs ls hP hS hl
  exact lv_aloadN F.1 F.2.1 d (hl.2.2.1 _ _ h) (kk ho H locs ls hP hS hl)
theorem z_istore_n (F : zF K cc own ret) {x : Int32} {k : Fin 4} {lv' : List (Option Value)} (d : decode cc pc = .ok (.istore_n k, 1)) (hn : (k : Nat) < lv.length) (hs : lv.set (k : Nat) (some (.int x)) = lv') (kk : ZO K t (pc + 1) lv' st σ o) : ZO K t pc lv (.int x :: st) σ o := by
  obtain ⟨p, l, e, R, s, m, args, below, meth, c, Q, g, A, nL, nc, ns⟩ := K
  intro ho H locs ls hP hS hl
  exact lv_istore_n F.1 F.2.1 d rfl hl.has (by rw [← hl.2.2.2.1]; exact hn) rfl (fun ls' h' => kk ho H locs ls' hP hS (hl.store rfl (by rw [← hl.2.2.2.1]; exact hn) hs h'))
theorem z_istore (F : zF K cc own ret) {x : Int32} {i : Nat} {lv' : List (Option Value)} (d : decode cc pc = .ok (.istore i, 2)) (hn : i < lv.length) (hs : lv.set i (some (.int x)) = lv') (kk : ZO K t (pc + 2) lv' st σ o) : ZO K t pc lv (.int x :: st) σ o := by
  obtain ⟨p, l, e, R, s, m, args, below, meth, c, Q, g, A, nL, nc, ns⟩ := K
  intro ho H locs ls hP hS hl
  exact lv_istore F.1 F.2.1 d hl.has (by rw [← hl.2.2.2.1]; exact hn) rfl (fun ls' h' => kk ho H locs ls' hP hS (hl.store rfl (by rw [← hl.2.2.2.1]; exact hn) hs h'))
theorem z_astore_n (F : zF K cc own ret) {x : Nat} {k : Fin 4} {lv' : List (Option Value)} (d : decode cc pc = .ok (.astore_n k, 1)) (hn : (k : Nat) < lv.length) (hs : lv.set (k : Nat) (some (.ref x)) = lv') (kk : ZO K t (pc + 1) lv' st σ o) : ZO K t pc lv (.ref x :: st) σ o := by
  obtain ⟨p, l, e, R, s, m, args, below, meth, c, Q, g, A, nL, nc, ns⟩ := K
  intro ho H locs ls hP hS hl
  exact lv_astore_n F.1 F.2.1 d rfl hl.has (by rw [← hl.2.2.2.1]; exact hn) rfl (fun ls' h' => kk ho H locs ls' hP hS (hl.store rfl (by rw [← hl.2.2.2.1]; exact hn) hs h'))
theorem z_astore (F : zF K cc own ret) {x : Nat} {i : Nat} {lv' : List (Option Value)} (d : decode cc pc = .ok (.astore i, 2)) (hn : i < lv.length) (hs : lv.set i (some (.ref x)) = lv') (kk : ZO K t (pc + 2) lv' st σ o) : ZO K t pc lv (.ref x :: st) σ o := by
  obtain ⟨p, l, e, R, s, m, args, below, meth, c, Q, g, A, nL, nc, ns⟩ := K
  intro ho H locs ls hP hS hl
  exact lv_astore F.1 F.2.1 d hl.has (by rw [← hl.2.2.2.1]; exact hn) rfl (fun ls' h' => kk ho H locs ls' hP hS (hl.store rfl (by rw [← hl.2.2.2.1]; exact hn) hs h'))
theorem z_iadd (F : zF K cc own ret) {x y : Int32} (d : decode cc pc = .ok (.iadd, 1)) (kk : ZO K t (pc + 1) lv (.int (x + y) :: st) σ o) : ZO K t pc lv (.int y :: .int x :: st) σ o := by
  obtain ⟨p, l, e, R, s, m, args, below, meth, c, Q, g, A, nL, nc, ns⟩ := K
  intro ho H locs ls hP hS hl
  exact lv_iadd F.1 F.2.1 d (kk ho H locs ls hP hS hl)
theorem z_isub (F : zF K cc own ret) {x y : Int32} (d : decode cc pc = .ok (.isub, 1)) (kk : ZO K t (pc + 1) lv (.int (x - y) :: st) σ o) : ZO K t pc lv (.int y :: .int x :: st) σ o := by
  obtain ⟨p, l, e, R, s, m, args, below, meth, c, Q, g, A, nL, nc, ns⟩ := K
  intro ho H locs ls hP hS hl
  exact lv_isub F.1 F.2.1 d (kk ho H locs ls hP hS hl)
theorem z_imul (F : zF K cc own ret) {x y : Int32} (d : decode cc pc = .ok (.imul, 1)) (kk : ZO K t (pc + 1) lv (.int (x * y) :: st) σ o) : ZO K t pc lv (.int y :: .int x :: st) σ o := by
  obtain ⟨p, l, e, R, s, m, args, below, meth, c, Q, g, A, nL, nc, ns⟩ := K
  intro ho H locs ls hP hS hl
  exact lv_imul F.1 F.2.1 d (kk ho H locs ls hP hS hl)
theorem z_iand (F : zF K cc own ret) {x y : Int32} (d : decode cc pc = .ok (.iand, 1)) (kk : ZO K t (pc + 1) lv (.int (x &&& y) :: st) σ o) : ZO K t pc lv (.int y :: .int x :: st) σ o := by
  obtain ⟨p, l, e, R, s, m, args, below, meth, c, Q, g, A, nL, nc, ns⟩ := K
  intro ho H locs ls hP hS hl
  exact lv_iand F.1 F.2.1 d (kk ho H locs ls hP hS hl)
theorem z_ior (F : zF K cc own ret) {x y : Int32} (d : decode cc pc = .ok (.ior, 1)) (kk : ZO K t (pc + 1) lv (.int (x ||| y) :: st) σ o) : ZO K t pc lv (.int y :: .int x :: st) σ o := by
  obtain ⟨p, l, e, R, s, m, args, below, meth, c, Q, g, A, nL, nc, ns⟩ := K
  intro ho H locs ls hP hS hl
  exact lv_ior F.1 F.2.1 d (kk ho H locs ls hP hS hl)
theorem z_ixor (F : zF K cc own ret) {x y : Int32} (d : decode cc pc = .ok (.ixor, 1)) (kk : ZO K t (pc + 1) lv (.int (x ^^^ y) :: st) σ o) : ZO K t pc lv (.int y :: .int x :: st) σ o := by
  obtain ⟨p, l, e, R, s, m, args, below, meth, c, Q, g, A, nL, nc, ns⟩ := K
  intro ho H locs ls hP hS hl
  exact lv_ixor F.1 F.2.1 d (kk ho H locs ls hP hS hl)
theorem z_ishl (F : zF K cc own ret) {x y : Int32} (d : decode cc pc = .ok (.ishl, 1)) (kk : ZO K t (pc + 1) lv (.int (x <<< (y &&& 31)) :: st) σ o) : ZO K t pc lv (.int y :: .int x :: st) σ o := by
  obtain ⟨p, l, e, R, s, m, args, below, meth, c, Q, g, A, nL, nc, ns⟩ := K
  intro ho H locs ls hP hS hl
  exact lv_ishl F.1 F.2.1 d (kk ho H locs ls hP hS hl)
theorem z_ishr (F : zF K cc own ret) {x y : Int32} (d : decode cc pc = .ok (.ishr, 1)) (kk : ZO K t (pc + 1) lv (.int (x >>> (y &&& 31)) :: st) σ o) : ZO K t pc lv (.int y :: .int x :: st) σ o := by
  obtain ⟨p, l, e, R, s, m, args, below, meth, c, Q, g, A, nL, nc, ns⟩ := K
  intro ho H locs ls hP hS hl
  exact lv_ishr F.1 F.2.1 d (kk ho H locs ls hP hS hl)
theorem z_iushr (F : zF K cc own ret) {x y : Int32} (d : decode cc pc = .ok (.iushr, 1)) (kk : ZO K t (pc + 1) lv (.int ((x.toUInt32 >>> (y.toUInt32 &&& Int32.toUInt32 31)).toInt32) :: st) σ o) : ZO K t pc lv (.int y :: .int x :: st) σ o := by
  obtain ⟨p, l, e, R, s, m, args, below, meth, c, Q, g, A, nL, nc, ns⟩ := K
  intro ho H locs ls hP hS hl
  exact lv_iushr F.1 F.2.1 d rfl (kk ho H locs ls hP hS hl)
theorem z_idiv (F : zF K cc own ret) {x y : Int32} (hne : ¬ y = 0) (d : decode cc pc = .ok (.idiv, 1)) (kk : ZO K t (pc + 1) lv (.int (x / y) :: st) σ o) : ZO K t pc lv (.int y :: .int x :: st) σ o := by
  obtain ⟨p, l, e, R, s, m, args, below, meth, c, Q, g, A, nL, nc, ns⟩ := K
  intro ho H locs ls hP hS hl
  exact lv_idiv F.1 F.2.1 d hne (kk ho H locs ls hP hS hl)
theorem z_irem (F : zF K cc own ret) {x y : Int32} (hne : ¬ y = 0) (d : decode cc pc = .ok (.irem, 1)) (kk : ZO K t (pc + 1) lv (.int (x - x / y * y) :: st) σ o) : ZO K t pc lv (.int y :: .int x :: st) σ o := by
  obtain ⟨p, l, e, R, s, m, args, below, meth, c, Q, g, A, nL, nc, ns⟩ := K
  intro ho H locs ls hP hS hl
  exact lv_irem F.1 F.2.1 d hne (kk ho H locs ls hP hS hl)
theorem z_ineg (F : zF K cc own ret) {x : Int32} (d : decode cc pc = .ok (.ineg, 1)) (kk : ZO K t (pc + 1) lv (.int (-x) :: st) σ o) : ZO K t pc lv (.int x :: st) σ o := by
  obtain ⟨p, l, e, R, s, m, args, below, meth, c, Q, g, A, nL, nc, ns⟩ := K
  intro ho H locs ls hP hS hl
  exact lv_ineg F.1 F.2.1 d (kk ho H locs ls hP hS hl)
theorem z_dup (F : zF K cc own ret) {v : Value} (d : decode cc pc = .ok (.dup, 1)) (hc : v.category = 1) (kk : ZO K t (pc + 1) lv (v :: v :: st) σ o) : ZO K t pc lv (v :: st) σ o := by
  obtain ⟨p, l, e, R, s, m, args, below, meth, c, Q, g, A, nL, nc, ns⟩ := K
  intro ho H locs ls hP hS hl
  exact lv_dup F.1 F.2.1 d hc (kk ho H locs ls hP hS hl)
theorem z_pop (F : zF K cc own ret) {v : Value} (d : decode cc pc = .ok (.pop, 1)) (hc : v.category = 1) (kk : ZO K t (pc + 1) lv st σ o) : ZO K t pc lv (v :: st) σ o := by
  obtain ⟨p, l, e, R, s, m, args, below, meth, c, Q, g, A, nL, nc, ns⟩ := K
  intro ho H locs ls hP hS hl
  exact lv_pop F.1 F.2.1 d hc (kk ho H locs ls hP hS hl)
theorem z_dup2 (F : zF K cc own ret) {v w : Value} (d : decode cc pc = .ok (.dup2, 1)) (hc : v.category = 1) (hd : w.category = 1) (kk : ZO K t (pc + 1) lv (v :: w :: v :: w :: st) σ o) : ZO K t pc lv (v :: w :: st) σ o := by
  obtain ⟨p, l, e, R, s, m, args, below, meth, c, Q, g, A, nL, nc, ns⟩ := K
  intro ho H locs ls hP hS hl
  exact lv_dup2_11 F.1 F.2.1 d hc hd (kk ho H locs ls hP hS hl)
theorem z_goto (F : zF K cc own ret) {off : Int} (tgt : Nat) (d : decode cc pc = .ok (.goto off, 3)) (ht : (pc : Int) + off = (tgt : Int)) (kk : ZO K t tgt lv st σ o) : ZO K t pc lv st σ o := by
  obtain ⟨p, l, e, R, s, m, args, below, meth, c, Q, g, A, nL, nc, ns⟩ := K
  intro ho H locs ls hP hS hl
  exact lv_goto F.1 F.2.1 d ht (kk ho H locs ls hP hS hl)
theorem z_null (F : zF K cc own ret) (d : decode cc pc = .ok (.aconst_null, 1)) (kk : ZO K t (pc + 1) lv (.null :: st) σ o) : ZO K t pc lv st σ o := by
  obtain ⟨p, l, e, R, s, m, args, below, meth, c, Q, g, A, nL, nc, ns⟩ := K
  intro ho H locs ls hP hS hl
  exact lv_null F.1 F.2.1 d (kk ho H locs ls hP hS hl)
theorem z_ifnullN (F : zF K cc own ret) {off : Int} (tgt : Nat) (d : decode cc pc = .ok (.ifnull off, 3)) (ht : (pc : Int) + off = (tgt : Int)) (kk : ZO K t tgt lv st σ o) : ZO K t pc lv (.null :: st) σ o := by
  obtain ⟨p, l, e, R, s, m, args, below, meth, c, Q, g, A, nL, nc, ns⟩ := K
  intro ho H locs ls hP hS hl
  exact lv_ifnullN F.1 F.2.1 d ht (kk ho H locs ls hP hS hl)
theorem z_ifnonnullN (F : zF K cc own ret) {off : Int} (d : decode cc pc = .ok (.ifnonnull off, 3)) (kk : ZO K t (pc + 3) lv st σ o) : ZO K t pc lv (.null :: st) σ o := by
  obtain ⟨p, l, e, R, s, m, args, below, meth, c, Q, g, A, nL, nc, ns⟩ := K
  intro ho H locs ls hP hS hl
  exact lv_ifnonnullN F.1 F.2.1 d (kk ho H locs ls hP hS hl)
theorem z_ifnull (F : zF K cc own ret) {x : Nat} {off : Int} (d : decode cc pc = .ok (.ifnull off, 3)) (kk : ZO K t (pc + 3) lv st σ o) : ZO K t pc lv (.ref x :: st) σ o := by
  obtain ⟨p, l, e, R, s, m, args, below, meth, c, Q, g, A, nL, nc, ns⟩ := K
  intro ho H locs ls hP hS hl
  exact lv_ifnull F.1 F.2.1 d (kk ho H locs ls hP hS hl)
theorem z_ifnonnull (F : zF K cc own ret) {x : Nat} {off : Int} (tgt : Nat) (d : decode cc pc = .ok (.ifnonnull off, 3)) (ht : (pc : Int) + off = (tgt : Int)) (kk : ZO K t tgt lv st σ o) : ZO K t pc lv (.ref x :: st) σ o := by
  obtain ⟨p, l, e, R, s, m, args, below, meth, c, Q, g, A, nL, nc, ns⟩ := K
  intro ho H locs ls hP hS hl
  exact lv_ifnonnull F.1 F.2.1 d ht (kk ho H locs ls hP hS hl)
theorem z_iinc (F : zF K cc own ret) {i : Nat} {n : Int} {x : Int32} (v : Int32) {lv' : List (Option Value)} (d : decode cc pc = .ok (.iinc i n, 3)) (h : lv[i]? = some (some (.int x))) (hv : x + Int32.ofInt n = v) (hs : lv.set i (some (.int v)) = lv') (kk : ZO K t (pc + 3) lv' st σ o) : ZO K t pc lv st σ o := by
  obtain ⟨p, l, e, R, s, m, args, below, meth, c, Q, g, A, nL, nc, ns⟩ := K
  intro ho H locs ls hP hS hl
  obtain ⟨q, hq⟩ := List.getElem?_of_mem (zPr_mem.mpr h)
  have hn : i < nL := by rw [← hl.2.2.2.1]; exact (List.getElem?_eq_some_iff.mp h).1
  exact lv_iinc F.1 F.2.1 d hl.has hq hv hn rfl (fun ls' h' => kk ho H locs ls' hP hS (hl.store rfl hn hs h'))
theorem z_if_eq (F : zF K cc own ret) {x : Int32} {off : Int} (tgt : Nat) (d : decode cc pc = .ok (.ifCond .eq off, 3)) (ht : (pc : Int) + off = (tgt : Int)) (kt : x = 0 → ZO K t tgt lv st σ o1) (kf : ¬ x = 0 → ZO K t (pc + 3) lv st σ o2) : ZO K t pc lv (.int x :: st) σ (if x = 0 then o1 else o2) := by
  obtain ⟨p, l, e, R, s, m, args, below, meth, c, Q, g, A, nL, nc, ns⟩ := K
  intro ho H locs ls hP hS hl
  exact lv_if_eq F.1 F.2.1 d ht (fun h => kt h (by rw [if_pos h] at ho; exact ho) H locs ls hP hS hl) (fun h => kf h (by rw [if_neg h] at ho; exact ho) H locs ls hP hS hl)
theorem z_if_lt (F : zF K cc own ret) {x : Int32} {off : Int} (tgt : Nat) (d : decode cc pc = .ok (.ifCond .lt off, 3)) (ht : (pc : Int) + off = (tgt : Int)) (kt : x < 0 → ZO K t tgt lv st σ o1) (kf : ¬ x < 0 → ZO K t (pc + 3) lv st σ o2) : ZO K t pc lv (.int x :: st) σ (if x < 0 then o1 else o2) := by
  obtain ⟨p, l, e, R, s, m, args, below, meth, c, Q, g, A, nL, nc, ns⟩ := K
  intro ho H locs ls hP hS hl
  exact lv_if_lt F.1 F.2.1 d ht (fun h => kt h (by rw [if_pos h] at ho; exact ho) H locs ls hP hS hl) (fun h => kf h (by rw [if_neg h] at ho; exact ho) H locs ls hP hS hl)
theorem z_if_ge (F : zF K cc own ret) {x : Int32} {off : Int} (tgt : Nat) (d : decode cc pc = .ok (.ifCond .ge off, 3)) (ht : (pc : Int) + off = (tgt : Int)) (kt : 0 ≤ x → ZO K t tgt lv st σ o1) (kf : ¬ 0 ≤ x → ZO K t (pc + 3) lv st σ o2) : ZO K t pc lv (.int x :: st) σ (if 0 ≤ x then o1 else o2) := by
  obtain ⟨p, l, e, R, s, m, args, below, meth, c, Q, g, A, nL, nc, ns⟩ := K
  intro ho H locs ls hP hS hl
  exact lv_if_ge F.1 F.2.1 d ht (fun h => kt h (by rw [if_pos h] at ho; exact ho) H locs ls hP hS hl) (fun h => kf h (by rw [if_neg h] at ho; exact ho) H locs ls hP hS hl)
theorem z_if_gt (F : zF K cc own ret) {x : Int32} {off : Int} (tgt : Nat) (d : decode cc pc = .ok (.ifCond .gt off, 3)) (ht : (pc : Int) + off = (tgt : Int)) (kt : 0 < x → ZO K t tgt lv st σ o1) (kf : ¬ 0 < x → ZO K t (pc + 3) lv st σ o2) : ZO K t pc lv (.int x :: st) σ (if 0 < x then o1 else o2) := by
  obtain ⟨p, l, e, R, s, m, args, below, meth, c, Q, g, A, nL, nc, ns⟩ := K
  intro ho H locs ls hP hS hl
  exact lv_if_gt F.1 F.2.1 d ht (fun h => kt h (by rw [if_pos h] at ho; exact ho) H locs ls hP hS hl) (fun h => kf h (by rw [if_neg h] at ho; exact ho) H locs ls hP hS hl)
theorem z_if_le (F : zF K cc own ret) {x : Int32} {off : Int} (tgt : Nat) (d : decode cc pc = .ok (.ifCond .le off, 3)) (ht : (pc : Int) + off = (tgt : Int)) (kt : x ≤ 0 → ZO K t tgt lv st σ o1) (kf : ¬ x ≤ 0 → ZO K t (pc + 3) lv st σ o2) : ZO K t pc lv (.int x :: st) σ (if x ≤ 0 then o1 else o2) := by
  obtain ⟨p, l, e, R, s, m, args, below, meth, c, Q, g, A, nL, nc, ns⟩ := K
  intro ho H locs ls hP hS hl
  exact lv_if_le F.1 F.2.1 d ht (fun h => kt h (by rw [if_pos h] at ho; exact ho) H locs ls hP hS hl) (fun h => kf h (by rw [if_neg h] at ho; exact ho) H locs ls hP hS hl)
theorem z_if_ne (F : zF K cc own ret) {x : Int32} {off : Int} (tgt : Nat) (d : decode cc pc = .ok (.ifCond .ne off, 3)) (ht : (pc : Int) + off = (tgt : Int)) (kt : ¬ x = 0 → ZO K t tgt lv st σ o1) (kf : x = 0 → ZO K t (pc + 3) lv st σ o2) : ZO K t pc lv (.int x :: st) σ (if x = 0 then o2 else o1) := by
  obtain ⟨p, l, e, R, s, m, args, below, meth, c, Q, g, A, nL, nc, ns⟩ := K
  intro ho H locs ls hP hS hl
  exact lv_if_ne F.1 F.2.1 d ht (fun h => kt h (by rw [if_neg h] at ho; exact ho) H locs ls hP hS hl) (fun h => kf h (by rw [if_pos h] at ho; exact ho) H locs ls hP hS hl)
theorem z_icmp_eq (F : zF K cc own ret) {x y : Int32} {off : Int} (tgt : Nat) (d : decode cc pc = .ok (.if_icmp .eq off, 3)) (ht : (pc : Int) + off = (tgt : Int)) (kt : x = y → ZO K t tgt lv st σ o1) (kf : ¬ x = y → ZO K t (pc + 3) lv st σ o2) : ZO K t pc lv (.int y :: .int x :: st) σ (if x = y then o1 else o2) := by
  obtain ⟨p, l, e, R, s, m, args, below, meth, c, Q, g, A, nL, nc, ns⟩ := K
  intro ho H locs ls hP hS hl
  exact lv_icmp_eq F.1 F.2.1 d ht (fun h => kt h (by rw [if_pos h] at ho; exact ho) H locs ls hP hS hl) (fun h => kf h (by rw [if_neg h] at ho; exact ho) H locs ls hP hS hl)
theorem z_icmp_lt (F : zF K cc own ret) {x y : Int32} {off : Int} (tgt : Nat) (d : decode cc pc = .ok (.if_icmp .lt off, 3)) (ht : (pc : Int) + off = (tgt : Int)) (kt : x < y → ZO K t tgt lv st σ o1) (kf : ¬ x < y → ZO K t (pc + 3) lv st σ o2) : ZO K t pc lv (.int y :: .int x :: st) σ (if x < y then o1 else o2) := by
  obtain ⟨p, l, e, R, s, m, args, below, meth, c, Q, g, A, nL, nc, ns⟩ := K
  intro ho H locs ls hP hS hl
  exact lv_icmp_lt F.1 F.2.1 d ht (fun h => kt h (by rw [if_pos h] at ho; exact ho) H locs ls hP hS hl) (fun h => kf h (by rw [if_neg h] at ho; exact ho) H locs ls hP hS hl)
theorem z_icmp_ge (F : zF K cc own ret) {x y : Int32} {off : Int} (tgt : Nat) (d : decode cc pc = .ok (.if_icmp .ge off, 3)) (ht : (pc : Int) + off = (tgt : Int)) (kt : y ≤ x → ZO K t tgt lv st σ o1) (kf : ¬ y ≤ x → ZO K t (pc + 3) lv st σ o2) : ZO K t pc lv (.int y :: .int x :: st) σ (if y ≤ x then o1 else o2) := by
  obtain ⟨p, l, e, R, s, m, args, below, meth, c, Q, g, A, nL, nc, ns⟩ := K
  intro ho H locs ls hP hS hl
  exact lv_icmp_ge F.1 F.2.1 d ht (fun h => kt h (by rw [if_pos h] at ho; exact ho) H locs ls hP hS hl) (fun h => kf h (by rw [if_neg h] at ho; exact ho) H locs ls hP hS hl)
theorem z_icmp_gt (F : zF K cc own ret) {x y : Int32} {off : Int} (tgt : Nat) (d : decode cc pc = .ok (.if_icmp .gt off, 3)) (ht : (pc : Int) + off = (tgt : Int)) (kt : y < x → ZO K t tgt lv st σ o1) (kf : ¬ y < x → ZO K t (pc + 3) lv st σ o2) : ZO K t pc lv (.int y :: .int x :: st) σ (if y < x then o1 else o2) := by
  obtain ⟨p, l, e, R, s, m, args, below, meth, c, Q, g, A, nL, nc, ns⟩ := K
  intro ho H locs ls hP hS hl
  exact lv_icmp_gt F.1 F.2.1 d ht (fun h => kt h (by rw [if_pos h] at ho; exact ho) H locs ls hP hS hl) (fun h => kf h (by rw [if_neg h] at ho; exact ho) H locs ls hP hS hl)
theorem z_icmp_le (F : zF K cc own ret) {x y : Int32} {off : Int} (tgt : Nat) (d : decode cc pc = .ok (.if_icmp .le off, 3)) (ht : (pc : Int) + off = (tgt : Int)) (kt : x ≤ y → ZO K t tgt lv st σ o1) (kf : ¬ x ≤ y → ZO K t (pc + 3) lv st σ o2) : ZO K t pc lv (.int y :: .int x :: st) σ (if x ≤ y then o1 else o2) := by
  obtain ⟨p, l, e, R, s, m, args, below, meth, c, Q, g, A, nL, nc, ns⟩ := K
  intro ho H locs ls hP hS hl
  exact lv_icmp_le F.1 F.2.1 d ht (fun h => kt h (by rw [if_pos h] at ho; exact ho) H locs ls hP hS hl) (fun h => kf h (by rw [if_neg h] at ho; exact ho) H locs ls hP hS hl)
theorem z_icmp_ne (F : zF K cc own ret) {x y : Int32} {off : Int} (tgt : Nat) (d : decode cc pc = .ok (.if_icmp .ne off, 3)) (ht : (pc : Int) + off = (tgt : Int)) (kt : ¬ x = y → ZO K t tgt lv st σ o1) (kf : x = y → ZO K t (pc + 3) lv st σ o2) : ZO K t pc lv (.int y :: .int x :: st) σ (if x = y then o2 else o1) := by
  obtain ⟨p, l, e, R, s, m, args, below, meth, c, Q, g, A, nL, nc, ns⟩ := K
  intro ho H locs ls hP hS hl
  exact lv_icmp_ne F.1 F.2.1 d ht (fun h => kt h (by rw [if_neg h] at ho; exact ho) H locs ls hP hS hl) (fun h => kf h (by rw [if_pos h] at ho; exact ho) H locs ls hP hS hl)
theorem z_tabIn (F : zF K cc own ret) {dflt lo hi : Int} {offs : Array Int} {len : Nat} {x : Int32} {off : Int} (tgt : Nat) (d : decode cc pc = .ok (.tableswitch dflt lo hi offs, len)) (h1 : ¬ x.toInt < lo) (h2 : ¬ hi < x.toInt) (h3 : offs[(x.toInt - lo).toNat]? = some off) (ht : (pc : Int) + off = (tgt : Int)) (kk : ZO K t tgt lv st σ o) : ZO K t pc lv (.int x :: st) σ o := by
  obtain ⟨p, l, e, R, s, m, args, below, meth, c, Q, g, A, nL, nc, ns⟩ := K
  intro ho H locs ls hP hS hl
  exact lv_tableIn F.1 F.2.1 d h1 h2 h3 ht (kk ho H locs ls hP hS hl)
theorem z_tabOut (F : zF K cc own ret) {dflt lo hi : Int} {offs : Array Int} {len : Nat} {x : Int32} (tgt : Nat) (d : decode cc pc = .ok (.tableswitch dflt lo hi offs, len)) (h : x.toInt < lo ∨ hi < x.toInt) (ht : (pc : Int) + dflt = (tgt : Int)) (kk : ZO K t tgt lv st σ o) : ZO K t pc lv (.int x :: st) σ o := by
  obtain ⟨p, l, e, R, s, m, args, below, meth, c, Q, g, A, nL, nc, ns⟩ := K
  intro ho H locs ls hP hS hl
  exact lv_tableOut F.1 F.2.1 d h ht (kk ho H locs ls hP hS hl)
theorem z_ldci (F : zF K cc own ret) {index : Nat} {v : Int32} (hw : Cond.constant own index v ∈ zT) (d : decode cc pc = .ok (.ldc index, 2)) (kk : ZO K t (pc + 2) lv (.int v :: st) σ o) : ZO K t pc lv st σ o := by
  obtain ⟨p, l, e, R, s, m, args, below, meth, c, Q, g, A, nL, nc, ns⟩ := K
  intro ho H locs ls hP hS hl
  exact lv_ldc F.1 F.2.1 F.2.2.2.1 (F.2.2.2.2.1 _ hw) d (kk ho H locs ls hP hS hl)
/-! cells -/
theorem z_get (F : zF K cc own ret) (k i fk : Nat) {ci : Nat} {fs : zG → List Value} {C : String} {T : u_T} {N index : Nat} {v : Value} (hi : i < zLim k) (hc : ∀ g, zC g (σ k i) k i = .inr (ci, fs g)) (hcl : vwCl[ci]? = some (C, T, N)) (hk : fk < N) (hin : ∀ w ∈ u_ws C T N, w ∈ zT) (hl : Cond.fieldLink own index (T fk).1 (T fk).2.1 (T fk).2.2.1 ∈ zT) (hv : (fs (K.2.2.2.2.2.2.2.2.2.2.2.1))[fk]? = some v) (d : decode cc pc = .ok (.getfield index, 3)) (kk : ZO K t (pc + 3) lv (v :: st) σ o) : ZO K t pc lv (.ref (zad K k i) :: st) σ o := by
  obtain ⟨p, l, e, R, s, m, args, below, meth, c, Q, g, A, nL, nc, ns⟩ := K
  intro ho H locs ls hP hS hl2
  obtain ⟨q, -, hq⟩ := zW_at (g := g) (σ := σ) hi
  rw [hc g] at hq
  exact va_get F.1 F.2.1 F.2.2.2.2.1 hin F.2.2.2.1 F.2.2.2.2.2.1.1 hP q hq hcl fk hk (F.2.2.2.2.1 _ hl) (fun _ h9 => h9) hv d (kk ho H locs ls hP hS hl2)
theorem z_getN (F : zF K cc own ret) (k i fk : Nat) {host : String} {ci : Nat} {fs : zG → List Value} {C : String} {T : u_T} {N index : Nat} {v : Value} (hi : i < zLim k) (hc : ∀ g, zC g (σ k i) k i = .inr (ci, fs g)) (hcl : vwCl[ci]? = some (C, T, N)) (hk : fk < N) (hin : ∀ w ∈ u_ws C T N, w ∈ zT) (hl : Cond.fieldLinkNest own index (T fk).1 (T fk).2.1 (T fk).2.2.1 host ∈ zNest) (hv : (fs (K.2.2.2.2.2.2.2.2.2.2.2.1))[fk]? = some v) (d : decode cc pc = .ok (.getfield index, 3)) (kk : ZO K t (pc + 3) lv (v :: st) σ o) : ZO K t pc lv (.ref (zad K k i) :: st) σ o := by
  obtain ⟨p, l, e, R, s, m, args, below, meth, c, Q, g, A, nL, nc, ns⟩ := K
  intro ho H locs ls hP hS hl2
  obtain ⟨q, -, hq⟩ := zW_at (g := g) (σ := σ) hi
  rw [hc g] at hq
  exact va_getN F.1 F.2.1 F.2.2.2.2.1 hin F.2.2.2.1 F.2.2.2.2.2.1.1 hP q hq hcl fk hk (va_Nw.use rfl (F.2.2.2.2.2.1.2 _ hl)) (fun _ h9 => h9) hv d (kk ho H locs ls hP hS hl2)
theorem z_put (F : zF K cc own ret) (k i fk : Nat) {ci : Nat} {fs : zG → List Value} {C : String} {T : u_T} {N index : Nat} {x : Int32} {ok : zS → Option α} (ty0 : Nat → FieldType) (hty : ∀ k, k < N → parseFieldDescriptor (T k).2.2.1 = some (ty0 k)) (hnm : ∀ a, a < N → ∀ b, b < N → a ≠ b → (T a).2.1 ≠ (T b).2.1) (hi : i < zLim k) (hc : ∀ g, zC g (σ k i) k i = .inr (ci, fs g)) (hcl : vwCl[ci]? = some (C, T, N)) (hk : fk < N) (hin : ∀ w ∈ u_ws C T N, w ∈ zT) (hl : Cond.fieldLink own index (T fk).1 (T fk).2.1 (T fk).2.2.1 ∈ zT) (hfin : (T fk).2.2.2 = false) (hd : parseFieldDescriptor (T fk).2.2.1 = some .int) (hfl : ∀ g, fk < (fs g).length) (hc2 : ∀ g, zC g (upd (σ k i) fk x) k i = .inr (ci, (fs g).set fk (.int x))) (d : decode cc pc = .ok (.putfield index, 3)) (kk : ∀ σ1, ZO K t (pc + 3) lv st σ1 (ok σ1)) : ZO K t pc lv (.int x :: .ref (zad K k i) :: st) σ (zB (zU σ k i fk x) ok) := by
  obtain ⟨p, l, e, R, s, m, args, below, meth, c, Q, g, A, nL, nc, ns⟩ := K
  intro ho H locs ls hP hS hl2
  obtain ⟨q, hq0, hq⟩ := zW_at (g := g) (σ := σ) hi
  rw [hc g] at hq
  refine va_put F.1 F.2.1 F.2.2.2.2.1 hin ty0 hty hnm F.2.2.2.1 F.2.2.2.2.2.1.1 hP (zD_any F.2.2.2.2.2.2.1) hS q hq hcl fk hk (F.2.2.2.2.1 _ hl) (fun _ h9 => h9) hfin hd rfl rfl (hfl g) d (fun H1 locs1 hP1 _ hS1 => ?_)
  rw [zW_set (σ' := zU σ k i fk x) hq0 (by rw [zU_at]; exact hc2 g) zU_ne] at hP1
  exact kk _ ho H1 locs1 ls hP1 hS1 hl2
theorem z_putN (F : zF K cc own ret) (k i fk : Nat) {host : String} {ci : Nat} {fs : zG → List Value} {C : String} {T : u_T} {N index : Nat} {x : Int32} {ok : zS → Option α} (ty0 : Nat → FieldType) (hty : ∀ k, k < N → parseFieldDescriptor (T k).2.2.1 = some (ty0 k)) (hnm : ∀ a, a < N → ∀ b, b < N → a ≠ b → (T a).2.1 ≠ (T b).2.1) (hi : i < zLim k) (hc : ∀ g, zC g (σ k i) k i = .inr (ci, fs g)) (hcl : vwCl[ci]? = some (C, T, N)) (hk : fk < N) (hin : ∀ w ∈ u_ws C T N, w ∈ zT) (hl : Cond.fieldLinkNest own index (T fk).1 (T fk).2.1 (T fk).2.2.1 host ∈ zNest) (hfin : (T fk).2.2.2 = false) (hd : parseFieldDescriptor (T fk).2.2.1 = some .int) (hfl : ∀ g, fk < (fs g).length) (hc2 : ∀ g, zC g (upd (σ k i) fk x) k i = .inr (ci, (fs g).set fk (.int x))) (d : decode cc pc = .ok (.putfield index, 3)) (kk : ∀ σ1, ZO K t (pc + 3) lv st σ1 (ok σ1)) : ZO K t pc lv (.int x :: .ref (zad K k i) :: st) σ (zB (zU σ k i fk x) ok) := by
  obtain ⟨p, l, e, R, s, m, args, below, meth, c, Q, g, A, nL, nc, ns⟩ := K
  intro ho H locs ls hP hS hl2
  obtain ⟨q, hq0, hq⟩ := zW_at (g := g) (σ := σ) hi
  rw [hc g] at hq
  refine va_putN F.1 F.2.1 F.2.2.2.2.1 hin ty0 hty hnm F.2.2.2.1 F.2.2.2.2.2.1.1 hP (zD_any F.2.2.2.2.2.2.1) hS q hq hcl fk hk (va_Nw.use rfl (F.2.2.2.2.2.1.2 _ hl)) (fun _ h9 => h9) hfin hd rfl rfl (hfl g) d (fun H1 locs1 hP1 _ hS1 => ?_)
  rw [zW_set (σ' := zU σ k i fk x) hq0 (by rw [zU_at]; exact hc2 g) zU_ne] at hP1
  exact kk _ ho H1 locs1 ls hP1 hS1 hl2
theorem z_iald (F : zF K cc own ret) (k i : Nat) {n : Nat} {j : Int32} (hi : i < zLim k) (hc : ∀ g, zC g (σ k i) k i = .inl (g.2.1 0, n, .inl (σ k i))) (hj : vp_in j n) (d : decode cc pc = .ok (.iaload, 1)) (kk : ZO K t (pc + 1) lv (.int (σ k i j.toNatClampNeg) :: st) σ o) : ZO K t pc lv (.int j :: .ref (zad K k i) :: st) σ o := by
  obtain ⟨p, l, e, R, s, m, args, below, meth, c, Q, g, A, nL, nc, ns⟩ := K
  intro ho H locs ls hP hS hl2
  obtain ⟨q, hq0, hq⟩ := zW_at (g := g) (σ := σ) hi
  rw [hc g] at hq
  exact va_iald F.1 F.2.1 F.2.2.2.2.2.1.1 hP q 0 hq rfl hj d (kk ho H locs ls hP hS hl2)
theorem z_zald (F : zF K cc own ret) (k i : Nat) {n : Nat} {j : Int32} (hi : i < zLim k) (hc : ∀ g, zC g (σ k i) k i = .inl (g.2.1 1, n, .inl (σ k i))) (hj : vp_in j n) (d : decode cc pc = .ok (.baload, 1)) (kk : ZO K t (pc + 1) lv (.int (σ k i j.toNatClampNeg) :: st) σ o) : ZO K t pc lv (.int j :: .ref (zad K k i) :: st) σ o := by
  obtain ⟨p, l, e, R, s, m, args, below, meth, c, Q, g, A, nL, nc, ns⟩ := K
  intro ho H locs ls hP hS hl2
  obtain ⟨q, hq0, hq⟩ := zW_at (g := g) (σ := σ) hi
  rw [hc g] at hq
  exact va_zald F.1 F.2.1 F.2.2.2.2.2.1.1 hP q 1 hq rfl hj d (kk ho H locs ls hP hS hl2)
theorem z_iast (F : zF K cc own ret) (k i : Nat) {n : Nat} {j x : Int32} {ok : zS → Option α} (hi : i < zLim k) (hc : ∀ g (f : Nat → Int32), zC g f k i = .inl (g.2.1 0, n, .inl f)) (hj : vp_in j n) (d : decode cc pc = .ok (.iastore, 1)) (kk : ∀ σ1, ZO K t (pc + 1) lv st σ1 (ok σ1)) : ZO K t pc lv (.int x :: .int j :: .ref (zad K k i) :: st) σ (zB (zU σ k i j.toNatClampNeg x) ok) := by
  obtain ⟨p, l, e, R, s, m, args, below, meth, c, Q, g, A, nL, nc, ns⟩ := K
  intro ho H locs ls hP hS hl2
  obtain ⟨q, hq0, hq⟩ := zW_at (g := g) (σ := σ) hi
  rw [hc g] at hq
  refine va_iast F.1 F.2.1 F.2.2.2.2.2.1.1 hP (zD_any F.2.2.2.2.2.2.1) hS q 0 hq rfl hj d (fun H1 locs1 hP1 _ hS1 => ?_)
  rw [zW_set (σ' := zU σ k i j.toNatClampNeg x) hq0 (by rw [zU_at]; exact hc g _) zU_ne] at hP1
  exact kk _ ho H1 locs1 ls hP1 hS1 hl2
theorem z_zast (F : zF K cc own ret) (k i : Nat) {n : Nat} {j x : Int32} {ok : zS → Option α} (hi : i < zLim k) (hc : ∀ g (f : Nat → Int32), zC g f k i = .inl (g.2.1 1, n, .inl f)) (hj : vp_in j n) (d : decode cc pc = .ok (.bastore, 1)) (kk : ∀ σ1, ZO K t (pc + 1) lv st σ1 (ok σ1)) : ZO K t pc lv (.int x :: .int j :: .ref (zad K k i) :: st) σ (zB (zU σ k i j.toNatClampNeg (vp_nar .boolean x)) ok) := by
  obtain ⟨p, l, e, R, s, m, args, below, meth, c, Q, g, A, nL, nc, ns⟩ := K
  intro ho H locs ls hP hS hl2
  obtain ⟨q, hq0, hq⟩ := zW_at (g := g) (σ := σ) hi
  rw [hc g] at hq
  refine va_zast F.1 F.2.1 F.2.2.2.2.2.1.1 hP (zD_any F.2.2.2.2.2.2.1) hS q 1 hq rfl hj d (fun H1 locs1 hP1 _ hS1 => ?_)
  rw [zW_set (σ' := zU σ k i j.toNatClampNeg (vp_nar .boolean x)) hq0 (by rw [zU_at]; exact hc g _) zU_ne] at hP1
  exact kk _ ho H1 locs1 ls hP1 hS1 hl2
theorem z_alen (F : zF K cc own ret) (k i : Nat) {n ty : Nat} {v : Int32} (hi : i < zLim k) (hc : ∀ g, zC g (σ k i) k i = .inl (g.2.1 0, n, .inl (σ k i))) (hv : Int32.ofNat n = v) (d : decode cc pc = .ok (.arraylength, 1)) (kk : ZO K t (pc + 1) lv (.int v :: st) σ o) : ZO K t pc lv (.ref (zad K k i) :: st) σ o := by
  obtain ⟨p, l, e, R, s, m, args, below, meth, c, Q, g, A, nL, nc, ns⟩ := K
  intro ho H locs ls hP hS hl2
  obtain ⟨q, hq0, hq⟩ := zW_at (g := g) (σ := σ) hi
  rw [hc g] at hq
  exact va_alen F.1 F.2.1 F.2.2.2.2.2.1.1 hP q 0 hq rfl hv d (kk ho H locs ls hP hS hl2)
/-- a row of references: kind k to kind k2 -/
theorem z_aald (F : zF K cc own ret) (k i k2 i2 tt : Nat) {n : Nat} {ty : FieldType} {j : Int32} {f : zG → Nat → Option Nat} (hi : i < zLim k) (hc : ∀ g, zC g (σ k i) k i = .inl (g.2.1 tt, n, .inr (.inr (.inr (.inr (f g)))))) (ht : ∀ g, (zTys g)[tt]? = some (g.2.1 tt, ty)) (hr : ty.isReference = true) (hj : vp_in j n) (hf : ∀ g : zG, f g j.toNatClampNeg = some (g.1 k2 i2)) (d : decode cc pc = .ok (.aaload, 1)) (kk : ZO K t (pc + 1) lv (.ref (zad K k2 i2) :: st) σ o) : ZO K t pc lv (.int j :: .ref (zad K k i) :: st) σ o := by
  obtain ⟨p, l, e, R, s, m, args, below, meth, c, Q, g, A, nL, nc, ns⟩ := K
  intro ho H locs ls hP hS hl2
  obtain ⟨q, hq0, hq⟩ := zW_at (g := g) (σ := σ) hi
  rw [hc g] at hq
  have hlt : j.toNatClampNeg < n := Nat.not_le.mp fun q => hj (Or.inr q)
  have k1 := kk ho H locs ls hP hS hl2
  exact W.aald (v := va_rf (f g j.toNatClampNeg)) (ty := ty) F.1 F.2.1 (hP q _ hq) ((F.2.2.2.2.2.1.1.2 tt _ (ht g)).1 n (fun j => va_rf (f g j))) hr (fun q => by cases q) (by show ¬ (j < 0 ∨ (arrV _ _ _).slots.size ≤ _); rw [arrV_size]; exact hj) (by show (arrV _ _ _).slots[_]? = _; rw [arrV_read _ _ hlt]) rfl rfl d (by rw [hf g]; exact k1)
/-- slots[j] = a generation -/
theorem z_slot (F : zF K cc own ret) {j : Int32} {g2 : Nat} {ok : zS → Option α} (hg : g2 < 3) (hj : vp_in j 3) (d : decode cc pc = .ok (.aastore, 1)) (kk : ∀ σ1, ZO K t (pc + 1) lv st σ1 (ok σ1)) : ZO K t pc lv (.ref (zad K 13 g2) :: .int j :: .ref (zad K 11 0) :: st) σ (zB (zU σ 11 0 j.toNatClampNeg (nI g2)) ok) := by
  obtain ⟨p, l, e, R, s, m, args, below, meth, c, Q, g, A, nL, nc, ns⟩ := K
  intro ho H locs ls hP hS hl2
  obtain ⟨q, hq0, hq⟩ := zW_at (g := g) (σ := σ) (k := 11) (i := 0) (by decide)
  obtain ⟨q2, hq20, hq2⟩ := zW_at (g := g) (σ := σ) (k := 13) (i := g2) (by show g2 < 3; exact hg)
  refine va_astq F.1 F.2.1 F.2.2.2.2.2.1.1 hP (zD_any F.2.2.2.2.2.2.1) hS q 2 q2 1 hq rfl hq2 rfl hj d (fun H1 locs1 hP1 _ hS1 => ?_)
  rw [zW_set (σ' := zU σ 11 0 j.toNatClampNeg (nI g2)) hq0 (by
    rw [zU_at]
    show Sum.inl (_, _, Sum.inr (Sum.inr (Sum.inr (Sum.inr _)))) = Sum.inl (_, _, Sum.inr (Sum.inr (Sum.inr (Sum.inr _))))
    refine congrArg (fun z : Nat → Option Nat => (Sum.inl (g.2.1 2, 3, Sum.inr (Sum.inr (Sum.inr (Sum.inr z)))) : va_E)) ?_
    funext a
    unfold va_up upd
    by_cases ha : a = j.toNatClampNeg
    · rw [if_pos ha, if_pos ha, nI_clamp (by omega), Nat.mod_eq_of_lt hg]
    · rw [if_neg ha, if_neg ha]) zU_ne] at hP1
  exact kk _ ho H1 locs1 ls hP1 hS1 hl2
end ZR
end
section
/-! Contracts over the state picture, calls. -/
def zAd (g : zG) (sz : Nat) : Nat → Prop := fun q => (∃ x ∈ zIds, q = g.1 x.1 x.2) ∨ sz ≤ q
def zPre (g : zG) (σ : zS) (sz : Nat) : State → Prop := fun U => U.heap.size = sz ∧ va_P g.2.2 vwCl (zW g σ) U.heap ∧ zKn g U ∧ va_D (fun _ => True) (zW g σ)
def zAt (g : zG) : zS → State → Prop := fun σ t => va_P g.2.2 vwCl (zW g σ) t.heap
abbrev zWs (y : MethodName) (cc : ByteArray) (nL : Nat) (ret : Option FieldType) : List Cond := .code y cc nL ret :: zT
def zMi (l : Launch) (y : MethodName) (cc : ByteArray) (nL : Nat) (ret : Option FieldType) (rm : Room) (av : (Nat → Nat → Nat) → List Value) (σ : zS) (o : Option (Int32 × zS)) : Prop := ∀ (r : Int32) (σ' : zS), o = some (r, σ') → ∀ (g : zG) (sz : Nat), Met l y (zWs y cc nL ret) rm (va_Pc (av g.1) (zPre g σ sz)) (va_Qi (fun r' u => r' = r ∧ u = σ') (zAt g) (zAd g sz)) 0 0 (zAd g sz)
def zMv (l : Launch) (y : MethodName) (cc : ByteArray) (nL : Nat) (ret : Option FieldType) (rm : Room) (av : (Nat → Nat → Nat) → List Value) (σ : zS) (o : Option (Int32 × zS)) : Prop := ∀ (r : Int32) (σ' : zS), o = some (r, σ') → ∀ (g : zG) (sz : Nat), Met l y (zWs y cc nL ret) rm (va_Pc (av g.1) (zPre g σ sz)) (va_Qv (fun u => u = σ') (zAt g) (zAd g sz)) 0 0 (zAd g sz)
def zMq (kq : Nat) (l : Launch) (y : MethodName) (cc : ByteArray) (nL : Nat) (ret : Option FieldType) (rm : Room) (av : (Nat → Nat → Nat) → List Value) (σ : zS) (o : Option (Option Nat × zS)) : Prop := ∀ (r : Option Nat) (σ' : zS), o = some (r, σ') → ∀ (g : zG) (sz : Nat), Met l y (zWs y cc nL ret) rm (va_Pc (av g.1) (zPre g σ sz)) (va_Qq (fun r' u => r' = r.map (g.1 kq) ∧ u = σ') (zAt g) (zAd g sz)) 0 0 (zAd g sz)
def zEi (K : zX) (t : Int32 × zS) : Prop := match K with
  | (_, _, _, _, s, _, args, below, _, _, Q, g, A, _, nc, ns) => Q = MQ below (va_Qi (fun r' u => r' = t.1 ∧ u = t.2) (zAt g) A) args s 0 0 A ∧ nc = 0 ∧ ns = 0
def zEv (K : zX) (t : Int32 × zS) : Prop := match K with
  | (_, _, _, _, s, _, args, below, _, _, Q, g, A, _, nc, ns) => Q = MQ below (va_Qv (fun u => u = t.2) (zAt g) A) args s 0 0 A ∧ nc = 0 ∧ ns = 0
def zEq (kq : Nat) (K : zX) (t : Option Nat × zS) : Prop := match K with
  | (_, _, _, _, s, _, args, below, _, _, Q, g, A, _, nc, ns) => Q = MQ below (va_Qq (fun r' u => r' = t.1.map (g.1 kq) ∧ u = t.2) (zAt g) A) args s 0 0 A ∧ nc = 0 ∧ ns = 0
def zEnt (vs : List Value) (n : Nat) : List (Option Value) := vs.map some ++ List.replicate (n - vs.length) none
theorem zlg_sl : ∀ (vs : List Value), (∀ v ∈ vs, v.category = 1) → lg_sl vs = vs.map Slot.val
  | [], _ => rfl
  | v :: vs, h => by
    have h1 : v.category = 1 := h v List.mem_cons_self
    have h2 := zlg_sl vs (fun w hw => h w (List.mem_cons_of_mem _ hw))
    unfold lg_sl at h2 ⊢
    rw [List.flatMap_cons, h2, h1]
    rfl
theorem zL_entry {vs : List Value} {n : Nat} (hc : ∀ v ∈ vs, v.category = 1) (hn : vs.length ≤ n) : zL ((lg_sl vs ++ List.replicate (n - (lg_sl vs).length) Slot.unset).toArray) n (zEnt vs n) := by
  have hl := lv_entry vs (n := n) (by rw [zlg_sl vs hc, List.length_map]; exact hn)
  have key : ∀ (i : Nat) (v : Value), (zEnt vs n)[i]? = some (some v) → vs[i]? = some v := by
    intro i v h
    unfold zEnt at h
    by_cases hi : i < vs.length
    · rw [List.getElem?_append_left (by rw [List.length_map]; exact hi), List.getElem?_map] at h
      cases hz : vs[i]? with
      | none => rw [hz] at h; cases h
      | some w => rw [hz] at h; cases h; rfl
    · rw [List.getElem?_append_right (by rw [List.length_map]; omega), List.getElem?_replicate] at h
      split at h <;> cases h
  refine ⟨hl.1, hl.2.1, fun i v h => ?_, ?_, fun i v h => hc v (List.mem_of_getElem? (key i v h))⟩
  · have h1 := key i v h
    have hi := (List.getElem?_eq_some_iff.mp h1).1
    rw [zlg_sl vs hc, List.getElem?_toArray, List.getElem?_append_left (by rw [List.length_map]; exact hi), List.getElem?_map, h1]
    rfl
  · unfold zEnt
    rw [List.length_append, List.length_map, List.length_replicate]
    omega
theorem zD_ad {g : zG} {σ : zS} {sz : Nat} (h : va_D (fun _ => True) (zW g σ)) : va_D (zAd g sz) (zW g (fun _ _ _ => 0)) := by
  have h0 : va_D (fun _ => True) (zW g (fun _ _ _ => 0)) := zD_any h
  refine ⟨h0.1, fun n q hn => Or.inl ?_⟩
  unfold zW at hn
  rw [List.getElem?_map] at hn
  cases hz : zIds[n]? with
  | none => rw [hz] at hn; cases hn
  | some x => rw [hz] at hn; cases hn; exact ⟨x, List.mem_of_getElem? hz, rfl⟩
theorem zMi.of {l : Launch} {y : MethodName} {cc : ByteArray} {nL : Nat} {ret : Option FieldType} {rm : Room} {av : (Nat → Nat → Nat) → List Value} {σ : zS} {o : Option (Int32 × zS)} (own : String) (hy : plainName y.cls = true) (hown : y.cls = own) (hav : ∀ ad, (av ad).length ≤ nL) (hac : ∀ ad, ∀ v ∈ av ad, v.category = 1)
    (body : ∀ (K : zX) (t : Int32 × zS), zF K cc own ret → zrm K = rm → zln K = l → zEi K t → ZO K t 0 (zEnt (av (zad K)) nL) [] σ o) : zMi l y cc nL ret rm av σ o := by
  intro r σ' ho g sz
  refine Met.ofW (cc := cc) (maxL := nL) (ret := ret) hy rfl ?_
  intro p e s m args below meth c s₁ B hml hv
  obtain ⟨rfl, hsz, hP, hK, hD0⟩ := hv
  have hts := atoms_spec (ws := zWs y cc nL ret) B.pre
  have ho2 : s.vm.findClass own = some m.cls := by rw [← hown]; exact findClass_of_methodNamed B.named
  subst hsz
  have hb := body (p, l, e, rm, s, m, (av g.1).toArray, below, meth, c, MQ below (va_Qi (fun r' u => r' = r ∧ u = σ') (zAt g) (zAd g s.heap.size)) (av g.1).toArray s 0 0 (zAd g s.heap.size), g, zAd g s.heap.size, nL, 0, 0) (r, σ') ⟨B.exec, B.bytes, hml, ho2, fun w hw => hts w (List.mem_cons_of_mem _ hw), hK, zD_ad hD0, fun q h => Or.inr h, B.returns, B.notSynchronized, Nat.zero_le _, Nat.zero_le _⟩ rfl rfl ⟨rfl, rfl, rfl⟩
  rw [lg_entry_eq]
  exact hb ho s.heap [] _ hP va_S.rf (zL_entry (hac g.1) (hav g.1))
theorem zMv.of {l : Launch} {y : MethodName} {cc : ByteArray} {nL : Nat} {ret : Option FieldType} {rm : Room} {av : (Nat → Nat → Nat) → List Value} {σ : zS} {o : Option (Int32 × zS)} (own : String) (hy : plainName y.cls = true) (hown : y.cls = own) (hav : ∀ ad, (av ad).length ≤ nL) (hac : ∀ ad, ∀ v ∈ av ad, v.category = 1)
    (body : ∀ (K : zX) (t : Int32 × zS), zF K cc own ret → zrm K = rm → zln K = l → zEv K t → ZO K t 0 (zEnt (av (zad K)) nL) [] σ o) : zMv l y cc nL ret rm av σ o := by
  intro r σ' ho g sz
  refine Met.ofW (cc := cc) (maxL := nL) (ret := ret) hy rfl ?_
  intro p e s m args below meth c s₁ B hml hv
  obtain ⟨rfl, hsz, hP, hK, hD0⟩ := hv
  have hts := atoms_spec (ws := zWs y cc nL ret) B.pre
  have ho2 : s.vm.findClass own = some m.cls := by rw [← hown]; exact findClass_of_methodNamed B.named
  subst hsz
  have hb := body (p, l, e, rm, s, m, (av g.1).toArray, below, meth, c, MQ below (va_Qv (fun u => u = σ') (zAt g) (zAd g s.heap.size)) (av g.1).toArray s 0 0 (zAd g s.heap.size), g, zAd g s.heap.size, nL, 0, 0) (r, σ') ⟨B.exec, B.bytes, hml, ho2, fun w hw => hts w (List.mem_cons_of_mem _ hw), hK, zD_ad hD0, fun q h => Or.inr h, B.returns, B.notSynchronized, Nat.zero_le _, Nat.zero_le _⟩ rfl rfl ⟨rfl, rfl, rfl⟩
  rw [lg_entry_eq]
  exact hb ho s.heap [] _ hP va_S.rf (zL_entry (hac g.1) (hav g.1))
theorem zMq.of {kq : Nat} {l : Launch} {y : MethodName} {cc : ByteArray} {nL : Nat} {ret : Option FieldType} {rm : Room} {av : (Nat → Nat → Nat) → List Value} {σ : zS} {o : Option (Option Nat × zS)} (own : String) (hy : plainName y.cls = true) (hown : y.cls = own) (hav : ∀ ad, (av ad).length ≤ nL) (hac : ∀ ad, ∀ v ∈ av ad, v.category = 1)
    (body : ∀ (K : zX) (t : Option Nat × zS), zF K cc own ret → zrm K = rm → zln K = l → zEq kq K t → ZO K t 0 (zEnt (av (zad K)) nL) [] σ o) : zMq kq l y cc nL ret rm av σ o := by
  intro r σ' ho g sz
  refine Met.ofW (cc := cc) (maxL := nL) (ret := ret) hy rfl ?_
  intro p e s m args below meth c s₁ B hml hv
  obtain ⟨rfl, hsz, hP, hK, hD0⟩ := hv
  have hts := atoms_spec (ws := zWs y cc nL ret) B.pre
  have ho2 : s.vm.findClass own = some m.cls := by rw [← hown]; exact findClass_of_methodNamed B.named
  subst hsz
  have hb := body (p, l, e, rm, s, m, (av g.1).toArray, below, meth, c, MQ below (va_Qq (fun r' u => r' = r.map (g.1 kq) ∧ u = σ') (zAt g) (zAd g s.heap.size)) (av g.1).toArray s 0 0 (zAd g s.heap.size), g, zAd g s.heap.size, nL, 0, 0) (r, σ') ⟨B.exec, B.bytes, hml, ho2, fun w hw => hts w (List.mem_cons_of_mem _ hw), hK, zD_ad hD0, fun q h => Or.inr h, B.returns, B.notSynchronized, Nat.zero_le _, Nat.zero_le _⟩ rfl rfl ⟨rfl, rfl, rfl⟩
  rw [lg_entry_eq]
  exact hb ho s.heap [] _ hP va_S.rf (zL_entry (hac g.1) (hav g.1))
/-! ends -/
theorem z_iret {K : zX} {t : Int32 × zS} {pc : Nat} {lv : List (Option Value)} {σ : zS} {cc : ByteArray} {own : String} {x : Int32} (F : zF K cc own (some .int)) (E : zEi K t) (d : decode cc pc = .ok (.ireturn, 1)) : ZO K t pc lv [.int x] σ (some (x, σ)) := by
  obtain ⟨p, l, e, R, s, m, args, below, meth, c, Q, g, A, nL, nc, ns⟩ := K
  obtain ⟨rfl, rfl, rfl⟩ := E
  intro ho H locs ls hP hS hl
  cases ho
  exact W.iret F.1 F.2.1 F.2.2.2.2.2.2.2.2.1 (fun t' ht hW => ⟨⟨x, σ, rfl, ⟨rfl, rfl⟩, by unfold zAt; rw [ht]; exact hP⟩, hS.F ht⟩) hS.2.2 d F.2.2.2.2.2.2.2.2.2.1
theorem z_zret {K : zX} {t : Int32 × zS} {pc : Nat} {lv : List (Option Value)} {σ : zS} {cc : ByteArray} {own : String} {ty : FieldType} {x : Int32} (F : zF K cc own (some ty)) (E : zEi K t) (hn : narrow ty (.int x) = .int x) (d : decode cc pc = .ok (.ireturn, 1)) : ZO K t pc lv [.int x] σ (some (x, σ)) := by
  obtain ⟨p, l, e, R, s, m, args, below, meth, c, Q, g, A, nL, nc, ns⟩ := K
  obtain ⟨rfl, rfl, rfl⟩ := E
  intro ho H locs ls hP hS hl
  cases ho
  exact W.zret F.1 F.2.1 F.2.2.2.2.2.2.2.2.1 hn (fun t' ht hW => ⟨⟨x, σ, rfl, ⟨rfl, rfl⟩, by unfold zAt; rw [ht]; exact hP⟩, hS.F ht⟩) hS.2.2 d F.2.2.2.2.2.2.2.2.2.1
theorem z_vret {K : zX} {t : Int32 × zS} {pc : Nat} {lv : List (Option Value)} {σ : zS} {cc : ByteArray} {own : String} {x : Int32} (F : zF K cc own none) (E : zEv K t) (d : decode cc pc = .ok (.return_, 1)) : ZO K t pc lv [] σ (some (x, σ)) := by
  obtain ⟨p, l, e, R, s, m, args, below, meth, c, Q, g, A, nL, nc, ns⟩ := K
  obtain ⟨rfl, rfl, rfl⟩ := E
  intro ho H locs ls hP hS hl
  cases ho
  exact W.vret F.1 F.2.1 F.2.2.2.2.2.2.2.2.1 (fun t' ht hW => ⟨⟨σ, rfl, rfl, by unfold zAt; rw [ht]; exact hP⟩, hS.F ht⟩) hS.2.2 d F.2.2.2.2.2.2.2.2.2.1
theorem z_aret {kq : Nat} {K : zX} {t : Option Nat × zS} {pc : Nat} {lv : List (Option Value)} {σ : zS} {cc : ByteArray} {own C : String} {i : Nat} (F : zF K cc own (some (.object C))) (E : zEq kq K t) (d : decode cc pc = .ok (.areturn, 1)) : ZO K t pc lv [.ref (zad K kq i)] σ (some (some i, σ)) := by
  obtain ⟨p, l, e, R, s, m, args, below, meth, c, Q, g, A, nL, nc, ns⟩ := K
  obtain ⟨rfl, rfl, rfl⟩ := E
  intro ho H locs ls hP hS hl
  cases ho
  exact W.aret F.1 F.2.1 F.2.2.2.2.2.2.2.2.1 (Or.inl ⟨C, rfl⟩) (Or.inr ⟨_, rfl⟩) (fun t' ht hW => ⟨⟨some (g.1 kq i), σ, rfl, ⟨rfl, rfl⟩, by unfold zAt; rw [ht]; exact hP⟩, hS.F ht⟩) hS.2.2 d F.2.2.2.2.2.2.2.2.2.1
theorem z_aretN {kq : Nat} {K : zX} {t : Option Nat × zS} {pc : Nat} {lv : List (Option Value)} {σ : zS} {cc : ByteArray} {own C : String} (F : zF K cc own (some (.object C))) (E : zEq kq K t) (d : decode cc pc = .ok (.areturn, 1)) : ZO K t pc lv [.null] σ (some (none, σ)) := by
  obtain ⟨p, l, e, R, s, m, args, below, meth, c, Q, g, A, nL, nc, ns⟩ := K
  obtain ⟨rfl, rfl, rfl⟩ := E
  intro ho H locs ls hP hS hl
  cases ho
  exact W.aret F.1 F.2.1 F.2.2.2.2.2.2.2.2.1 (Or.inl ⟨C, rfl⟩) (Or.inl rfl) (fun t' ht hW => ⟨⟨none, σ, rfl, ⟨rfl, rfl⟩, by unfold zAt; rw [ht]; exact hP⟩, hS.F ht⟩) hS.2.2 d F.2.2.2.2.2.2.2.2.2.1
/-! calls -/
abbrev zNoMH (y : MethodName) (n : Nat) : Prop := y.cls ≠ "java/lang/invoke/MethodHandle" ∧ y.cls ≠ "java/lang/invoke/VarHandle" ∧ (parseMethodDescriptor y.desc).map (fun d => d.parameters.length) = some n
def zLkV (own : String) (index : Nat) (y : MethodName) (cy : ByteArray) (maxL : Nat) (ret : Option FieldType) (n : Nat) : Prop := GoodIn zT (wsV own index y.cls y (zWs y cy maxL ret)) ∧ zNoMH y n
def zLkS (own : String) (index : Nat) (y : MethodName) (cy : ByteArray) (maxL : Nat) (ret : Option FieldType) (n : Nat) : Prop := GoodIn zT (va_wsS own index y (zWs y cy maxL ret)) ∧ zNoMH y n
def zLkN (own : String) (index : Nat) (y : MethodName) (host : String) (cy : ByteArray) (maxL : Nat) (ret : Option FieldType) (n : Nat) : Prop := Cond.methodLinkNest own index y host ∈ zNest ∧ GoodIn zT (zWs y cy maxL ret) ∧ Cond.initialized y.cls ∈ zT ∧ Cond.instanceMethod y ∈ zT ∧ Cond.selects y.cls y y ∈ zT ∧ zNoMH y n
theorem zGood : ∀ w ∈ zT, ((w.onTables && w.keeps) = true ∨ ∃ ty, w = .arrayClass ty) := fun w hw => good_of_word (List.mem_filter.mp hw).2
theorem zGoodIn {ws : List Cond} (h : ∀ w ∈ ws, w ∈ zT) : GoodIn zT ws := fun w hw => ⟨h w hw, zGood w (h w hw)⟩
theorem zGoodL {ws ws2 : List Cond} (h : ∀ w ∈ ws, w ∈ zT) (h2 : ∀ w ∈ ws2, w ∈ zT) : ∀ w ∈ ws ++ ws2, w ∈ zT := fun w hw => (List.mem_append.mp hw).elim (h w) (h2 w)
theorem zWs_in {y : MethodName} {cc : ByteArray} {nL : Nat} {ret : Option FieldType} (h : Cond.code y cc nL ret ∈ zT) : ∀ w ∈ zWs y cc nL ret, w ∈ zT := fun w hw => (List.mem_cons.mp hw).elim (fun e => e ▸ h) id
theorem zIn1 {a : Cond} {ws : List Cond} (h : a ∈ zT) (h2 : ∀ w ∈ ws, w ∈ zT) : ∀ w ∈ a :: ws, w ∈ zT := fun w hw => (List.mem_cons.mp hw).elim (fun e => e ▸ h) (h2 w)
theorem zIn0 : ∀ w ∈ ([] : List Cond), w ∈ zT := fun _ h => absurd h List.not_mem_nil
theorem zLkV.mk {own : String} {index : Nat} {y : MethodName} {cy : ByteArray} {maxL : Nat} {ret : Option FieldType} {n : Nat} (h1 : Cond.methodLink own index y ∈ zT) (h2 : Cond.instanceMethod y ∈ zT) (h3 : Cond.selects y.cls y y ∈ zT) (h4 : Cond.initialized y.cls ∈ zT) (h5 : Cond.code y cy maxL ret ∈ zT) (h6 : zNoMH y n) : zLkV own index y cy maxL ret n := ⟨zGoodIn (zGoodL (zIn1 h1 (zIn1 h2 (zIn1 h3 (zIn1 h4 zIn0)))) (zWs_in h5)), h6⟩
theorem zLkS.mk {own : String} {index : Nat} {y : MethodName} {cy : ByteArray} {maxL : Nat} {ret : Option FieldType} {n : Nat} (h1 : Cond.methodLink own index y ∈ zT) (h2 : Cond.static y ∈ zT) (h4 : Cond.initialized y.cls ∈ zT) (h5 : Cond.code y cy maxL ret ∈ zT) (h6 : zNoMH y n) : zLkS own index y cy maxL ret n := ⟨zGoodIn (zGoodL (zIn1 h1 (zIn1 h2 (zIn1 h4 zIn0))) (zWs_in h5)), h6⟩
theorem zLkN.mk {own : String} {index : Nat} {y : MethodName} {host : String} {cy : ByteArray} {maxL : Nat} {ret : Option FieldType} {n : Nat} (h1 : Cond.methodLinkNest own index y host ∈ zNest) (h2 : Cond.instanceMethod y ∈ zT) (h3 : Cond.selects y.cls y y ∈ zT) (h4 : Cond.initialized y.cls ∈ zT) (h5 : Cond.code y cy maxL ret ∈ zT) (h6 : zNoMH y n) : zLkN own index y host cy maxL ret n := ⟨h1, zGoodIn (zWs_in h5), h4, h2, h3, h6⟩
theorem zblind {g : zG} {σ : zS} {sz : Nat} {av : List Value} : FrameBlind (va_Pc av (zPre g σ sz)) := fun a U g' mk q => ⟨q.1, q.2.1, q.2.2.1, zKn.same (U := U.calling g' mk a) q.2.2.2.1 rfl, q.2.2.2.2⟩
theorem zprec {g : zG} {σ : zS} {s : State} {A : Nat → Prop} {H : Heap} {av : List Value} (hK : zKn g s) (hP : va_P g.2.2 vwCl (zW g σ) H) (hD : va_D A (zW g (fun _ _ _ => 0))) : ∀ U : State, U.heap = H → s.WarmedH U.vm → va_Pc av (zPre g σ H.size) av.toArray U := fun U hU hW => ⟨rfl, by rw [hU], by rw [hU]; exact hP, hK.warm hW, (zD_any hD).weaken (fun _ _ _ _ => trivial)⟩
theorem zad_free {g : zG} {A : Nat → Prop} {H0 H : Heap} {locs : List Loc} (hD : va_D A (zW g (fun _ _ _ => 0))) (hA : ∀ q, H0.size ≤ q → A q) (hS : va_S A H0 H locs) : ∀ q, zAd g H.size q → A q := by
  intro q h
  rcases h with ⟨x, hx, rfl⟩ | h
  · obtain ⟨n, hn⟩ := List.getElem?_of_mem hx
    have h1 : (zW g (fun _ _ _ => 0))[n]? = some (g.1 x.1 x.2, zC g ((fun _ _ _ => 0 : zS) x.1 x.2) x.1 x.2) := by unfold zW; rw [List.getElem?_map, hn]; rfl
    exact hD.2 n _ h1
  · exact hA q (Nat.le_trans hS.1 h)
def zM {β : Type} (r : Option Nat) (a : β) (b : Nat → β) : β := match r with
  | none => a
  | some i => b i
def zCi {α β : Type} (oc : Option (α × zS)) (ok : α → zS → Option β) : Option β := oc.bind (fun q => ok q.1 q.2)
def zCv {α β : Type} (oc : Option (α × zS)) (ok : zS → Option β) : Option β := oc.bind (fun q => ok q.2)
def zCq {β : Type} (oc : Option (Option Nat × zS)) (okn : zS → Option β) (oks : Nat → zS → Option β) : Option β := oc.bind (fun q => zM q.1 (okn q.2) (fun a => oks a q.2))
section ZC
variable {p : Program} {l : Launch} {e : Env} {R : Room} {s : State} {m : MethodId} {args : Array Value} {below : List Frame} {meth : Method} {c : Code} {Q : State → Prop} {g : zG} {A : Nat → Prop} {nL nc ns : Nat}
variable {cc cy : ByteArray} {own : String} {ret rty : Option FieldType} {y : MethodName} {index maxL n k i ci N pc : Nat} {T : u_T} {rm : Room} {As st st0 : List Value} {σ : zS} {H : Heap} {locs : List Loc} {ls : Array Slot} {lv : List (Option Value)} {free : Addr → Prop} {Qc : Array Value → State → Outcome → State → Prop}
theorem zrun_V (F : zF (p, l, e, R, s, m, args, below, meth, c, Q, g, A, nL, nc, ns) cc own ret) (hL : zLkV own index y cy maxL rty n) (hM : Met l y (zWs y cy maxL rty) rm (va_Pc (.ref (g.1 k i) :: As) (zPre g σ H.size)) Qc 0 0 free) (hi : i < zLim k) (hc : ∃ fs, zC g (σ k i) k i = .inr (ci, fs)) (hcl : vwCl[ci]? = some (y.cls, T, N)) (hrm : rm.cells = 0 ∧ rm.slots = 0 ∧ rm.frames + 1 ≤ R.frames ∧ 8 + (maxL + 11) + rm.locals ≤ R.locals) (hn : As.length = n) (hst : st0 = As.reverse ++ .ref (g.1 k i) :: st) (hW : (st.map fun v => v.category).sum ≤ 8) (d : decode cc pc = .ok (.invokevirtual index, 3)) (hP : va_P g.2.2 vwCl (zW g σ) H) (hl : zL ls nL lv) : va_Run p l e R s m args below meth c H locs nc ns 0 0 (F0 m pc ls st0) st (Qc (Value.ref (g.1 k i) :: As).toArray) free := by
  obtain ⟨q, -, hq⟩ := zW_at (g := g) (σ := σ) hi
  obtain ⟨fs, hc⟩ := hc
  rw [hc] at hq
  exact va_runV ⟨F.1, F.2.1, F.2.2.1, F.2.2.2.1, F.2.2.2.2.1⟩ hM (cwV n F.2.2.2.2.1 hL.1 rfl hrm.1 hrm.2.1 ⟨rfl, hL.2⟩ hrm.2.2) ⟨zblind, va_recv F.2.2.2.2.2.1.1 hP hcl hq, zprec F.2.2.2.2.2.1 hP F.2.2.2.2.2.2.1⟩ rfl hn hl.1 hst (lv_room hW) d ⟨F.2.2.2.2.2.2.2.2.2.2.1, F.2.2.2.2.2.2.2.2.2.2.2⟩
theorem zrun_N {host : String} (F : zF (p, l, e, R, s, m, args, below, meth, c, Q, g, A, nL, nc, ns) cc own ret) (hL : zLkN own index y host cy maxL rty n) (hM : Met l y (zWs y cy maxL rty) rm (va_Pc (.ref (g.1 k i) :: As) (zPre g σ H.size)) Qc 0 0 free) (hi : i < zLim k) (hc : ∃ fs, zC g (σ k i) k i = .inr (ci, fs)) (hcl : vwCl[ci]? = some (y.cls, T, N)) (hrm : rm.cells = 0 ∧ rm.slots = 0 ∧ rm.frames + 1 ≤ R.frames ∧ 8 + (maxL + 11) + rm.locals ≤ R.locals) (hn : As.length = n) (hst : st0 = As.reverse ++ .ref (g.1 k i) :: st) (hW : (st.map fun v => v.category).sum ≤ 8) (d : decode cc pc = .ok (.invokevirtual index, 3)) (hP : va_P g.2.2 vwCl (zW g σ) H) (hl : zL ls nL lv) : va_Run p l e R s m args below meth c H locs nc ns 0 0 (F0 m pc ls st0) st (Qc (Value.ref (g.1 k i) :: As).toArray) free := by
  obtain ⟨q, -, hq⟩ := zW_at (g := g) (σ := σ) hi
  obtain ⟨fs, hc⟩ := hc
  rw [hc] at hq
  exact va_runVN ⟨F.1, F.2.1, F.2.2.1, F.2.2.2.1, F.2.2.2.2.1⟩ hM ⟨va_cnB n F.2.2.2.2.1 hL.2.1 rfl hrm.1 hrm.2.1 (F.2.2.2.2.2.1.2 _ hL.1) (F.2.2.2.2.1 _ hL.2.2.1) hL.2.2.2.2.2 hrm.2.2, F.2.2.2.2.1 _ hL.2.2.2.1, F.2.2.2.2.1 _ hL.2.2.2.2.1⟩ ⟨zblind, va_recv F.2.2.2.2.2.1.1 hP hcl hq, zprec F.2.2.2.2.2.1 hP F.2.2.2.2.2.2.1⟩ rfl hn hl.1 hst (lv_room hW) d ⟨F.2.2.2.2.2.2.2.2.2.2.1, F.2.2.2.2.2.2.2.2.2.2.2⟩
theorem zrun_S (F : zF (p, l, e, R, s, m, args, below, meth, c, Q, g, A, nL, nc, ns) cc own ret) (hL : zLkS own index y cy maxL rty n) (hM : Met l y (zWs y cy maxL rty) rm (va_Pc As (zPre g σ H.size)) Qc 0 0 free) (hrm : rm.cells = 0 ∧ rm.slots = 0 ∧ rm.frames + 1 ≤ R.frames ∧ 8 + (maxL + 11) + rm.locals ≤ R.locals) (hn : As.length = n) (hst : st0 = As.reverse ++ st) (hW : (st.map fun v => v.category).sum ≤ 8) (d : decode cc pc = .ok (.invokestatic index, 3)) (hP : va_P g.2.2 vwCl (zW g σ) H) (hl : zL ls nL lv) : va_Run p l e R s m args below meth c H locs nc ns 0 0 (F0 m pc ls st0) st (Qc As.toArray) free := by
  exact va_runS ⟨F.1, F.2.1, F.2.2.1, F.2.2.2.1, F.2.2.2.2.1⟩ hM (va_cwS n F.2.2.2.2.1 hL.1 rfl hrm.1 hrm.2.1 hL.2 hrm.2.2) ⟨zblind, zprec F.2.2.2.2.2.1 hP F.2.2.2.2.2.2.1⟩ rfl hn hl.1 hst (lv_room hW) d ⟨F.2.2.2.2.2.2.2.2.2.2.1, F.2.2.2.2.2.2.2.2.2.2.2⟩
end ZC
theorem z_callVi {K : zX} {α : Type} {t : α} {pc : Nat} {lv : List (Option Value)} {st st0 : List Value} {σ : zS} {cc cy : ByteArray} {own : String} {ret rty : Option FieldType} {y : MethodName} {index maxL n ci N kq : Nat} {T : u_T} {rm : Room} {av : (Nat → Nat → Nat) → List Value} {oc : Option (Int32 × zS)} {ok : Int32 → zS → Option α} (F : zF K cc own ret) (k i : Nat) (As : List Value) (hL : zLkV own index y cy maxL rty n) (hM : zMi (zln K) y cy maxL rty rm av σ oc) (hav : av (zad K) = .ref (zad K k i) :: As) (hi : i < zLim k) (hc : ∀ g, ∃ fs, zC g (σ k i) k i = .inr (ci, fs)) (hcl : vwCl[ci]? = some (y.cls, T, N)) (hrm : rm.cells = 0 ∧ rm.slots = 0 ∧ rm.frames + 1 ≤ (zrm K).frames ∧ 8 + (maxL + 11) + rm.locals ≤ (zrm K).locals) (hn : As.length = n) (hst : st0 = As.reverse ++ .ref (zad K k i) :: st) (hW : (st.map fun v => v.category).sum ≤ 8) (d : decode cc pc = .ok (.invokevirtual index, 3)) (kk : ∀ r σ1, ZO K t (pc + 3) lv (.int r :: st) σ1 (ok r σ1)) : ZO K t pc lv st0 σ (zCi oc ok) := by
  obtain ⟨p, l, e, R, s, m, args, below, meth, c, Q, g, A, nL, nc, ns⟩ := K
  intro ho H locs ls hP hS hl
  cases hoc : oc with
  | none => rw [hoc] at ho; cases ho
  | some q =>
    obtain ⟨r, σ'⟩ := q
    rw [hoc] at ho
    have hm := hM r σ' hoc g H.size
    rw [show av g.1 = .ref (g.1 k i) :: As from hav] at hm
    have hf := zad_free F.2.2.2.2.2.2.1 F.2.2.2.2.2.2.2.1 hS
    have hrun := zrun_V (st := st) (st0 := st0) (locs := locs) F hL hm hi (hc g) hcl hrm hn hst hW d hP hl
    refine va_calli hrun hS (fun q _ h => hf q h) hf (fun r1 u t1 H1 locs1 ht _ hw hB _ _ hS1 => ?_)
    obtain ⟨rfl, rfl⟩ := hw
    unfold zAt at hB
    rw [ht] at hB
    exact kk _ _ ho H1 locs1 ls hB hS1 hl
theorem z_callVv {K : zX} {α : Type} {t : α} {pc : Nat} {lv : List (Option Value)} {st st0 : List Value} {σ : zS} {cc cy : ByteArray} {own : String} {ret rty : Option FieldType} {y : MethodName} {index maxL n ci N kq : Nat} {T : u_T} {rm : Room} {av : (Nat → Nat → Nat) → List Value} {oc : Option (Int32 × zS)} {ok : zS → Option α} (F : zF K cc own ret) (k i : Nat) (As : List Value) (hL : zLkV own index y cy maxL rty n) (hM : zMv (zln K) y cy maxL rty rm av σ oc) (hav : av (zad K) = .ref (zad K k i) :: As) (hi : i < zLim k) (hc : ∀ g, ∃ fs, zC g (σ k i) k i = .inr (ci, fs)) (hcl : vwCl[ci]? = some (y.cls, T, N)) (hrm : rm.cells = 0 ∧ rm.slots = 0 ∧ rm.frames + 1 ≤ (zrm K).frames ∧ 8 + (maxL + 11) + rm.locals ≤ (zrm K).locals) (hn : As.length = n) (hst : st0 = As.reverse ++ .ref (zad K k i) :: st) (hW : (st.map fun v => v.category).sum ≤ 8) (d : decode cc pc = .ok (.invokevirtual index, 3)) (kk : ∀ σ1, ZO K t (pc + 3) lv st σ1 (ok σ1)) : ZO K t pc lv st0 σ (zCv oc ok) := by
  obtain ⟨p, l, e, R, s, m, args, below, meth, c, Q, g, A, nL, nc, ns⟩ := K
  intro ho H locs ls hP hS hl
  cases hoc : oc with
  | none => rw [hoc] at ho; cases ho
  | some q =>
    obtain ⟨r, σ'⟩ := q
    rw [hoc] at ho
    have hm := hM r σ' hoc g H.size
    rw [show av g.1 = .ref (g.1 k i) :: As from hav] at hm
    have hf := zad_free F.2.2.2.2.2.2.1 F.2.2.2.2.2.2.2.1 hS
    have hrun := zrun_V (st := st) (st0 := st0) (locs := locs) F hL hm hi (hc g) hcl hrm hn hst hW d hP hl
    refine va_callv hrun hS (fun q _ h => hf q h) hf (fun u t1 H1 locs1 ht _ hw hB _ _ hS1 => ?_)
    subst hw
    unfold zAt at hB
    rw [ht] at hB
    exact kk _ ho H1 locs1 ls hB hS1 hl
theorem z_callVq {K : zX} {α : Type} {t : α} {pc : Nat} {lv : List (Option Value)} {st st0 : List Value} {σ : zS} {cc cy : ByteArray} {own : String} {ret rty : Option FieldType} {y : MethodName} {index maxL n ci N kq : Nat} {T : u_T} {rm : Room} {av : (Nat → Nat → Nat) → List Value} {oc : Option (Option Nat × zS)} {okn : zS → Option α} {oks : Nat → zS → Option α} (F : zF K cc own ret) (k i : Nat) (As : List Value) (hL : zLkV own index y cy maxL rty n) (hM : zMq kq (zln K) y cy maxL rty rm av σ oc) (hav : av (zad K) = .ref (zad K k i) :: As) (hi : i < zLim k) (hc : ∀ g, ∃ fs, zC g (σ k i) k i = .inr (ci, fs)) (hcl : vwCl[ci]? = some (y.cls, T, N)) (hrm : rm.cells = 0 ∧ rm.slots = 0 ∧ rm.frames + 1 ≤ (zrm K).frames ∧ 8 + (maxL + 11) + rm.locals ≤ (zrm K).locals) (hn : As.length = n) (hst : st0 = As.reverse ++ .ref (zad K k i) :: st) (hW : (st.map fun v => v.category).sum ≤ 8) (d : decode cc pc = .ok (.invokevirtual index, 3)) (kn : ∀ σ1, ZO K t (pc + 3) lv (.null :: st) σ1 (okn σ1)) (ks : ∀ a σ1, ZO K t (pc + 3) lv (.ref (zad K kq a) :: st) σ1 (oks a σ1)) : ZO K t pc lv st0 σ (zCq oc okn oks) := by
  obtain ⟨p, l, e, R, s, m, args, below, meth, c, Q, g, A, nL, nc, ns⟩ := K
  intro ho H locs ls hP hS hl
  cases hoc : oc with
  | none => rw [hoc] at ho; cases ho
  | some q =>
    obtain ⟨r, σ'⟩ := q
    rw [hoc] at ho
    have hm := hM r σ' hoc g H.size
    rw [show av g.1 = .ref (g.1 k i) :: As from hav] at hm
    have hf := zad_free F.2.2.2.2.2.2.1 F.2.2.2.2.2.2.2.1 hS
    have hrun := zrun_V (st := st) (st0 := st0) (locs := locs) F hL hm hi (hc g) hcl hrm hn hst hW d hP hl
    refine va_callq hrun hS (fun q _ h => hf q h) hf (fun r1 u t1 H1 locs1 ht _ hw hB _ _ hS1 => ?_)
    obtain ⟨rfl, rfl⟩ := hw
    unfold zAt at hB
    rw [ht] at hB
    cases r with
    | none => exact kn _ ho H1 locs1 ls hB hS1 hl
    | some a => exact ks a _ ho H1 locs1 ls hB hS1 hl
theorem z_callNi {K : zX} {α : Type} {t : α} {pc : Nat} {lv : List (Option Value)} {st st0 : List Value} {σ : zS} {cc cy : ByteArray} {own : String} {ret rty : Option FieldType} {y : MethodName} {index maxL n ci N kq : Nat} {T : u_T} {rm : Room} {av : (Nat → Nat → Nat) → List Value} {oc : Option (Int32 × zS)} {ok : Int32 → zS → Option α} {host : String} (F : zF K cc own ret) (k i : Nat) (As : List Value) (hL : zLkN own index y host cy maxL rty n) (hM : zMi (zln K) y cy maxL rty rm av σ oc) (hav : av (zad K) = .ref (zad K k i) :: As) (hi : i < zLim k) (hc : ∀ g, ∃ fs, zC g (σ k i) k i = .inr (ci, fs)) (hcl : vwCl[ci]? = some (y.cls, T, N)) (hrm : rm.cells = 0 ∧ rm.slots = 0 ∧ rm.frames + 1 ≤ (zrm K).frames ∧ 8 + (maxL + 11) + rm.locals ≤ (zrm K).locals) (hn : As.length = n) (hst : st0 = As.reverse ++ .ref (zad K k i) :: st) (hW : (st.map fun v => v.category).sum ≤ 8) (d : decode cc pc = .ok (.invokevirtual index, 3)) (kk : ∀ r σ1, ZO K t (pc + 3) lv (.int r :: st) σ1 (ok r σ1)) : ZO K t pc lv st0 σ (zCi oc ok) := by
  obtain ⟨p, l, e, R, s, m, args, below, meth, c, Q, g, A, nL, nc, ns⟩ := K
  intro ho H locs ls hP hS hl
  cases hoc : oc with
  | none => rw [hoc] at ho; cases ho
  | some q =>
    obtain ⟨r, σ'⟩ := q
    rw [hoc] at ho
    have hm := hM r σ' hoc g H.size
    rw [show av g.1 = .ref (g.1 k i) :: As from hav] at hm
    have hf := zad_free F.2.2.2.2.2.2.1 F.2.2.2.2.2.2.2.1 hS
    have hrun := zrun_N (st := st) (st0 := st0) (locs := locs) F hL hm hi (hc g) hcl hrm hn hst hW d hP hl
    refine va_calli hrun hS (fun q _ h => hf q h) hf (fun r1 u t1 H1 locs1 ht _ hw hB _ _ hS1 => ?_)
    obtain ⟨rfl, rfl⟩ := hw
    unfold zAt at hB
    rw [ht] at hB
    exact kk _ _ ho H1 locs1 ls hB hS1 hl
theorem z_callNv {K : zX} {α : Type} {t : α} {pc : Nat} {lv : List (Option Value)} {st st0 : List Value} {σ : zS} {cc cy : ByteArray} {own : String} {ret rty : Option FieldType} {y : MethodName} {index maxL n ci N kq : Nat} {T : u_T} {rm : Room} {av : (Nat → Nat → Nat) → List Value} {oc : Option (Int32 × zS)} {ok : zS → Option α} {host : String} (F : zF K cc own ret) (k i : Nat) (As : List Value) (hL : zLkN own index y host cy maxL rty n) (hM : zMv (zln K) y cy maxL rty rm av σ oc) (hav : av (zad K) = .ref (zad K k i) :: As) (hi : i < zLim k) (hc : ∀ g, ∃ fs, zC g (σ k i) k i = .inr (ci, fs)) (hcl : vwCl[ci]? = some (y.cls, T, N)) (hrm : rm.cells = 0 ∧ rm.slots = 0 ∧ rm.frames + 1 ≤ (zrm K).frames ∧ 8 + (maxL + 11) + rm.locals ≤ (zrm K).locals) (hn : As.length = n) (hst : st0 = As.reverse ++ .ref (zad K k i) :: st) (hW : (st.map fun v => v.category).sum ≤ 8) (d : decode cc pc = .ok (.invokevirtual index, 3)) (kk : ∀ σ1, ZO K t (pc + 3) lv st σ1 (ok σ1)) : ZO K t pc lv st0 σ (zCv oc ok) := by
  obtain ⟨p, l, e, R, s, m, args, below, meth, c, Q, g, A, nL, nc, ns⟩ := K
  intro ho H locs ls hP hS hl
  cases hoc : oc with
  | none => rw [hoc] at ho; cases ho
  | some q =>
    obtain ⟨r, σ'⟩ := q
    rw [hoc] at ho
    have hm := hM r σ' hoc g H.size
    rw [show av g.1 = .ref (g.1 k i) :: As from hav] at hm
    have hf := zad_free F.2.2.2.2.2.2.1 F.2.2.2.2.2.2.2.1 hS
    have hrun := zrun_N (st := st) (st0 := st0) (locs := locs) F hL hm hi (hc g) hcl hrm hn hst hW d hP hl
    refine va_callv hrun hS (fun q _ h => hf q h) hf (fun u t1 H1 locs1 ht _ hw hB _ _ hS1 => ?_)
    subst hw
    unfold zAt at hB
    rw [ht] at hB
    exact kk _ ho H1 locs1 ls hB hS1 hl
theorem z_callNq {K : zX} {α : Type} {t : α} {pc : Nat} {lv : List (Option Value)} {st st0 : List Value} {σ : zS} {cc cy : ByteArray} {own : String} {ret rty : Option FieldType} {y : MethodName} {index maxL n ci N kq : Nat} {T : u_T} {rm : Room} {av : (Nat → Nat → Nat) → List Value} {oc : Option (Option Nat × zS)} {okn : zS → Option α} {oks : Nat → zS → Option α} {host : String} (F : zF K cc own ret) (k i : Nat) (As : List Value) (hL : zLkN own index y host cy maxL rty n) (hM : zMq kq (zln K) y cy maxL rty rm av σ oc) (hav : av (zad K) = .ref (zad K k i) :: As) (hi : i < zLim k) (hc : ∀ g, ∃ fs, zC g (σ k i) k i = .inr (ci, fs)) (hcl : vwCl[ci]? = some (y.cls, T, N)) (hrm : rm.cells = 0 ∧ rm.slots = 0 ∧ rm.frames + 1 ≤ (zrm K).frames ∧ 8 + (maxL + 11) + rm.locals ≤ (zrm K).locals) (hn : As.length = n) (hst : st0 = As.reverse ++ .ref (zad K k i) :: st) (hW : (st.map fun v => v.category).sum ≤ 8) (d : decode cc pc = .ok (.invokevirtual index, 3)) (kn : ∀ σ1, ZO K t (pc + 3) lv (.null :: st) σ1 (okn σ1)) (ks : ∀ a σ1, ZO K t (pc + 3) lv (.ref (zad K kq a) :: st) σ1 (oks a σ1)) : ZO K t pc lv st0 σ (zCq oc okn oks) := by
  obtain ⟨p, l, e, R, s, m, args, below, meth, c, Q, g, A, nL, nc, ns⟩ := K
  intro ho H locs ls hP hS hl
  cases hoc : oc with
  | none => rw [hoc] at ho; cases ho
  | some q =>
    obtain ⟨r, σ'⟩ := q
    rw [hoc] at ho
    have hm := hM r σ' hoc g H.size
    rw [show av g.1 = .ref (g.1 k i) :: As from hav] at hm
    have hf := zad_free F.2.2.2.2.2.2.1 F.2.2.2.2.2.2.2.1 hS
    have hrun := zrun_N (st := st) (st0 := st0) (locs := locs) F hL hm hi (hc g) hcl hrm hn hst hW d hP hl
    refine va_callq hrun hS (fun q _ h => hf q h) hf (fun r1 u t1 H1 locs1 ht _ hw hB _ _ hS1 => ?_)
    obtain ⟨rfl, rfl⟩ := hw
    unfold zAt at hB
    rw [ht] at hB
    cases r with
    | none => exact kn _ ho H1 locs1 ls hB hS1 hl
    | some a => exact ks a _ ho H1 locs1 ls hB hS1 hl
theorem z_callSi {K : zX} {α : Type} {t : α} {pc : Nat} {lv : List (Option Value)} {st st0 : List Value} {σ : zS} {cc cy : ByteArray} {own : String} {ret rty : Option FieldType} {y : MethodName} {index maxL n ci N kq : Nat} {T : u_T} {rm : Room} {av : (Nat → Nat → Nat) → List Value} {oc : Option (Int32 × zS)} {ok : Int32 → zS → Option α} (F : zF K cc own ret) (As : List Value) (hL : zLkS own index y cy maxL rty n) (hM : zMi (zln K) y cy maxL rty rm av σ oc) (hav : av (zad K) = As) (hrm : rm.cells = 0 ∧ rm.slots = 0 ∧ rm.frames + 1 ≤ (zrm K).frames ∧ 8 + (maxL + 11) + rm.locals ≤ (zrm K).locals) (hn : As.length = n) (hst : st0 = As.reverse ++ st) (hW : (st.map fun v => v.category).sum ≤ 8) (d : decode cc pc = .ok (.invokestatic index, 3)) (kk : ∀ r σ1, ZO K t (pc + 3) lv (.int r :: st) σ1 (ok r σ1)) : ZO K t pc lv st0 σ (zCi oc ok) := by
  obtain ⟨p, l, e, R, s, m, args, below, meth, c, Q, g, A, nL, nc, ns⟩ := K
  intro ho H locs ls hP hS hl
  cases hoc : oc with
  | none => rw [hoc] at ho; cases ho
  | some q =>
    obtain ⟨r, σ'⟩ := q
    rw [hoc] at ho
    have hm := hM r σ' hoc g H.size
    rw [show av g.1 = As from hav] at hm
    have hf := zad_free F.2.2.2.2.2.2.1 F.2.2.2.2.2.2.2.1 hS
    have hrun := zrun_S (st := st) (st0 := st0) (locs := locs) F hL hm hrm hn hst hW d hP hl
    refine va_calli hrun hS (fun q _ h => hf q h) hf (fun r1 u t1 H1 locs1 ht _ hw hB _ _ hS1 => ?_)
    obtain ⟨rfl, rfl⟩ := hw
    unfold zAt at hB
    rw [ht] at hB
    exact kk _ _ ho H1 locs1 ls hB hS1 hl
theorem z_callSv {K : zX} {α : Type} {t : α} {pc : Nat} {lv : List (Option Value)} {st st0 : List Value} {σ : zS} {cc cy : ByteArray} {own : String} {ret rty : Option FieldType} {y : MethodName} {index maxL n ci N kq : Nat} {T : u_T} {rm : Room} {av : (Nat → Nat → Nat) → List Value} {oc : Option (Int32 × zS)} {ok : zS → Option α} (F : zF K cc own ret) (As : List Value) (hL : zLkS own index y cy maxL rty n) (hM : zMv (zln K) y cy maxL rty rm av σ oc) (hav : av (zad K) = As) (hrm : rm.cells = 0 ∧ rm.slots = 0 ∧ rm.frames + 1 ≤ (zrm K).frames ∧ 8 + (maxL + 11) + rm.locals ≤ (zrm K).locals) (hn : As.length = n) (hst : st0 = As.reverse ++ st) (hW : (st.map fun v => v.category).sum ≤ 8) (d : decode cc pc = .ok (.invokestatic index, 3)) (kk : ∀ σ1, ZO K t (pc + 3) lv st σ1 (ok σ1)) : ZO K t pc lv st0 σ (zCv oc ok) := by
  obtain ⟨p, l, e, R, s, m, args, below, meth, c, Q, g, A, nL, nc, ns⟩ := K
  intro ho H locs ls hP hS hl
  cases hoc : oc with
  | none => rw [hoc] at ho; cases ho
  | some q =>
    obtain ⟨r, σ'⟩ := q
    rw [hoc] at ho
    have hm := hM r σ' hoc g H.size
    rw [show av g.1 = As from hav] at hm
    have hf := zad_free F.2.2.2.2.2.2.1 F.2.2.2.2.2.2.2.1 hS
    have hrun := zrun_S (st := st) (st0 := st0) (locs := locs) F hL hm hrm hn hst hW d hP hl
    refine va_callv hrun hS (fun q _ h => hf q h) hf (fun u t1 H1 locs1 ht _ hw hB _ _ hS1 => ?_)
    subst hw
    unfold zAt at hB
    rw [ht] at hB
    exact kk _ ho H1 locs1 ls hB hS1 hl
end
section
/-! more rows -/
def zN : Nat := 20000
def zFg : List Bool → List (Option Value) → List (Option Value)
  | b :: bs, x :: xs => (if b then x else none) :: zFg bs xs
  | [], xs => xs
  | _ :: _, [] => []
theorem zFg_len : ∀ (bs : List Bool) (xs : List (Option Value)), (zFg bs xs).length = xs.length
  | [], _ => rfl
  | _ :: _, [] => rfl
  | b :: bs, x :: xs => by
    show (zFg bs xs).length + 1 = xs.length + 1
    rw [zFg_len bs xs]
theorem zFg_at : ∀ (bs : List Bool) (xs : List (Option Value)) (i : Nat) (v : Value), (zFg bs xs)[i]? = some (some v) → xs[i]? = some (some v)
  | [], _, _, _, h => h
  | _ :: _, [], _, _, h => h
  | b :: bs, x :: xs, 0, v, h => by
    cases b with
    | true => exact h
    | false => cases h
  | b :: bs, x :: xs, i + 1, v, h => zFg_at bs xs i v h
theorem zL.forget {ls : Array Slot} {nL : Nat} {lv : List (Option Value)} (h : zL ls nL lv) (bs : List Bool) : zL ls nL (zFg bs lv) := ⟨h.1, h.2.1, fun i v q => h.2.2.1 i v (zFg_at bs lv i v q), (zFg_len bs lv).trans h.2.2.2.1, fun i v q => h.2.2.2.2 i v (zFg_at bs lv i v q)⟩
theorem zcat {vs : List Value} (h : vs.map Value.category = List.replicate vs.length 1) : ∀ v ∈ vs, v.category = 1 := by
  intro v hv
  have h1 : v.category ∈ vs.map Value.category := List.mem_map.mpr ⟨v, hv, rfl⟩
  rw [h] at h1
  exact (List.mem_replicate.mp h1).2
theorem zNarB {x : Int32} (h : x = 0 ∨ x = 1) : narrow .boolean (.int x) = .int x := by
  rcases h with rfl | rfl <;> decide
theorem zTab {x : Int32} (n : Nat) (h : ∀ j : Nat, j ≤ n → ¬ x = nI j) : x.toInt < 0 ∨ (n : Int) < x.toInt := by
  by_cases h0 : x.toInt < 0
  · exact Or.inl h0
  · refine Or.inr (Int.not_le.mp fun hle => ?_)
    obtain ⟨j, hj, hx⟩ := nI_of (x := x) (fun q => h0 (by have := Int32.lt_iff_toInt_lt.mp q; simpa using this))
    subst hx
    rw [nI_toInt hj] at hle
    exact h j (by omega) rfl
section ZR5
variable {K : zX} {α : Type} {t : α} {pc : Nat} {lv : List (Option Value)} {st : List Value} {σ : zS} {o o1 o2 : Option α} {cc : ByteArray} {own : String} {ret : Option FieldType}
theorem z_wk (bs : List Bool) {lv' : List (Option Value)} (h : zFg bs lv = lv') (kk : ZO K t pc lv' st σ o) : ZO K t pc lv st σ o := by
  subst h
  obtain ⟨p, l, e, R, s, m, args, below, meth, c, Q, g, A, nL, nc, ns⟩ := K
  intro ho H locs ls hP hS hl
  exact kk ho H locs ls hP hS (hl.forget bs)
theorem z_sp {q : Prop} [Decidable q] (kt : q → ZO K t pc lv st σ o1) (kf : ¬ q → ZO K t pc lv st σ o2) : ZO K t pc lv st σ (if q then o1 else o2) := by
  by_cases h : q
  · rw [if_pos h]; exact kt h
  · rw [if_neg h]; exact kf h
theorem z_Bi {x : Int32} {k : Int32 → Option α} (kk : ∀ y, ZO K t pc lv (.int y :: st) σ (k y)) : ZO K t pc lv (.int x :: st) σ (zB x k) := kk x
theorem z_Br {kd x : Nat} {k : Nat → Option α} (kk : ∀ y, ZO K t pc lv (.ref (zad K kd y) :: st) σ (k y)) : ZO K t pc lv (.ref (zad K kd x) :: st) σ (zB x k) := kk x
theorem z_iincB (F : zF K cc own ret) {i : Nat} {n : Int} {x v : Int32} {lv' : Int32 → List (Option Value)} {k : Int32 → Option α} (d : decode cc pc = .ok (.iinc i n, 3)) (h : lv[i]? = some (some (.int x))) (hv : x + Int32.ofInt n = v) (hs : ∀ y, lv.set i (some (.int y)) = lv' y) (kk : ∀ y, ZO K t (pc + 3) (lv' y) st σ (k y)) : ZO K t pc lv st σ (zB v k) := z_iinc F v d h hv (hs v) (kk v)
theorem z_ldcw (F : zF K cc own ret) {index : Nat} {v : Int32} (hw : Cond.constant own index v ∈ zT) (d : decode cc pc = .ok (.ldc_w index, 3)) (kk : ZO K t (pc + 3) lv (.int v :: st) σ o) : ZO K t pc lv st σ o := by
  obtain ⟨p, l, e, R, s, m, args, below, meth, c, Q, g, A, nL, nc, ns⟩ := K
  intro ho H locs ls hP hS hl
  exact lv_ldcw F.1 F.2.1 F.2.2.2.1 (F.2.2.2.2.1 _ hw) d (kk ho H locs ls hP hS hl)
theorem z_astore_nN (F : zF K cc own ret) {k : Fin 4} {lv' : List (Option Value)} (d : decode cc pc = .ok (.astore_n k, 1)) (hn : (k : Nat) < lv.length) (hs : lv.set (k : Nat) (some .null) = lv') (kk : ZO K t (pc + 1) lv' st σ o) : ZO K t pc lv (.null :: st) σ o := by
  obtain ⟨p, l, e, R, s, m, args, below, meth, c, Q, g, A, nL, nc, ns⟩ := K
  intro ho H locs ls hP hS hl
  exact lv_astore_nN F.1 F.2.1 d rfl hl.has (by rw [← hl.2.2.2.1]; exact hn) rfl (fun ls' h' => kk ho H locs ls' hP hS (hl.store rfl (by rw [← hl.2.2.2.1]; exact hn) hs h'))
theorem z_astoreN (F : zF K cc own ret) {i : Nat} {lv' : List (Option Value)} (d : decode cc pc = .ok (.astore i, 2)) (hn : i < lv.length) (hs : lv.set i (some .null) = lv') (kk : ZO K t (pc + 2) lv' st σ o) : ZO K t pc lv (.null :: st) σ o := by
  obtain ⟨p, l, e, R, s, m, args, below, meth, c, Q, g, A, nL, nc, ns⟩ := K
  intro ho H locs ls hP hS hl
  exact lv_astoreN F.1 F.2.1 d hl.has (by rw [← hl.2.2.2.1]; exact hn) rfl (fun ls' h' => kk ho H locs ls' hP hS (hl.store rfl (by rw [← hl.2.2.2.1]; exact hn) hs h'))
end ZR5
end
section
theorem zTin {w : Cond} (h : w ∈ lw_tbl) (hg : goodWord w = true) : w ∈ zT := List.mem_filter.mpr ⟨h, hg⟩
theorem zSel {q : MethodName × Nat} (h : q ∈ lw_privs) : Cond.selects q.1.cls q.1 q.1 ∈ lw_tbl := List.mem_append_left _ (List.mem_map.mpr ⟨q, h, rfl⟩)
theorem zm1 {w : Cond} (h : w ∈ tables_1_1) : w ∈ lw_tbl := List.mem_append_right _ (List.mem_append_left _ h)
theorem zm2 {w : Cond} (h : w ∈ tables_1_2) : w ∈ lw_tbl := List.mem_append_right _ (List.mem_append_right _ (List.mem_append_left _ h))
theorem zm3 {w : Cond} (h : w ∈ tables_1_3) : w ∈ lw_tbl := List.mem_append_right _ (List.mem_append_right _ (List.mem_append_right _ (List.mem_append_left _ h)))
theorem zm4 {w : Cond} (h : w ∈ tables_1_4) : w ∈ lw_tbl := List.mem_append_right _ (List.mem_append_right _ (List.mem_append_right _ (List.mem_append_right _ (List.mem_append_left _ h))))
theorem zm5 {w : Cond} (h : w ∈ tables_1_5) : w ∈ lw_tbl := List.mem_append_right _ (List.mem_append_right _ (List.mem_append_right _ (List.mem_append_right _ (List.mem_append_right _ h))))
theorem zul0 : ∀ k, k < 2 → u_lay RX0 TX0 k ∈ zT := fun k hk => match k, hk with | 0, _ => (zTin (zm1 (List.mem_of_getElem? (i := 111) rfl)) rfl) | 1, _ => (zTin (zm1 (List.mem_of_getElem? (i := 113) rfl)) rfl) | (k + 2), hk => absurd hk (by omega)
theorem inlX0 : ∀ w ∈ u_ws RX0 TX0 2, w ∈ zT := fun w hw => by
  obtain ⟨k, hk, rfl⟩ := List.mem_map.mp hw
  exact zul0 k (List.mem_range.mp hk)
theorem zul1 : ∀ k, k < 3 → u_lay RX1 TX1 k ∈ zT := fun k hk => match k, hk with | 0, _ => (zTin (zm1 (List.mem_of_getElem? (i := 156) rfl)) rfl) | 1, _ => (zTin (zm1 (List.mem_of_getElem? (i := 158) rfl)) rfl) | 2, _ => (zTin (zm1 (List.mem_of_getElem? (i := 160) rfl)) rfl) | (k + 3), hk => absurd hk (by omega)
theorem inlX1 : ∀ w ∈ u_ws RX1 TX1 3, w ∈ zT := fun w hw => by
  obtain ⟨k, hk, rfl⟩ := List.mem_map.mp hw
  exact zul1 k (List.mem_range.mp hk)
theorem zul2 : ∀ k, k < 6 → u_lay RX2 TX2 k ∈ zT := fun k hk => match k, hk with | 0, _ => (zTin (zm1 (List.mem_of_getElem? (i := 172) rfl)) rfl) | 1, _ => (zTin (zm1 (List.mem_of_getElem? (i := 174) rfl)) rfl) | 2, _ => (zTin (zm1 (List.mem_of_getElem? (i := 176) rfl)) rfl) | 3, _ => (zTin (zm1 (List.mem_of_getElem? (i := 178) rfl)) rfl) | 4, _ => (zTin (zm1 (List.mem_of_getElem? (i := 180) rfl)) rfl) | 5, _ => (zTin (zm1 (List.mem_of_getElem? (i := 182) rfl)) rfl) | (k + 6), hk => absurd hk (by omega)
theorem inlX2 : ∀ w ∈ u_ws RX2 TX2 6, w ∈ zT := fun w hw => by
  obtain ⟨k, hk, rfl⟩ := List.mem_map.mp hw
  exact zul2 k (List.mem_range.mp hk)
theorem zul3 : ∀ k, k < 2 → u_lay RX3 TX3 k ∈ zT := fun k hk => match k, hk with | 0, _ => (zTin (zm1 (List.mem_of_getElem? (i := 143) rfl)) rfl) | 1, _ => (zTin (zm1 (List.mem_of_getElem? (i := 145) rfl)) rfl) | (k + 2), hk => absurd hk (by omega)
theorem inlX3 : ∀ w ∈ u_ws RX3 TX3 2, w ∈ zT := fun w hw => by
  obtain ⟨k, hk, rfl⟩ := List.mem_map.mp hw
  exact zul3 k (List.mem_range.mp hk)
theorem zul4 : ∀ k, k < 2 → u_lay RX4 TX4 k ∈ zT := fun k hk => match k, hk with | 0, _ => (zTin (zm1 (List.mem_of_getElem? (i := 193) rfl)) rfl) | 1, _ => (zTin (zm1 (List.mem_of_getElem? (i := 195) rfl)) rfl) | (k + 2), hk => absurd hk (by omega)
theorem inlX4 : ∀ w ∈ u_ws RX4 TX4 2, w ∈ zT := fun w hw => by
  obtain ⟨k, hk, rfl⟩ := List.mem_map.mp hw
  exact zul4 k (List.mem_range.mp hk)
theorem zul5 : ∀ k, k < 3 → u_lay RX5 TX5 k ∈ zT := fun k hk => match k, hk with | 0, _ => (zTin (zm1 (List.mem_of_getElem? (i := 46) rfl)) rfl) | 1, _ => (zTin (zm1 (List.mem_of_getElem? (i := 48) rfl)) rfl) | 2, _ => (zTin (zm1 (List.mem_of_getElem? (i := 50) rfl)) rfl) | (k + 3), hk => absurd hk (by omega)
theorem inlX5 : ∀ w ∈ u_ws RX5 TX5 3, w ∈ zT := fun w hw => by
  obtain ⟨k, hk, rfl⟩ := List.mem_map.mp hw
  exact zul5 k (List.mem_range.mp hk)
theorem zul6 : ∀ k, k < 8 → u_lay RX6 TX6 k ∈ zT := fun k hk => match k, hk with | 0, _ => (zTin (zm1 (List.mem_of_getElem? (i := 69) rfl)) rfl) | 1, _ => (zTin (zm1 (List.mem_of_getElem? (i := 71) rfl)) rfl) | 2, _ => (zTin (zm1 (List.mem_of_getElem? (i := 73) rfl)) rfl) | 3, _ => (zTin (zm1 (List.mem_of_getElem? (i := 75) rfl)) rfl) | 4, _ => (zTin (zm1 (List.mem_of_getElem? (i := 77) rfl)) rfl) | 5, _ => (zTin (zm1 (List.mem_of_getElem? (i := 79) rfl)) rfl) | 6, _ => (zTin (zm1 (List.mem_of_getElem? (i := 81) rfl)) rfl) | 7, _ => (zTin (zm1 (List.mem_of_getElem? (i := 83) rfl)) rfl) | (k + 8), hk => absurd hk (by omega)
theorem inlX6 : ∀ w ∈ u_ws RX6 TX6 8, w ∈ zT := fun w hw => by
  obtain ⟨k, hk, rfl⟩ := List.mem_map.mp hw
  exact zul6 k (List.mem_range.mp hk)
theorem zul7 : ∀ k, k < 2 → u_lay RX7 TX7 k ∈ zT := fun k hk => match k, hk with | 0, _ => (zTin (zm1 (List.mem_of_getElem? (i := 95) rfl)) rfl) | 1, _ => (zTin (zm1 (List.mem_of_getElem? (i := 97) rfl)) rfl) | (k + 2), hk => absurd hk (by omega)
theorem inlX7 : ∀ w ∈ u_ws RX7 TX7 2, w ∈ zT := fun w hw => by
  obtain ⟨k, hk, rfl⟩ := List.mem_map.mp hw
  exact zul7 k (List.mem_range.mp hk)
theorem zul8 : ∀ k, k < 5 → u_lay RX8 TX8 k ∈ zT := fun k hk => match k, hk with | 0, _ => (zTin (zm1 (List.mem_of_getElem? (i := 203) rfl)) rfl) | 1, _ => (zTin (zm1 (List.mem_of_getElem? (i := 205) rfl)) rfl) | 2, _ => (zTin (zm1 (List.mem_of_getElem? (i := 207) rfl)) rfl) | 3, _ => (zTin (zm1 (List.mem_of_getElem? (i := 209) rfl)) rfl) | 4, _ => (zTin (zm1 (List.mem_of_getElem? (i := 211) rfl)) rfl) | (k + 5), hk => absurd hk (by omega)
theorem inlX8 : ∀ w ∈ u_ws RX8 TX8 5, w ∈ zT := fun w hw => by
  obtain ⟨k, hk, rfl⟩ := List.mem_map.mp hw
  exact zul8 k (List.mem_range.mp hk)
theorem zul9 : ∀ k, k < 27 → u_lay RX9 TX9 k ∈ zT := fun k hk => match k, hk with | 0, _ => (zTin (zm3 (List.mem_of_getElem? (i := 199) rfl)) rfl) | 1, _ => (zTin (zm3 (List.mem_of_getElem? (i := 201) rfl)) rfl) | 2, _ => (zTin (zm3 (List.mem_of_getElem? (i := 203) rfl)) rfl) | 3, _ => (zTin (zm3 (List.mem_of_getElem? (i := 205) rfl)) rfl) | 4, _ => (zTin (zm3 (List.mem_of_getElem? (i := 207) rfl)) rfl) | 5, _ => (zTin (zm3 (List.mem_of_getElem? (i := 209) rfl)) rfl) | 6, _ => (zTin (zm3 (List.mem_of_getElem? (i := 211) rfl)) rfl) | 7, _ => (zTin (zm3 (List.mem_of_getElem? (i := 213) rfl)) rfl) | 8, _ => (zTin (zm3 (List.mem_of_getElem? (i := 215) rfl)) rfl) | 9, _ => (zTin (zm3 (List.mem_of_getElem? (i := 217) rfl)) rfl) | 10, _ => (zTin (zm3 (List.mem_of_getElem? (i := 219) rfl)) rfl) | 11, _ => (zTin (zm3 (List.mem_of_getElem? (i := 221) rfl)) rfl) | 12, _ => (zTin (zm3 (List.mem_of_getElem? (i := 223) rfl)) rfl) | 13, _ => (zTin (zm3 (List.mem_of_getElem? (i := 225) rfl)) rfl) | 14, _ => (zTin (zm3 (List.mem_of_getElem? (i := 227) rfl)) rfl) | 15, _ => (zTin (zm3 (List.mem_of_getElem? (i := 229) rfl)) rfl) | 16, _ => (zTin (zm3 (List.mem_of_getElem? (i := 231) rfl)) rfl) | 17, _ => (zTin (zm3 (List.mem_of_getElem? (i := 233) rfl)) rfl) | 18, _ => (zTin (zm3 (List.mem_of_getElem? (i := 235) rfl)) rfl) | 19, _ => (zTin (zm3 (List.mem_of_getElem? (i := 237) rfl)) rfl) | 20, _ => (zTin (zm3 (List.mem_of_getElem? (i := 239) rfl)) rfl) | 21, _ => (zTin (zm4 (List.mem_of_getElem? (i := 1) rfl)) rfl) | 22, _ => (zTin (zm4 (List.mem_of_getElem? (i := 3) rfl)) rfl) | 23, _ => (zTin (zm4 (List.mem_of_getElem? (i := 5) rfl)) rfl) | 24, _ => (zTin (zm4 (List.mem_of_getElem? (i := 7) rfl)) rfl) | 25, _ => (zTin (zm4 (List.mem_of_getElem? (i := 9) rfl)) rfl) | 26, _ => (zTin (zm4 (List.mem_of_getElem? (i := 11) rfl)) rfl) | (k + 27), hk => absurd hk (by omega)
theorem inlX9 : ∀ w ∈ u_ws RX9 TX9 27, w ∈ zT := fun w hw => by
  obtain ⟨k, hk, rfl⟩ := List.mem_map.mp hw
  exact zul9 k (List.mem_range.mp hk)
theorem lk_RX0_9 : Cond.fieldLink RX0 9 "AddedLetters$Field" "p" "I" ∈ zT := (zTin (zm1 (List.mem_of_getElem? (i := 106) rfl)) rfl)
theorem lk_RX0_15 : Cond.fieldLink RX0 15 "AddedLetters$Field" "seed" "I" ∈ zT := (zTin (zm1 (List.mem_of_getElem? (i := 109) rfl)) rfl)
theorem lk_RX1_11 : Cond.fieldLink RX1 11 "AddedLetters$Generation" "nodes" "[LAddedLetters$Node;" ∈ zT := (zTin (zm1 (List.mem_of_getElem? (i := 149) rfl)) rfl)
theorem lk_RX1_18 : Cond.fieldLink RX1 18 "AddedLetters$Generation" "number" "I" ∈ zT := (zTin (zm1 (List.mem_of_getElem? (i := 151) rfl)) rfl)
theorem lk_RX1_22 : Cond.fieldLink RX1 22 "AddedLetters$Generation" "n" "I" ∈ zT := (zTin (zm1 (List.mem_of_getElem? (i := 154) rfl)) rfl)
theorem lk_RX2_11 : Cond.fieldLink RX2 11 "AddedLetters$Mixing" "slots" "[LAddedLetters$Generation;" ∈ zT := (zTin (zm1 (List.mem_of_getElem? (i := 163) rfl)) rfl)
theorem lk_RX2_17 : Cond.fieldLink RX2 17 "AddedLetters$Mixing" "mixed" "[I" ∈ zT := (zTin (zm1 (List.mem_of_getElem? (i := 166) rfl)) rfl)
theorem lk_RX2_21 : Cond.fieldLink RX2 21 "AddedLetters$Mixing" "raisable" "[Z" ∈ zT := (zTin (zm1 (List.mem_of_getElem? (i := 167) rfl)) rfl)
theorem lk_RX2_25 : Cond.fieldLink RX2 25 "AddedLetters$Mixing" "field" "LAddedLetters$Field;" ∈ zT := (zTin (zm1 (List.mem_of_getElem? (i := 165) rfl)) rfl)
theorem lk_RX2_30 : Cond.fieldLink RX2 30 "AddedLetters$Mixing" "open" "I" ∈ zT := (zTin (zm1 (List.mem_of_getElem? (i := 168) rfl)) rfl)
theorem lk_RX2_34 : Cond.fieldLink RX2 34 "AddedLetters$Mixing" "begun" "I" ∈ zT := (zTin (zm1 (List.mem_of_getElem? (i := 170) rfl)) rfl)
theorem lk_RX2_37 : Cond.fieldLinkNest RX2 37 "AddedLetters$Generation" "number" "I" "AddedLetters" ∈ zNest := List.mem_of_getElem? (i := 21) rfl
theorem lk_RX2_44 : Cond.fieldLinkNest RX2 44 "AddedLetters$Generation" "nodes" "[LAddedLetters$Node;" "AddedLetters" ∈ zNest := List.mem_of_getElem? (i := 20) rfl
theorem lk_RX2_71 : Cond.fieldLinkNest RX2 71 "AddedLetters$Node" "led" "[Z" "AddedLetters" ∈ zNest := List.mem_of_getElem? (i := 19) rfl
theorem lk_RX2_74 : Cond.fieldLinkNest RX2 74 "AddedLetters$Node" "cells" "[[I" "AddedLetters" ∈ zNest := List.mem_of_getElem? (i := 17) rfl
theorem lk_RX2_82 : Cond.fieldLinkNest RX2 82 "AddedLetters$Field" "p" "I" "AddedLetters" ∈ zNest := List.mem_of_getElem? (i := 14) rfl
theorem lk_RX3_11 : Cond.fieldLink RX3 11 "AddedLetters$Node" "cells" "[[I" ∈ zT := (zTin (zm1 (List.mem_of_getElem? (i := 138) rfl)) rfl)
theorem lk_RX3_16 : Cond.fieldLink RX3 16 "AddedLetters$Node" "led" "[Z" ∈ zT := (zTin (zm1 (List.mem_of_getElem? (i := 140) rfl)) rfl)
theorem lk_RX4_9 : Cond.fieldLink RX4 9 "AddedLetters$Paper" "codes" "[I" ∈ zT := (zTin (zm1 (List.mem_of_getElem? (i := 191) rfl)) rfl)
theorem lk_RX4_15 : Cond.fieldLink RX4 15 "AddedLetters$Paper" "size" "I" ∈ zT := (zTin (zm1 (List.mem_of_getElem? (i := 192) rfl)) rfl)
theorem lk_RX4_29 : Cond.fieldLinkNest RX4 29 "AddedLetters$Node" "led" "[Z" "AddedLetters" ∈ zNest := List.mem_of_getElem? (i := 18) rfl
theorem lk_RX5_9 : Cond.fieldLink RX5 9 "AddedLetters$Queue" "letters" "[I" ∈ zT := (zTin (zm1 (List.mem_of_getElem? (i := 37) rfl)) rfl)
theorem lk_RX5_15 : Cond.fieldLink RX5 15 "AddedLetters$Queue" "stations" "[I" ∈ zT := (zTin (zm1 (List.mem_of_getElem? (i := 40) rfl)) rfl)
theorem lk_RX5_18 : Cond.fieldLink RX5 18 "AddedLetters$Queue" "size" "I" ∈ zT := (zTin (zm1 (List.mem_of_getElem? (i := 43) rfl)) rfl)
theorem lk_RX6_9 : Cond.fieldLink RX6 9 "AddedLetters$Relay" "bodies" "[I" ∈ zT := (zTin (zm1 (List.mem_of_getElem? (i := 54) rfl)) rfl)
theorem lk_RX6_15 : Cond.fieldLink RX6 15 "AddedLetters$Relay" "held" "[I" ∈ zT := (zTin (zm1 (List.mem_of_getElem? (i := 55) rfl)) rfl)
theorem lk_RX6_21 : Cond.fieldLink RX6 21 "AddedLetters$Relay" "queue" "LAddedLetters$Queue;" ∈ zT := (zTin (zm1 (List.mem_of_getElem? (i := 57) rfl)) rfl)
theorem lk_RX6_25 : Cond.fieldLink RX6 25 "AddedLetters$Relay" "onAir" "I" ∈ zT := (zTin (zm1 (List.mem_of_getElem? (i := 61) rfl)) rfl)
theorem lk_RX6_29 : Cond.fieldLink RX6 29 "AddedLetters$Relay" "limit" "I" ∈ zT := (zTin (zm1 (List.mem_of_getElem? (i := 63) rfl)) rfl)
theorem lk_RX6_32 : Cond.fieldLink RX6 32 "AddedLetters$Relay" "there" "I" ∈ zT := (zTin (zm1 (List.mem_of_getElem? (i := 59) rfl)) rfl)
theorem lk_RX6_51 : Cond.fieldLinkNest RX6 51 "AddedLetters$Queue" "size" "I" "AddedLetters" ∈ zNest := List.mem_of_getElem? (i := 5) rfl
theorem lk_RX6_54 : Cond.fieldLink RX6 54 "AddedLetters$Relay" "sent" "I" ∈ zT := (zTin (zm1 (List.mem_of_getElem? (i := 65) rfl)) rfl)
theorem lk_RX6_57 : Cond.fieldLink RX6 57 "AddedLetters$Relay" "served" "I" ∈ zT := (zTin (zm1 (List.mem_of_getElem? (i := 67) rfl)) rfl)
theorem lk_RX6_72 : Cond.fieldLinkNest RX6 72 "AddedLetters$Queue" "stations" "[I" "AddedLetters" ∈ zNest := List.mem_of_getElem? (i := 3) rfl
theorem lk_RX6_75 : Cond.fieldLinkNest RX6 75 "AddedLetters$Queue" "letters" "[I" "AddedLetters" ∈ zNest := List.mem_of_getElem? (i := 1) rfl
theorem lk_RX7_9 : Cond.fieldLink RX7 9 "AddedLetters$Tape" "codes" "[I" ∈ zT := (zTin (zm1 (List.mem_of_getElem? (i := 92) rfl)) rfl)
theorem lk_RX7_15 : Cond.fieldLink RX7 15 "AddedLetters$Tape" "size" "I" ∈ zT := (zTin (zm1 (List.mem_of_getElem? (i := 93) rfl)) rfl)
theorem lk_RX8_12 : Cond.fieldLink RX8 12 "AddedLetters" "relay" "LAddedLetters$Relay;" ∈ zT := (zTin (zm1 (List.mem_of_getElem? (i := 198) rfl)) rfl)
theorem lk_RX8_19 : Cond.fieldLink RX8 19 "AddedLetters" "tape" "LAddedLetters$Tape;" ∈ zT := (zTin (zm1 (List.mem_of_getElem? (i := 199) rfl)) rfl)
theorem lk_RX8_26 : Cond.fieldLink RX8 26 "AddedLetters" "field" "LAddedLetters$Field;" ∈ zT := (zTin (zm1 (List.mem_of_getElem? (i := 200) rfl)) rfl)
theorem lk_RX8_35 : Cond.fieldLink RX8 35 "AddedLetters" "mixing" "LAddedLetters$Mixing;" ∈ zT := (zTin (zm1 (List.mem_of_getElem? (i := 201) rfl)) rfl)
theorem lk_RX8_42 : Cond.fieldLink RX8 42 "AddedLetters" "paper" "LAddedLetters$Paper;" ∈ zT := (zTin (zm1 (List.mem_of_getElem? (i := 202) rfl)) rfl)
theorem lk_RX8_71 : Cond.fieldLinkNest RX8 71 "AddedLetters$Relay" "queue" "LAddedLetters$Queue;" "AddedLetters" ∈ zNest := List.mem_of_getElem? (i := 7) rfl
theorem lk_RX8_84 : Cond.fieldLinkNest RX8 84 "AddedLetters$Queue" "size" "I" "AddedLetters" ∈ zNest := List.mem_of_getElem? (i := 4) rfl
theorem lk_RX8_88 : Cond.fieldLinkNest RX8 88 "AddedLetters$Relay" "onAir" "I" "AddedLetters" ∈ zNest := List.mem_of_getElem? (i := 9) rfl
theorem lk_RX8_91 : Cond.fieldLinkNest RX8 91 "AddedLetters$Relay" "limit" "I" "AddedLetters" ∈ zNest := List.mem_of_getElem? (i := 10) rfl
theorem lk_RX8_97 : Cond.fieldLinkNest RX8 97 "AddedLetters$Queue" "letters" "[I" "AddedLetters" ∈ zNest := List.mem_of_getElem? (i := 0) rfl
theorem lk_RX8_101 : Cond.fieldLinkNest RX8 101 "AddedLetters$Queue" "stations" "[I" "AddedLetters" ∈ zNest := List.mem_of_getElem? (i := 2) rfl
theorem lk_RX8_104 : Cond.fieldLinkNest RX8 104 "AddedLetters$Relay" "held" "[I" "AddedLetters" ∈ zNest := List.mem_of_getElem? (i := 6) rfl
theorem lk_RX8_131 : Cond.fieldLinkNest RX8 131 "AddedLetters$Tape" "size" "I" "AddedLetters" ∈ zNest := List.mem_of_getElem? (i := 13) rfl
theorem lk_RX8_135 : Cond.fieldLinkNest RX8 135 "AddedLetters$Field" "p" "I" "AddedLetters" ∈ zNest := List.mem_of_getElem? (i := 15) rfl
theorem lk_RX8_160 : Cond.fieldLinkNest RX8 160 "AddedLetters$Generation" "n" "I" "AddedLetters" ∈ zNest := List.mem_of_getElem? (i := 23) rfl
theorem lk_RX8_189 : Cond.fieldLinkNest RX8 189 "AddedLetters$Mixing" "open" "I" "AddedLetters" ∈ zNest := List.mem_of_getElem? (i := 25) rfl
theorem lk_RX8_192 : Cond.fieldLinkNest RX8 192 "AddedLetters$Mixing" "slots" "[LAddedLetters$Generation;" "AddedLetters" ∈ zNest := List.mem_of_getElem? (i := 24) rfl
theorem lk_RX8_196 : Cond.fieldLinkNest RX8 196 "AddedLetters$Generation" "number" "I" "AddedLetters" ∈ zNest := List.mem_of_getElem? (i := 22) rfl
theorem lk_RX8_209 : Cond.fieldLinkNest RX8 209 "AddedLetters$Relay" "there" "I" "AddedLetters" ∈ zNest := List.mem_of_getElem? (i := 8) rfl
theorem lk_RX8_217 : Cond.fieldLinkNest RX8 217 "AddedLetters$Relay" "sent" "I" "AddedLetters" ∈ zNest := List.mem_of_getElem? (i := 11) rfl
theorem lk_RX8_220 : Cond.fieldLinkNest RX8 220 "AddedLetters$Relay" "served" "I" "AddedLetters" ∈ zNest := List.mem_of_getElem? (i := 12) rfl
theorem lk_RX8_223 : Cond.fieldLinkNest RX8 223 "AddedLetters$Mixing" "begun" "I" "AddedLetters" ∈ zNest := List.mem_of_getElem? (i := 26) rfl
theorem lk_RX8_226 : Cond.fieldLinkNest RX8 226 "AddedLetters$Field" "seed" "I" "AddedLetters" ∈ zNest := List.mem_of_getElem? (i := 16) rfl
theorem lk_RX9_7 : Cond.fieldLink RX9 7 "AddedLettersModel" "bodyOf" "[I" ∈ zT := (zTin (zm3 (List.mem_of_getElem? (i := 173) rfl)) rfl)
theorem lk_RX9_13 : Cond.fieldLink RX9 13 "AddedLettersModel" "has" "[I" ∈ zT := (zTin (zm3 (List.mem_of_getElem? (i := 174) rfl)) rfl)
theorem lk_RX9_16 : Cond.fieldLink RX9 16 "AddedLettersModel" "entryLetter" "[I" ∈ zT := (zTin (zm3 (List.mem_of_getElem? (i := 176) rfl)) rfl)
theorem lk_RX9_19 : Cond.fieldLink RX9 19 "AddedLettersModel" "entryStation" "[I" ∈ zT := (zTin (zm3 (List.mem_of_getElem? (i := 177) rfl)) rfl)
theorem lk_RX9_22 : Cond.fieldLink RX9 22 "AddedLettersModel" "air" "I" ∈ zT := (zTin (zm3 (List.mem_of_getElem? (i := 178) rfl)) rfl)
theorem lk_RX9_26 : Cond.fieldLink RX9 26 "AddedLettersModel" "most" "I" ∈ zT := (zTin (zm3 (List.mem_of_getElem? (i := 179) rfl)) rfl)
theorem lk_RX9_29 : Cond.fieldLink RX9 29 "AddedLettersModel" "tape" "[I" ∈ zT := (zTin (zm3 (List.mem_of_getElem? (i := 182) rfl)) rfl)
theorem lk_RX9_32 : Cond.fieldLink RX9 32 "AddedLettersModel" "prime" "I" ∈ zT := (zTin (zm3 (List.mem_of_getElem? (i := 184) rfl)) rfl)
theorem lk_RX9_35 : Cond.fieldLink RX9 35 "AddedLettersModel" "numberAt" "[I" ∈ zT := (zTin (zm3 (List.mem_of_getElem? (i := 187) rfl)) rfl)
theorem lk_RX9_38 : Cond.fieldLink RX9 38 "AddedLettersModel" "sizeAt" "[I" ∈ zT := (zTin (zm3 (List.mem_of_getElem? (i := 188) rfl)) rfl)
theorem lk_RX9_41 : Cond.fieldLink RX9 41 "AddedLettersModel" "rankAt" "[I" ∈ zT := (zTin (zm3 (List.mem_of_getElem? (i := 189) rfl)) rfl)
theorem lk_RX9_44 : Cond.fieldLink RX9 44 "AddedLettersModel" "cells" "[I" ∈ zT := (zTin (zm3 (List.mem_of_getElem? (i := 190) rfl)) rfl)
theorem lk_RX9_47 : Cond.fieldLink RX9 47 "AddedLettersModel" "seed" "I" ∈ zT := (zTin (zm3 (List.mem_of_getElem? (i := 191) rfl)) rfl)
theorem lk_RX9_50 : Cond.fieldLink RX9 50 "AddedLettersModel" "wordPrime" "[I" ∈ zT := (zTin (zm3 (List.mem_of_getElem? (i := 192) rfl)) rfl)
theorem lk_RX9_53 : Cond.fieldLink RX9 53 "AddedLettersModel" "wordLong" "[I" ∈ zT := (zTin (zm3 (List.mem_of_getElem? (i := 193) rfl)) rfl)
theorem lk_RX9_56 : Cond.fieldLink RX9 56 "AddedLettersModel" "wordCodes" "[I" ∈ zT := (zTin (zm3 (List.mem_of_getElem? (i := 194) rfl)) rfl)
theorem lk_RX9_59 : Cond.fieldLink RX9 59 "AddedLettersModel" "mixed" "[I" ∈ zT := (zTin (zm3 (List.mem_of_getElem? (i := 195) rfl)) rfl)
theorem lk_RX9_62 : Cond.fieldLink RX9 62 "AddedLettersModel" "rest" "[I" ∈ zT := (zTin (zm3 (List.mem_of_getElem? (i := 196) rfl)) rfl)
theorem lk_RX9_65 : Cond.fieldLink RX9 65 "AddedLettersModel" "text" "[I" ∈ zT := (zTin (zm3 (List.mem_of_getElem? (i := 197) rfl)) rfl)
theorem lk_RX9_72 : Cond.fieldLink RX9 72 "AddedLettersModel" "there" "I" ∈ zT := (zTin (zm3 (List.mem_of_getElem? (i := 172) rfl)) rfl)
theorem lk_RX9_79 : Cond.fieldLink RX9 79 "AddedLettersModel" "entries" "I" ∈ zT := (zTin (zm3 (List.mem_of_getElem? (i := 175) rfl)) rfl)
theorem lk_RX9_96 : Cond.fieldLink RX9 96 "AddedLettersModel" "sent" "I" ∈ zT := (zTin (zm3 (List.mem_of_getElem? (i := 180) rfl)) rfl)
theorem lk_RX9_99 : Cond.fieldLink RX9 99 "AddedLettersModel" "served" "I" ∈ zT := (zTin (zm3 (List.mem_of_getElem? (i := 181) rfl)) rfl)
theorem lk_RX9_134 : Cond.fieldLink RX9 134 "AddedLettersModel" "taped" "I" ∈ zT := (zTin (zm3 (List.mem_of_getElem? (i := 183) rfl)) rfl)
theorem lk_RX9_140 : Cond.fieldLink RX9 140 "AddedLettersModel" "open" "I" ∈ zT := (zTin (zm3 (List.mem_of_getElem? (i := 186) rfl)) rfl)
theorem lk_RX9_143 : Cond.fieldLink RX9 143 "AddedLettersModel" "everOpened" "I" ∈ zT := (zTin (zm3 (List.mem_of_getElem? (i := 185) rfl)) rfl)
theorem lk_RX9_199 : Cond.fieldLink RX9 199 "AddedLettersModel" "written" "I" ∈ zT := (zTin (zm3 (List.mem_of_getElem? (i := 198) rfl)) rfl)
theorem kc_RJ6_265 : Cond.constant RJ6 265 1431655765 ∈ zT := (zTin (zm2 (List.mem_of_getElem? (i := 75) rfl)) rfl)
theorem kc_RJ6_266 : Cond.constant RJ6 266 858993459 ∈ zT := (zTin (zm2 (List.mem_of_getElem? (i := 76) rfl)) rfl)
theorem kc_RJ6_267 : Cond.constant RJ6 267 252645135 ∈ zT := (zTin (zm2 (List.mem_of_getElem? (i := 77) rfl)) rfl)
theorem kc_RX0_28 : Cond.constant RX0 28 69069 ∈ zT := (zTin (zm3 (List.mem_of_getElem? (i := 75) rfl)) rfl)
theorem kc_RX8_229 : Cond.constant RX8 229 65535 ∈ zT := (zTin (zm3 (List.mem_of_getElem? (i := 165) rfl)) rfl)
theorem kc_RX9_182 : Cond.constant RX9 182 69069 ∈ zT := (zTin (zm4 (List.mem_of_getElem? (i := 212) rfl)) rfl)
theorem kc_RX9_212 : Cond.constant RX9 212 65535 ∈ zT := (zTin (zm5 (List.mem_of_getElem? (i := 33) rfl)) rfl)
theorem cl_RX0_18 : zLkS RX0 18 yJ9_floorMod_7cf53 cJ9_floorMod_7cf53 3 (some .int) 2 := zLkS.mk (zTin (zm2 (List.mem_of_getElem? (i := 230) rfl)) rfl) (zTin (zm2 (List.mem_of_getElem? (i := 231) rfl)) rfl) (zTin (zm1 (List.mem_of_getElem? (i := 16) rfl)) rfl) (zTin (zm2 (List.mem_of_getElem? (i := 232) rfl)) rfl) (by decide +kernel)
theorem cl_RX0_24 : zLkV RX0 24 yX0_left cX0_left 2 (some .int) 1 := zLkV.mk (zTin (zm3 (List.mem_of_getElem? (i := 10) rfl)) rfl) (zTin (zm2 (List.mem_of_getElem? (i := 228) rfl)) rfl) (zTin (zSel (List.mem_of_getElem? (i := 28) rfl)) rfl) (zTin (zm1 (List.mem_of_getElem? (i := 5) rfl)) rfl) (zTin (zm2 (List.mem_of_getElem? (i := 229) rfl)) rfl) (by decide +kernel)
theorem cl_RX1_25 : zLkN RX1 25 yX3_clear "AddedLetters" cX3_clear 2 none 0 := zLkN.mk (List.mem_of_getElem? (i := 58) rfl) (zTin (zm2 (List.mem_of_getElem? (i := 220) rfl)) rfl) (zTin (zSel (List.mem_of_getElem? (i := 26) rfl)) rfl) (zTin (zm1 (List.mem_of_getElem? (i := 8) rfl)) rfl) (zTin (zm2 (List.mem_of_getElem? (i := 221) rfl)) rfl) (by decide +kernel)
theorem cl_RX1_28 : zLkN RX1 28 yX3_height "AddedLetters" cX3_height 3 (some .int) 0 := zLkN.mk (List.mem_of_getElem? (i := 79) rfl) (zTin (zm3 (List.mem_of_getElem? (i := 28) rfl)) rfl) (zTin (zSel (List.mem_of_getElem? (i := 35) rfl)) rfl) (zTin (zm1 (List.mem_of_getElem? (i := 8) rfl)) rfl) (zTin (zm3 (List.mem_of_getElem? (i := 29) rfl)) rfl) (by decide +kernel)
theorem cl_RX2_40 : zLkV RX2 40 yX2_find cX2_find 3 (some (.object "AddedLetters$Generation")) 1 := zLkV.mk (zTin (zm3 (List.mem_of_getElem? (i := 22) rfl)) rfl) (zTin (zm3 (List.mem_of_getElem? (i := 24) rfl)) rfl) (zTin (zSel (List.mem_of_getElem? (i := 34) rfl)) rfl) (zTin (zm1 (List.mem_of_getElem? (i := 6) rfl)) rfl) (zTin (zm3 (List.mem_of_getElem? (i := 25) rfl)) rfl) (by decide +kernel)
theorem cl_RX2_48 : zLkN RX2 48 yX1_renew "AddedLetters" cX1_renew 4 none 2 := zLkN.mk (List.mem_of_getElem? (i := 57) rfl) (zTin (zm2 (List.mem_of_getElem? (i := 216) rfl)) rfl) (zTin (zSel (List.mem_of_getElem? (i := 25) rfl)) rfl) (zTin (zm1 (List.mem_of_getElem? (i := 7) rfl)) rfl) (zTin (zm2 (List.mem_of_getElem? (i := 217) rfl)) rfl) (by decide +kernel)
theorem cl_RX2_52 : zLkV RX2 52 yX2_writeLetter cX2_writeLetter 4 none 2 := zLkV.mk (zTin (zm2 (List.mem_of_getElem? (i := 222) rfl)) rfl) (zTin (zm2 (List.mem_of_getElem? (i := 224) rfl)) rfl) (zTin (zSel (List.mem_of_getElem? (i := 27) rfl)) rfl) (zTin (zm1 (List.mem_of_getElem? (i := 6) rfl)) rfl) (zTin (zm2 (List.mem_of_getElem? (i := 225) rfl)) rfl) (by decide +kernel)
theorem cl_RX2_55 : zLkN RX2 55 yX3_take "AddedLetters" cX3_take 6 (some .boolean) 2 := zLkN.mk (List.mem_of_getElem? (i := 60) rfl) (zTin (zm2 (List.mem_of_getElem? (i := 235) rfl)) rfl) (zTin (zSel (List.mem_of_getElem? (i := 29) rfl)) rfl) (zTin (zm1 (List.mem_of_getElem? (i := 8) rfl)) rfl) (zTin (zm2 (List.mem_of_getElem? (i := 236) rfl)) rfl) (by decide +kernel)
theorem cl_RX2_61 : zLkN RX2 61 yX0_left "AddedLetters" cX0_left 2 (some .int) 1 := zLkN.mk (List.mem_of_getElem? (i := 59) rfl) (zTin (zm2 (List.mem_of_getElem? (i := 228) rfl)) rfl) (zTin (zSel (List.mem_of_getElem? (i := 28) rfl)) rfl) (zTin (zm1 (List.mem_of_getElem? (i := 5) rfl)) rfl) (zTin (zm2 (List.mem_of_getElem? (i := 229) rfl)) rfl) (by decide +kernel)
theorem cl_RX2_67 : zLkN RX2 67 yX3_mixInto "AddedLetters" cX3_mixInto 6 none 3 := zLkN.mk (List.mem_of_getElem? (i := 70) rfl) (zTin (zm3 (List.mem_of_getElem? (i := 61) rfl)) rfl) (zTin (zSel (List.mem_of_getElem? (i := 40) rfl)) rfl) (zTin (zm1 (List.mem_of_getElem? (i := 8) rfl)) rfl) (zTin (zm3 (List.mem_of_getElem? (i := 62) rfl)) rfl) (by decide +kernel)
theorem cl_RX2_78 : zLkN RX2 78 yX3_newLead "AddedLetters" cX3_newLead 4 (some .int) 2 := zLkN.mk (List.mem_of_getElem? (i := 74) rfl) (zTin (zm2 (List.mem_of_getElem? (i := 239) rfl)) rfl) (zTin (zSel (List.mem_of_getElem? (i := 30) rfl)) rfl) (zTin (zm1 (List.mem_of_getElem? (i := 8) rfl)) rfl) (zTin (zm3 (List.mem_of_getElem? (i := 0) rfl)) rfl) (by decide +kernel)
theorem cl_RX2_85 : zLkV RX2 85 yX2_leastNew cX2_leastNew 5 (some .int) 2 := zLkV.mk (zTin (zm3 (List.mem_of_getElem? (i := 93) rfl)) rfl) (zTin (zm3 (List.mem_of_getElem? (i := 82) rfl)) rfl) (zTin (zSel (List.mem_of_getElem? (i := 43) rfl)) rfl) (zTin (zm1 (List.mem_of_getElem? (i := 6) rfl)) rfl) (zTin (zm3 (List.mem_of_getElem? (i := 83) rfl)) rfl) (by decide +kernel)
theorem cl_RX2_89 : zLkS RX2 89 yJ9_max_7cf53 cJ9_max_7cf53 2 (some .int) 2 := zLkS.mk (zTin (zm3 (List.mem_of_getElem? (i := 94) rfl)) rfl) (zTin (zm3 (List.mem_of_getElem? (i := 95) rfl)) rfl) (zTin (zm1 (List.mem_of_getElem? (i := 16) rfl)) rfl) (zTin (zm3 (List.mem_of_getElem? (i := 96) rfl)) rfl) (by decide +kernel)
theorem cl_RX2_95 : zLkN RX2 95 yX3_height "AddedLetters" cX3_height 3 (some .int) 0 := zLkN.mk (List.mem_of_getElem? (i := 76) rfl) (zTin (zm3 (List.mem_of_getElem? (i := 28) rfl)) rfl) (zTin (zSel (List.mem_of_getElem? (i := 35) rfl)) rfl) (zTin (zm1 (List.mem_of_getElem? (i := 8) rfl)) rfl) (zTin (zm3 (List.mem_of_getElem? (i := 29) rfl)) rfl) (by decide +kernel)
theorem cl_RX2_99 : zLkV RX2 99 yX2_countMixes cX2_countMixes 4 (some .int) 1 := zLkV.mk (zTin (zm3 (List.mem_of_getElem? (i := 98) rfl)) rfl) (zTin (zm3 (List.mem_of_getElem? (i := 100) rfl)) rfl) (zTin (zSel (List.mem_of_getElem? (i := 45) rfl)) rfl) (zTin (zm1 (List.mem_of_getElem? (i := 6) rfl)) rfl) (zTin (zm3 (List.mem_of_getElem? (i := 101) rfl)) rfl) (by decide +kernel)
theorem cl_RX2_102 : zLkV RX2 102 yX2_raisesAll cX2_raisesAll 3 (some .boolean) 1 := zLkV.mk (zTin (zm3 (List.mem_of_getElem? (i := 102) rfl)) rfl) (zTin (zm3 (List.mem_of_getElem? (i := 104) rfl)) rfl) (zTin (zSel (List.mem_of_getElem? (i := 46) rfl)) rfl) (zTin (zm1 (List.mem_of_getElem? (i := 6) rfl)) rfl) (zTin (zm3 (List.mem_of_getElem? (i := 105) rfl)) rfl) (by decide +kernel)
theorem cl_RX2_106 : zLkN RX2 106 yX1_isDone "AddedLetters" cX1_isDone 2 (some .boolean) 0 := zLkN.mk (List.mem_of_getElem? (i := 78) rfl) (zTin (zm3 (List.mem_of_getElem? (i := 116) rfl)) rfl) (zTin (zSel (List.mem_of_getElem? (i := 48) rfl)) rfl) (zTin (zm1 (List.mem_of_getElem? (i := 7) rfl)) rfl) (zTin (zm3 (List.mem_of_getElem? (i := 117) rfl)) rfl) (by decide +kernel)
theorem cl_RX3_20 : zLkN RX3 20 yX0_left "AddedLetters" cX0_left 2 (some .int) 1 := zLkN.mk (List.mem_of_getElem? (i := 61) rfl) (zTin (zm2 (List.mem_of_getElem? (i := 228) rfl)) rfl) (zTin (zSel (List.mem_of_getElem? (i := 28) rfl)) rfl) (zTin (zm1 (List.mem_of_getElem? (i := 5) rfl)) rfl) (zTin (zm2 (List.mem_of_getElem? (i := 229) rfl)) rfl) (by decide +kernel)
theorem cl_RX3_26 : zLkS RX3 26 yX3_addTimes cX3_addTimes 5 none 4 := zLkS.mk (zTin (zm3 (List.mem_of_getElem? (i := 11) rfl)) rfl) (zTin (zm3 (List.mem_of_getElem? (i := 12) rfl)) rfl) (zTin (zm1 (List.mem_of_getElem? (i := 8) rfl)) rfl) (zTin (zm3 (List.mem_of_getElem? (i := 13) rfl)) rfl) (by decide +kernel)
theorem cl_RX3_30 : zLkN RX3 30 yX0_cut "AddedLetters" cX0_cut 2 (some .int) 1 := zLkN.mk (List.mem_of_getElem? (i := 71) rfl) (zTin (zm3 (List.mem_of_getElem? (i := 65) rfl)) rfl) (zTin (zSel (List.mem_of_getElem? (i := 41) rfl)) rfl) (zTin (zm1 (List.mem_of_getElem? (i := 5) rfl)) rfl) (zTin (zm3 (List.mem_of_getElem? (i := 66) rfl)) rfl) (by decide +kernel)
theorem cl_RX3_33 : zLkV RX3 33 yX3_leftover cX3_leftover 6 (some .int) 3 := zLkV.mk (zTin (zm3 (List.mem_of_getElem? (i := 1) rfl)) rfl) (zTin (zm3 (List.mem_of_getElem? (i := 3) rfl)) rfl) (zTin (zSel (List.mem_of_getElem? (i := 31) rfl)) rfl) (zTin (zm1 (List.mem_of_getElem? (i := 8) rfl)) rfl) (zTin (zm3 (List.mem_of_getElem? (i := 4) rfl)) rfl) (by decide +kernel)
theorem cl_RX3_37 : zLkV RX3 37 yX3_newLead cX3_newLead 4 (some .int) 2 := zLkV.mk (zTin (zm2 (List.mem_of_getElem? (i := 237) rfl)) rfl) (zTin (zm2 (List.mem_of_getElem? (i := 239) rfl)) rfl) (zTin (zSel (List.mem_of_getElem? (i := 30) rfl)) rfl) (zTin (zm1 (List.mem_of_getElem? (i := 8) rfl)) rfl) (zTin (zm3 (List.mem_of_getElem? (i := 0) rfl)) rfl) (by decide +kernel)
theorem cl_RX3_41 : zLkN RX3 41 yX0_inverse "AddedLetters" cX0_inverse 3 (some .int) 1 := zLkN.mk (List.mem_of_getElem? (i := 62) rfl) (zTin (zm3 (List.mem_of_getElem? (i := 8) rfl)) rfl) (zTin (zSel (List.mem_of_getElem? (i := 32) rfl)) rfl) (zTin (zm1 (List.mem_of_getElem? (i := 5) rfl)) rfl) (zTin (zm3 (List.mem_of_getElem? (i := 9) rfl)) rfl) (by decide +kernel)
theorem cl_RX4_19 : zLkV RX4 19 yX4_put cX4_put 2 none 1 := zLkV.mk (zTin (zm3 (List.mem_of_getElem? (i := 131) rfl)) rfl) (zTin (zm3 (List.mem_of_getElem? (i := 133) rfl)) rfl) (zTin (zSel (List.mem_of_getElem? (i := 50) rfl)) rfl) (zTin (zm1 (List.mem_of_getElem? (i := 9) rfl)) rfl) (zTin (zm3 (List.mem_of_getElem? (i := 134) rfl)) rfl) (by decide +kernel)
theorem cl_RX4_23 : zLkV RX4 23 yX4_putFigure cX4_putFigure 2 none 1 := zLkV.mk (zTin (zm3 (List.mem_of_getElem? (i := 135) rfl)) rfl) (zTin (zm3 (List.mem_of_getElem? (i := 137) rfl)) rfl) (zTin (zSel (List.mem_of_getElem? (i := 51) rfl)) rfl) (zTin (zm1 (List.mem_of_getElem? (i := 9) rfl)) rfl) (zTin (zm3 (List.mem_of_getElem? (i := 138) rfl)) rfl) (by decide +kernel)
theorem cl_RX4_26 : zLkV RX4 26 yX4_putBody cX4_putBody 2 none 1 := zLkV.mk (zTin (zm3 (List.mem_of_getElem? (i := 139) rfl)) rfl) (zTin (zm3 (List.mem_of_getElem? (i := 141) rfl)) rfl) (zTin (zSel (List.mem_of_getElem? (i := 52) rfl)) rfl) (zTin (zm1 (List.mem_of_getElem? (i := 9) rfl)) rfl) (zTin (zm3 (List.mem_of_getElem? (i := 142) rfl)) rfl) (by decide +kernel)
theorem cl_RX4_35 : zLkV RX4 35 yX4_writeRow cX4_writeRow 5 none 3 := zLkV.mk (zTin (zm3 (List.mem_of_getElem? (i := 155) rfl)) rfl) (zTin (zm3 (List.mem_of_getElem? (i := 157) rfl)) rfl) (zTin (zSel (List.mem_of_getElem? (i := 55) rfl)) rfl) (zTin (zm1 (List.mem_of_getElem? (i := 9) rfl)) rfl) (zTin (zm3 (List.mem_of_getElem? (i := 158) rfl)) rfl) (by decide +kernel)
theorem cl_RX4_39 : zLkN RX4 39 yX3_cell "AddedLetters" cX3_cell 4 (some .int) 2 := zLkN.mk (List.mem_of_getElem? (i := 83) rfl) (zTin (zm3 (List.mem_of_getElem? (i := 41) rfl)) rfl) (zTin (zSel (List.mem_of_getElem? (i := 37) rfl)) rfl) (zTin (zm1 (List.mem_of_getElem? (i := 8) rfl)) rfl) (zTin (zm3 (List.mem_of_getElem? (i := 42) rfl)) rfl) (by decide +kernel)
theorem cl_RX5_22 : zLkV RX5 22 yX5_indexOf cX5_indexOf 4 (some .int) 2 := zLkV.mk (zTin (zm2 (List.mem_of_getElem? (i := 22) rfl)) rfl) (zTin (zm2 (List.mem_of_getElem? (i := 24) rfl)) rfl) (zTin (zSel (List.mem_of_getElem? (i := 8) rfl)) rfl) (zTin (zm1 (List.mem_of_getElem? (i := 3) rfl)) rfl) (zTin (zm2 (List.mem_of_getElem? (i := 25) rfl)) rfl) (by decide +kernel)
theorem cl_RX6_35 : zLkV RX6 35 yX6_isThere cX6_isThere 2 (some .boolean) 1 := zLkV.mk (zTin (zm1 (List.mem_of_getElem? (i := 222) rfl)) rfl) (zTin (zm1 (List.mem_of_getElem? (i := 224) rfl)) rfl) (zTin (zSel (List.mem_of_getElem? (i := 1) rfl)) rfl) (zTin (zm1 (List.mem_of_getElem? (i := 2) rfl)) rfl) (zTin (zm1 (List.mem_of_getElem? (i := 225) rfl)) rfl) (by decide +kernel)
theorem cl_RX6_39 : zLkV RX6 39 yX6_takeFrom cX6_takeFrom 3 none 2 := zLkV.mk (zTin (zm1 (List.mem_of_getElem? (i := 235) rfl)) rfl) (zTin (zm1 (List.mem_of_getElem? (i := 237) rfl)) rfl) (zTin (zSel (List.mem_of_getElem? (i := 3) rfl)) rfl) (zTin (zm1 (List.mem_of_getElem? (i := 2) rfl)) rfl) (zTin (zm1 (List.mem_of_getElem? (i := 238) rfl)) rfl) (by decide +kernel)
theorem cl_RX6_43 : zLkN RX6 43 yX5_removeLetter "AddedLetters" cX5_removeLetter 4 (some .int) 1 := zLkN.mk (List.mem_of_getElem? (i := 38) rfl) (zTin (zm2 (List.mem_of_getElem? (i := 1) rfl)) rfl) (zTin (zSel (List.mem_of_getElem? (i := 4) rfl)) rfl) (zTin (zm1 (List.mem_of_getElem? (i := 3) rfl)) rfl) (zTin (zm2 (List.mem_of_getElem? (i := 2) rfl)) rfl) (by decide +kernel)
theorem cl_RX6_47 : zLkN RX6 47 yX5_removePair "AddedLetters" cX5_removePair 5 (some .boolean) 2 := zLkN.mk (List.mem_of_getElem? (i := 41) rfl) (zTin (zm2 (List.mem_of_getElem? (i := 20) rfl)) rfl) (zTin (zSel (List.mem_of_getElem? (i := 7) rfl)) rfl) (zTin (zm1 (List.mem_of_getElem? (i := 3) rfl)) rfl) (zTin (zm2 (List.mem_of_getElem? (i := 21) rfl)) rfl) (by decide +kernel)
theorem cl_RX6_60 : zLkS RX6 60 yJ6_bitCount_0f7a4 cJ6_bitCount_0f7a4 1 (some .int) 1 := zLkS.mk (zTin (zm2 (List.mem_of_getElem? (i := 72) rfl)) rfl) (zTin (zm2 (List.mem_of_getElem? (i := 73) rfl)) rfl) (zTin (zm1 (List.mem_of_getElem? (i := 11) rfl)) rfl) (zTin (zm2 (List.mem_of_getElem? (i := 74) rfl)) rfl) (by decide +kernel)
theorem cl_RX6_65 : zLkV RX6 65 yX6_isOnAir cX6_isOnAir 2 (some .boolean) 1 := zLkV.mk (zTin (zm2 (List.mem_of_getElem? (i := 90) rfl)) rfl) (zTin (zm2 (List.mem_of_getElem? (i := 92) rfl)) rfl) (zTin (zSel (List.mem_of_getElem? (i := 15) rfl)) rfl) (zTin (zm1 (List.mem_of_getElem? (i := 2) rfl)) rfl) (zTin (zm2 (List.mem_of_getElem? (i := 93) rfl)) rfl) (by decide +kernel)
theorem cl_RX6_68 : zLkV RX6 68 yX6_readBy cX6_readBy 4 (some .int) 2 := zLkV.mk (zTin (zm2 (List.mem_of_getElem? (i := 94) rfl)) rfl) (zTin (zm2 (List.mem_of_getElem? (i := 70) rfl)) rfl) (zTin (zSel (List.mem_of_getElem? (i := 12) rfl)) rfl) (zTin (zm1 (List.mem_of_getElem? (i := 2) rfl)) rfl) (zTin (zm2 (List.mem_of_getElem? (i := 71) rfl)) rfl) (by decide +kernel)
theorem cl_RX6_78 : zLkV RX6 78 yX6_firstOnAir cX6_firstOnAir 2 (some .int) 0 := zLkV.mk (zTin (zm2 (List.mem_of_getElem? (i := 107) rfl)) rfl) (zTin (zm2 (List.mem_of_getElem? (i := 109) rfl)) rfl) (zTin (zSel (List.mem_of_getElem? (i := 18) rfl)) rfl) (zTin (zm1 (List.mem_of_getElem? (i := 2) rfl)) rfl) (zTin (zm2 (List.mem_of_getElem? (i := 110) rfl)) rfl) (by decide +kernel)
theorem cl_RX6_82 : zLkV RX6 82 yX6_countServed cX6_countServed 5 (some .int) 1 := zLkV.mk (zTin (zm2 (List.mem_of_getElem? (i := 111) rfl)) rfl) (zTin (zm2 (List.mem_of_getElem? (i := 88) rfl)) rfl) (zTin (zSel (List.mem_of_getElem? (i := 14) rfl)) rfl) (zTin (zm1 (List.mem_of_getElem? (i := 2) rfl)) rfl) (zTin (zm2 (List.mem_of_getElem? (i := 89) rfl)) rfl) (by decide +kernel)
theorem cl_RX6_85 : zLkV RX6 85 yX6_give cX6_give 3 (some .boolean) 2 := zLkV.mk (zTin (zm2 (List.mem_of_getElem? (i := 120) rfl)) rfl) (zTin (zm2 (List.mem_of_getElem? (i := 16) rfl)) rfl) (zTin (zSel (List.mem_of_getElem? (i := 6) rfl)) rfl) (zTin (zm1 (List.mem_of_getElem? (i := 2) rfl)) rfl) (zTin (zm2 (List.mem_of_getElem? (i := 17) rfl)) rfl) (by decide +kernel)
theorem cl_RX8_46 : zLkN RX8 46 yX6_putLetter "AddedLetters" cX6_putLetter 4 (some .boolean) 2 := zLkN.mk (List.mem_of_getElem? (i := 35) rfl) (zTin (zm1 (List.mem_of_getElem? (i := 220) rfl)) rfl) (zTin (zSel (List.mem_of_getElem? (i := 0) rfl)) rfl) (zTin (zm1 (List.mem_of_getElem? (i := 2) rfl)) rfl) (zTin (zm1 (List.mem_of_getElem? (i := 221) rfl)) rfl) (by decide +kernel)
theorem cl_RX8_50 : zLkN RX8 50 yX6_isThere "AddedLetters" cX6_isThere 2 (some .boolean) 1 := zLkN.mk (List.mem_of_getElem? (i := 36) rfl) (zTin (zm1 (List.mem_of_getElem? (i := 224) rfl)) rfl) (zTin (zSel (List.mem_of_getElem? (i := 1) rfl)) rfl) (zTin (zm1 (List.mem_of_getElem? (i := 2) rfl)) rfl) (zTin (zm1 (List.mem_of_getElem? (i := 225) rfl)) rfl) (by decide +kernel)
theorem cl_RX8_54 : zLkN RX8 54 yX6_takeLetter "AddedLetters" cX6_takeLetter 3 (some .int) 1 := zLkN.mk (List.mem_of_getElem? (i := 37) rfl) (zTin (zm1 (List.mem_of_getElem? (i := 233) rfl)) rfl) (zTin (zSel (List.mem_of_getElem? (i := 2) rfl)) rfl) (zTin (zm1 (List.mem_of_getElem? (i := 2) rfl)) rfl) (zTin (zm1 (List.mem_of_getElem? (i := 234) rfl)) rfl) (by decide +kernel)
theorem cl_RX8_58 : zLkS RX8 58 yX8_isStation cX8_isStation 1 (some .boolean) 1 := zLkS.mk (zTin (zm2 (List.mem_of_getElem? (i := 7) rfl)) rfl) (zTin (zm2 (List.mem_of_getElem? (i := 8) rfl)) rfl) (zTin (zm1 (List.mem_of_getElem? (i := 1) rfl)) rfl) (zTin (zm2 (List.mem_of_getElem? (i := 9) rfl)) rfl) (by decide +kernel)
theorem cl_RX8_61 : zLkN RX8 61 yX6_holds "AddedLetters" cX6_holds 3 (some .boolean) 2 := zLkN.mk (List.mem_of_getElem? (i := 39) rfl) (zTin (zm2 (List.mem_of_getElem? (i := 12) rfl)) rfl) (zTin (zSel (List.mem_of_getElem? (i := 5) rfl)) rfl) (zTin (zm1 (List.mem_of_getElem? (i := 2) rfl)) rfl) (zTin (zm2 (List.mem_of_getElem? (i := 13) rfl)) rfl) (by decide +kernel)
theorem cl_RX8_64 : zLkN RX8 64 yX6_give "AddedLetters" cX6_give 3 (some .boolean) 2 := zLkN.mk (List.mem_of_getElem? (i := 40) rfl) (zTin (zm2 (List.mem_of_getElem? (i := 16) rfl)) rfl) (zTin (zSel (List.mem_of_getElem? (i := 6) rfl)) rfl) (zTin (zm1 (List.mem_of_getElem? (i := 2) rfl)) rfl) (zTin (zm2 (List.mem_of_getElem? (i := 17) rfl)) rfl) (by decide +kernel)
theorem cl_RX8_67 : zLkN RX8 67 yX6_takeFrom "AddedLetters" cX6_takeFrom 3 none 2 := zLkN.mk (List.mem_of_getElem? (i := 42) rfl) (zTin (zm1 (List.mem_of_getElem? (i := 237) rfl)) rfl) (zTin (zSel (List.mem_of_getElem? (i := 3) rfl)) rfl) (zTin (zm1 (List.mem_of_getElem? (i := 2) rfl)) rfl) (zTin (zm1 (List.mem_of_getElem? (i := 238) rfl)) rfl) (by decide +kernel)
theorem cl_RX8_75 : zLkN RX8 75 yX5_indexOf "AddedLetters" cX5_indexOf 4 (some .int) 2 := zLkN.mk (List.mem_of_getElem? (i := 43) rfl) (zTin (zm2 (List.mem_of_getElem? (i := 24) rfl)) rfl) (zTin (zSel (List.mem_of_getElem? (i := 8) rfl)) rfl) (zTin (zm1 (List.mem_of_getElem? (i := 3) rfl)) rfl) (zTin (zm2 (List.mem_of_getElem? (i := 25) rfl)) rfl) (by decide +kernel)
theorem cl_RX8_81 : zLkN RX8 81 yX5_add "AddedLetters" cX5_add 3 (some .boolean) 2 := zLkN.mk (List.mem_of_getElem? (i := 44) rfl) (zTin (zm2 (List.mem_of_getElem? (i := 34) rfl)) rfl) (zTin (zSel (List.mem_of_getElem? (i := 9) rfl)) rfl) (zTin (zm1 (List.mem_of_getElem? (i := 3) rfl)) rfl) (zTin (zm2 (List.mem_of_getElem? (i := 35) rfl)) rfl) (by decide +kernel)
theorem cl_RX8_94 : zLkN RX8 94 yX6_clear "AddedLetters" cX6_clear 2 none 0 := zLkN.mk (List.mem_of_getElem? (i := 45) rfl) (zTin (zm2 (List.mem_of_getElem? (i := 50) rfl)) rfl) (zTin (zSel (List.mem_of_getElem? (i := 10) rfl)) rfl) (zTin (zm1 (List.mem_of_getElem? (i := 2) rfl)) rfl) (zTin (zm2 (List.mem_of_getElem? (i := 51) rfl)) rfl) (by decide +kernel)
theorem cl_RX8_107 : zLkN RX8 107 yX6_isSum "AddedLetters" cX6_isSum 2 (some .boolean) 1 := zLkN.mk (List.mem_of_getElem? (i := 46) rfl) (zTin (zm2 (List.mem_of_getElem? (i := 66) rfl)) rfl) (zTin (zSel (List.mem_of_getElem? (i := 11) rfl)) rfl) (zTin (zm1 (List.mem_of_getElem? (i := 2) rfl)) rfl) (zTin (zm2 (List.mem_of_getElem? (i := 67) rfl)) rfl) (by decide +kernel)
theorem cl_RX8_110 : zLkN RX8 110 yX6_readBy "AddedLetters" cX6_readBy 4 (some .int) 2 := zLkN.mk (List.mem_of_getElem? (i := 47) rfl) (zTin (zm2 (List.mem_of_getElem? (i := 70) rfl)) rfl) (zTin (zSel (List.mem_of_getElem? (i := 12) rfl)) rfl) (zTin (zm1 (List.mem_of_getElem? (i := 2) rfl)) rfl) (zTin (zm2 (List.mem_of_getElem? (i := 71) rfl)) rfl) (by decide +kernel)
theorem cl_RX8_113 : zLkN RX8 113 yX6_bodyOf "AddedLetters" cX6_bodyOf 4 (some .int) 1 := zLkN.mk (List.mem_of_getElem? (i := 48) rfl) (zTin (zm2 (List.mem_of_getElem? (i := 84) rfl)) rfl) (zTin (zSel (List.mem_of_getElem? (i := 13) rfl)) rfl) (zTin (zm1 (List.mem_of_getElem? (i := 2) rfl)) rfl) (zTin (zm2 (List.mem_of_getElem? (i := 85) rfl)) rfl) (by decide +kernel)
theorem cl_RX8_116 : zLkN RX8 116 yX6_countServed "AddedLetters" cX6_countServed 5 (some .int) 1 := zLkN.mk (List.mem_of_getElem? (i := 49) rfl) (zTin (zm2 (List.mem_of_getElem? (i := 88) rfl)) rfl) (zTin (zSel (List.mem_of_getElem? (i := 14) rfl)) rfl) (zTin (zm1 (List.mem_of_getElem? (i := 2) rfl)) rfl) (zTin (zm2 (List.mem_of_getElem? (i := 89) rfl)) rfl) (by decide +kernel)
theorem cl_RX8_119 : zLkN RX8 119 yX6_openers "AddedLetters" cX6_openers 4 (some .int) 1 := zLkN.mk (List.mem_of_getElem? (i := 50) rfl) (zTin (zm2 (List.mem_of_getElem? (i := 97) rfl)) rfl) (zTin (zSel (List.mem_of_getElem? (i := 16) rfl)) rfl) (zTin (zm1 (List.mem_of_getElem? (i := 2) rfl)) rfl) (zTin (zm2 (List.mem_of_getElem? (i := 98) rfl)) rfl) (by decide +kernel)
theorem cl_RX8_122 : zLkN RX8 122 yX6_findBest "AddedLetters" cX6_findBest 9 (some .int) 0 := zLkN.mk (List.mem_of_getElem? (i := 51) rfl) (zTin (zm2 (List.mem_of_getElem? (i := 105) rfl)) rfl) (zTin (zSel (List.mem_of_getElem? (i := 17) rfl)) rfl) (zTin (zm1 (List.mem_of_getElem? (i := 2) rfl)) rfl) (zTin (zm2 (List.mem_of_getElem? (i := 106) rfl)) rfl) (by decide +kernel)
theorem cl_RX8_126 : zLkN RX8 126 yX6_deliver "AddedLetters" cX6_deliver 5 (some .int) 1 := zLkN.mk (List.mem_of_getElem? (i := 52) rfl) (zTin (zm2 (List.mem_of_getElem? (i := 118) rfl)) rfl) (zTin (zSel (List.mem_of_getElem? (i := 19) rfl)) rfl) (zTin (zm1 (List.mem_of_getElem? (i := 2) rfl)) rfl) (zTin (zm2 (List.mem_of_getElem? (i := 119) rfl)) rfl) (by decide +kernel)
theorem cl_RX8_129 : zLkN RX8 129 yX7_add "AddedLetters" cX7_add 2 (some .boolean) 1 := zLkN.mk (List.mem_of_getElem? (i := 53) rfl) (zTin (zm2 (List.mem_of_getElem? (i := 131) rfl)) rfl) (zTin (zSel (List.mem_of_getElem? (i := 20) rfl)) rfl) (zTin (zm1 (List.mem_of_getElem? (i := 4) rfl)) rfl) (zTin (zm2 (List.mem_of_getElem? (i := 132) rfl)) rfl) (by decide +kernel)
theorem cl_RX8_141 : zLkN RX8 141 yX2_begin "AddedLetters" cX2_begin 5 (some .int) 2 := zLkN.mk (List.mem_of_getElem? (i := 56) rfl) (zTin (zm2 (List.mem_of_getElem? (i := 212) rfl)) rfl) (zTin (zSel (List.mem_of_getElem? (i := 24) rfl)) rfl) (zTin (zm1 (List.mem_of_getElem? (i := 6) rfl)) rfl) (zTin (zm2 (List.mem_of_getElem? (i := 213) rfl)) rfl) (by decide +kernel)
theorem cl_RX8_144 : zLkN RX8 144 yX2_nodeOf "AddedLetters" cX2_nodeOf 4 (some (.object "AddedLetters$Node")) 2 := zLkN.mk (List.mem_of_getElem? (i := 63) rfl) (zTin (zm3 (List.mem_of_getElem? (i := 20) rfl)) rfl) (zTin (zSel (List.mem_of_getElem? (i := 33) rfl)) rfl) (zTin (zm1 (List.mem_of_getElem? (i := 6) rfl)) rfl) (zTin (zm3 (List.mem_of_getElem? (i := 21) rfl)) rfl) (by decide +kernel)
theorem cl_RX8_148 : zLkN RX8 148 yX3_height "AddedLetters" cX3_height 3 (some .int) 0 := zLkN.mk (List.mem_of_getElem? (i := 64) rfl) (zTin (zm3 (List.mem_of_getElem? (i := 28) rfl)) rfl) (zTin (zSel (List.mem_of_getElem? (i := 35) rfl)) rfl) (zTin (zm1 (List.mem_of_getElem? (i := 8) rfl)) rfl) (zTin (zm3 (List.mem_of_getElem? (i := 29) rfl)) rfl) (by decide +kernel)
theorem cl_RX8_153 : zLkN RX8 153 yX2_find "AddedLetters" cX2_find 3 (some (.object "AddedLetters$Generation")) 1 := zLkN.mk (List.mem_of_getElem? (i := 65) rfl) (zTin (zm3 (List.mem_of_getElem? (i := 24) rfl)) rfl) (zTin (zSel (List.mem_of_getElem? (i := 34) rfl)) rfl) (zTin (zm1 (List.mem_of_getElem? (i := 6) rfl)) rfl) (zTin (zm3 (List.mem_of_getElem? (i := 25) rfl)) rfl) (by decide +kernel)
theorem cl_RX8_157 : zLkN RX8 157 yX3_placeOf "AddedLetters" cX3_placeOf 4 (some .int) 1 := zLkN.mk (List.mem_of_getElem? (i := 66) rfl) (zTin (zm3 (List.mem_of_getElem? (i := 37) rfl)) rfl) (zTin (zSel (List.mem_of_getElem? (i := 36) rfl)) rfl) (zTin (zm1 (List.mem_of_getElem? (i := 8) rfl)) rfl) (zTin (zm3 (List.mem_of_getElem? (i := 38) rfl)) rfl) (by decide +kernel)
theorem cl_RX8_165 : zLkN RX8 165 yX3_cell "AddedLetters" cX3_cell 4 (some .int) 2 := zLkN.mk (List.mem_of_getElem? (i := 67) rfl) (zTin (zm3 (List.mem_of_getElem? (i := 41) rfl)) rfl) (zTin (zSel (List.mem_of_getElem? (i := 37) rfl)) rfl) (zTin (zm1 (List.mem_of_getElem? (i := 8) rfl)) rfl) (zTin (zm3 (List.mem_of_getElem? (i := 42) rfl)) rfl) (by decide +kernel)
theorem cl_RX8_168 : zLkN RX8 168 yX3_knows "AddedLetters" cX3_knows 3 (some .boolean) 1 := zLkN.mk (List.mem_of_getElem? (i := 68) rfl) (zTin (zm3 (List.mem_of_getElem? (i := 49) rfl)) rfl) (zTin (zSel (List.mem_of_getElem? (i := 38) rfl)) rfl) (zTin (zm1 (List.mem_of_getElem? (i := 8) rfl)) rfl) (zTin (zm3 (List.mem_of_getElem? (i := 50) rfl)) rfl) (by decide +kernel)
theorem cl_RX8_171 : zLkN RX8 171 yX2_carry "AddedLetters" cX2_carry 4 (some .boolean) 3 := zLkN.mk (List.mem_of_getElem? (i := 69) rfl) (zTin (zm3 (List.mem_of_getElem? (i := 57) rfl)) rfl) (zTin (zSel (List.mem_of_getElem? (i := 39) rfl)) rfl) (zTin (zm1 (List.mem_of_getElem? (i := 6) rfl)) rfl) (zTin (zm3 (List.mem_of_getElem? (i := 58) rfl)) rfl) (by decide +kernel)
theorem cl_RX8_175 : zLkN RX8 175 yX0_nextDrawn "AddedLetters" cX0_nextDrawn 1 (some .int) 0 := zLkN.mk (List.mem_of_getElem? (i := 72) rfl) (zTin (zm3 (List.mem_of_getElem? (i := 73) rfl)) rfl) (zTin (zSel (List.mem_of_getElem? (i := 42) rfl)) rfl) (zTin (zm1 (List.mem_of_getElem? (i := 5) rfl)) rfl) (zTin (zm3 (List.mem_of_getElem? (i := 74) rfl)) rfl) (by decide +kernel)
theorem cl_RX8_178 : zLkN RX8 178 yX2_leastNew "AddedLetters" cX2_leastNew 5 (some .int) 2 := zLkN.mk (List.mem_of_getElem? (i := 73) rfl) (zTin (zm3 (List.mem_of_getElem? (i := 82) rfl)) rfl) (zTin (zSel (List.mem_of_getElem? (i := 43) rfl)) rfl) (zTin (zm1 (List.mem_of_getElem? (i := 6) rfl)) rfl) (zTin (zm3 (List.mem_of_getElem? (i := 83) rfl)) rfl) (by decide +kernel)
theorem cl_RX8_182 : zLkN RX8 182 yX2_leastNewForAll "AddedLetters" cX2_leastNewForAll 7 (some .int) 2 := zLkN.mk (List.mem_of_getElem? (i := 75) rfl) (zTin (zm3 (List.mem_of_getElem? (i := 91) rfl)) rfl) (zTin (zSel (List.mem_of_getElem? (i := 44) rfl)) rfl) (zTin (zm1 (List.mem_of_getElem? (i := 6) rfl)) rfl) (zTin (zm3 (List.mem_of_getElem? (i := 92) rfl)) rfl) (by decide +kernel)
theorem cl_RX8_186 : zLkN RX8 186 yX2_takeOutDone "AddedLetters" cX2_takeOutDone 4 (some .int) 0 := zLkN.mk (List.mem_of_getElem? (i := 77) rfl) (zTin (zm3 (List.mem_of_getElem? (i := 112) rfl)) rfl) (zTin (zSel (List.mem_of_getElem? (i := 47) rfl)) rfl) (zTin (zm1 (List.mem_of_getElem? (i := 6) rfl)) rfl) (zTin (zm3 (List.mem_of_getElem? (i := 113) rfl)) rfl) (by decide +kernel)
theorem cl_RX8_199 : zLkN RX8 199 yX4_writeSum "AddedLetters" cX4_writeSum 4 none 2 := zLkN.mk (List.mem_of_getElem? (i := 80) rfl) (zTin (zm3 (List.mem_of_getElem? (i := 129) rfl)) rfl) (zTin (zSel (List.mem_of_getElem? (i := 49) rfl)) rfl) (zTin (zm1 (List.mem_of_getElem? (i := 9) rfl)) rfl) (zTin (zm3 (List.mem_of_getElem? (i := 130) rfl)) rfl) (by decide +kernel)
theorem cl_RX8_202 : zLkN RX8 202 yX4_answer "AddedLetters" cX4_answer 2 (some .int) 1 := zLkN.mk (List.mem_of_getElem? (i := 81) rfl) (zTin (zm3 (List.mem_of_getElem? (i := 145) rfl)) rfl) (zTin (zSel (List.mem_of_getElem? (i := 53) rfl)) rfl) (zTin (zm1 (List.mem_of_getElem? (i := 9) rfl)) rfl) (zTin (zm3 (List.mem_of_getElem? (i := 146) rfl)) rfl) (by decide +kernel)
theorem cl_RX8_205 : zLkN RX8 205 yX4_writeRows "AddedLetters" cX4_writeRows 4 none 2 := zLkN.mk (List.mem_of_getElem? (i := 82) rfl) (zTin (zm3 (List.mem_of_getElem? (i := 153) rfl)) rfl) (zTin (zSel (List.mem_of_getElem? (i := 54) rfl)) rfl) (zTin (zm1 (List.mem_of_getElem? (i := 9) rfl)) rfl) (zTin (zm3 (List.mem_of_getElem? (i := 154) rfl)) rfl) (by decide +kernel)
theorem cl_RX8_212 : zLkS RX8 212 yJ6_bitCount_0f7a4 cJ6_bitCount_0f7a4 1 (some .int) 1 := zLkS.mk (zTin (zm3 (List.mem_of_getElem? (i := 164) rfl)) rfl) (zTin (zm2 (List.mem_of_getElem? (i := 73) rfl)) rfl) (zTin (zm1 (List.mem_of_getElem? (i := 11) rfl)) rfl) (zTin (zm2 (List.mem_of_getElem? (i := 74) rfl)) rfl) (by decide +kernel)
theorem cl_RX9_68 : zLkS RX9 68 yX9_within cX9_within 3 (some .boolean) 3 := zLkS.mk (zTin (zm4 (List.mem_of_getElem? (i := 18) rfl)) rfl) (zTin (zm4 (List.mem_of_getElem? (i := 19) rfl)) rfl) (zTin (zm1 (List.mem_of_getElem? (i := 10) rfl)) rfl) (zTin (zm4 (List.mem_of_getElem? (i := 20) rfl)) rfl) (by decide +kernel)
theorem cl_RX9_75 : zLkS RX9 75 yX9_isIn cX9_isIn 2 (some .boolean) 2 := zLkS.mk (zTin (zm4 (List.mem_of_getElem? (i := 29) rfl)) rfl) (zTin (zm4 (List.mem_of_getElem? (i := 30) rfl)) rfl) (zTin (zm1 (List.mem_of_getElem? (i := 10) rfl)) rfl) (zTin (zm4 (List.mem_of_getElem? (i := 31) rfl)) rfl) (by decide +kernel)
theorem cl_RX9_82 : zLkV RX9 82 yX9_isLetter cX9_isLetter 2 (some .boolean) 1 := zLkV.mk (zTin (zm4 (List.mem_of_getElem? (i := 25) rfl)) rfl) (zTin (zm4 (List.mem_of_getElem? (i := 27) rfl)) rfl) (zTin (zSel (List.mem_of_getElem? (i := 56) rfl)) rfl) (zTin (zm1 (List.mem_of_getElem? (i := 10) rfl)) rfl) (zTin (zm4 (List.mem_of_getElem? (i := 28) rfl)) rfl) (by decide +kernel)
theorem cl_RX9_86 : zLkV RX9 86 yX9_goes cX9_goes 5 (some .int) 2 := zLkV.mk (zTin (zm4 (List.mem_of_getElem? (i := 32) rfl)) rfl) (zTin (zm4 (List.mem_of_getElem? (i := 34) rfl)) rfl) (zTin (zSel (List.mem_of_getElem? (i := 57) rfl)) rfl) (zTin (zm1 (List.mem_of_getElem? (i := 10) rfl)) rfl) (zTin (zm4 (List.mem_of_getElem? (i := 35) rfl)) rfl) (by decide +kernel)
theorem cl_RX9_90 : zLkS RX9 90 yX9_isStation cX9_isStation 1 (some .boolean) 1 := zLkS.mk (zTin (zm4 (List.mem_of_getElem? (i := 40) rfl)) rfl) (zTin (zm4 (List.mem_of_getElem? (i := 41) rfl)) rfl) (zTin (zm1 (List.mem_of_getElem? (i := 10) rfl)) rfl) (zTin (zm4 (List.mem_of_getElem? (i := 42) rfl)) rfl) (by decide +kernel)
theorem cl_RX9_93 : zLkV RX9 93 yX9_isWanted cX9_isWanted 4 (some .boolean) 2 := zLkV.mk (zTin (zm4 (List.mem_of_getElem? (i := 47) rfl)) rfl) (zTin (zm4 (List.mem_of_getElem? (i := 49) rfl)) rfl) (zTin (zSel (List.mem_of_getElem? (i := 58) rfl)) rfl) (zTin (zm1 (List.mem_of_getElem? (i := 10) rfl)) rfl) (zTin (zm4 (List.mem_of_getElem? (i := 50) rfl)) rfl) (by decide +kernel)
theorem cl_RX9_102 : zLkS RX9 102 yX9_size cX9_size 3 (some .int) 1 := zLkS.mk (zTin (zm4 (List.mem_of_getElem? (i := 83) rfl)) rfl) (zTin (zm4 (List.mem_of_getElem? (i := 84) rfl)) rfl) (zTin (zm1 (List.mem_of_getElem? (i := 10) rfl)) rfl) (zTin (zm4 (List.mem_of_getElem? (i := 85) rfl)) rfl) (by decide +kernel)
theorem cl_RX9_106 : zLkV RX9 106 yX9_isSum cX9_isSum 2 (some .boolean) 1 := zLkV.mk (zTin (zm4 (List.mem_of_getElem? (i := 75) rfl)) rfl) (zTin (zm4 (List.mem_of_getElem? (i := 77) rfl)) rfl) (zTin (zSel (List.mem_of_getElem? (i := 59) rfl)) rfl) (zTin (zm1 (List.mem_of_getElem? (i := 10) rfl)) rfl) (zTin (zm4 (List.mem_of_getElem? (i := 78) rfl)) rfl) (by decide +kernel)
theorem cl_RX9_109 : zLkV RX9 109 yX9_readBy cX9_readBy 5 (some .int) 2 := zLkV.mk (zTin (zm4 (List.mem_of_getElem? (i := 79) rfl)) rfl) (zTin (zm4 (List.mem_of_getElem? (i := 81) rfl)) rfl) (zTin (zSel (List.mem_of_getElem? (i := 60) rfl)) rfl) (zTin (zm1 (List.mem_of_getElem? (i := 10) rfl)) rfl) (zTin (zm4 (List.mem_of_getElem? (i := 82) rfl)) rfl) (by decide +kernel)
theorem cl_RX9_112 : zLkV RX9 112 yX9_serves cX9_serves 4 (some .boolean) 2 := zLkV.mk (zTin (zm4 (List.mem_of_getElem? (i := 98) rfl)) rfl) (zTin (zm4 (List.mem_of_getElem? (i := 100) rfl)) rfl) (zTin (zSel (List.mem_of_getElem? (i := 63) rfl)) rfl) (zTin (zm1 (List.mem_of_getElem? (i := 10) rfl)) rfl) (zTin (zm4 (List.mem_of_getElem? (i := 101) rfl)) rfl) (by decide +kernel)
theorem cl_RX9_115 : zLkV RX9 115 yX9_bodyBy cX9_bodyBy 4 (some .int) 1 := zLkV.mk (zTin (zm4 (List.mem_of_getElem? (i := 90) rfl)) rfl) (zTin (zm4 (List.mem_of_getElem? (i := 92) rfl)) rfl) (zTin (zSel (List.mem_of_getElem? (i := 61) rfl)) rfl) (zTin (zm1 (List.mem_of_getElem? (i := 10) rfl)) rfl) (zTin (zm4 (List.mem_of_getElem? (i := 93) rfl)) rfl) (by decide +kernel)
theorem cl_RX9_118 : zLkV RX9 118 yX9_manyServed cX9_manyServed 4 (some .int) 1 := zLkV.mk (zTin (zm4 (List.mem_of_getElem? (i := 94) rfl)) rfl) (zTin (zm4 (List.mem_of_getElem? (i := 96) rfl)) rfl) (zTin (zSel (List.mem_of_getElem? (i := 62) rfl)) rfl) (zTin (zm1 (List.mem_of_getElem? (i := 10) rfl)) rfl) (zTin (zm4 (List.mem_of_getElem? (i := 97) rfl)) rfl) (by decide +kernel)
theorem cl_RX9_121 : zLkV RX9 121 yX9_openers cX9_openers 4 (some .int) 1 := zLkV.mk (zTin (zm4 (List.mem_of_getElem? (i := 102) rfl)) rfl) (zTin (zm4 (List.mem_of_getElem? (i := 104) rfl)) rfl) (zTin (zSel (List.mem_of_getElem? (i := 64) rfl)) rfl) (zTin (zm1 (List.mem_of_getElem? (i := 10) rfl)) rfl) (zTin (zm4 (List.mem_of_getElem? (i := 105) rfl)) rfl) (by decide +kernel)
theorem cl_RX9_124 : zLkV RX9 124 yX9_isBetter cX9_isBetter 4 (some .boolean) 2 := zLkV.mk (zTin (zm4 (List.mem_of_getElem? (i := 114) rfl)) rfl) (zTin (zm4 (List.mem_of_getElem? (i := 116) rfl)) rfl) (zTin (zSel (List.mem_of_getElem? (i := 66) rfl)) rfl) (zTin (zm1 (List.mem_of_getElem? (i := 10) rfl)) rfl) (zTin (zm4 (List.mem_of_getElem? (i := 117) rfl)) rfl) (by decide +kernel)
theorem cl_RX9_127 : zLkV RX9 127 yX9_bestSum cX9_bestSum 4 (some .int) 0 := zLkV.mk (zTin (zm4 (List.mem_of_getElem? (i := 110) rfl)) rfl) (zTin (zm4 (List.mem_of_getElem? (i := 112) rfl)) rfl) (zTin (zSel (List.mem_of_getElem? (i := 65) rfl)) rfl) (zTin (zm1 (List.mem_of_getElem? (i := 10) rfl)) rfl) (zTin (zm4 (List.mem_of_getElem? (i := 113) rfl)) rfl) (by decide +kernel)
theorem cl_RX9_131 : zLkV RX9 131 yX9_sends cX9_sends 5 (some .int) 1 := zLkV.mk (zTin (zm4 (List.mem_of_getElem? (i := 122) rfl)) rfl) (zTin (zm4 (List.mem_of_getElem? (i := 124) rfl)) rfl) (zTin (zSel (List.mem_of_getElem? (i := 67) rfl)) rfl) (zTin (zm1 (List.mem_of_getElem? (i := 10) rfl)) rfl) (zTin (zm4 (List.mem_of_getElem? (i := 125) rfl)) rfl) (by decide +kernel)
theorem cl_RX9_137 : zLkV RX9 137 yX9_primeOnTape cX9_primeOnTape 5 (some .int) 0 := zLkV.mk (zTin (zm4 (List.mem_of_getElem? (i := 142) rfl)) rfl) (zTin (zm4 (List.mem_of_getElem? (i := 144) rfl)) rfl) (zTin (zSel (List.mem_of_getElem? (i := 68) rfl)) rfl) (zTin (zm1 (List.mem_of_getElem? (i := 10) rfl)) rfl) (zTin (zm4 (List.mem_of_getElem? (i := 145) rfl)) rfl) (by decide +kernel)
theorem cl_RX9_146 : zLkS RX9 146 yX9_at cX9_at 3 (some .int) 3 := zLkS.mk (zTin (zm4 (List.mem_of_getElem? (i := 150) rfl)) rfl) (zTin (zm4 (List.mem_of_getElem? (i := 151) rfl)) rfl) (zTin (zm1 (List.mem_of_getElem? (i := 10) rfl)) rfl) (zTin (zm4 (List.mem_of_getElem? (i := 152) rfl)) rfl) (by decide +kernel)
theorem cl_RX9_150 : zLkV RX9 150 yX9_placeOf cX9_placeOf 3 (some .int) 1 := zLkV.mk (zTin (zm4 (List.mem_of_getElem? (i := 157) rfl)) rfl) (zTin (zm4 (List.mem_of_getElem? (i := 159) rfl)) rfl) (zTin (zSel (List.mem_of_getElem? (i := 69) rfl)) rfl) (zTin (zm1 (List.mem_of_getElem? (i := 10) rfl)) rfl) (zTin (zm4 (List.mem_of_getElem? (i := 160) rfl)) rfl) (by decide +kernel)
theorem cl_RX9_153 : zLkS RX9 153 yX9_isNode cX9_isNode 1 (some .boolean) 1 := zLkS.mk (zTin (zm4 (List.mem_of_getElem? (i := 161) rfl)) rfl) (zTin (zm4 (List.mem_of_getElem? (i := 162) rfl)) rfl) (zTin (zm1 (List.mem_of_getElem? (i := 10) rfl)) rfl) (zTin (zm4 (List.mem_of_getElem? (i := 163) rfl)) rfl) (by decide +kernel)
theorem cl_RX9_156 : zLkV RX9 156 yX9_rankOf cX9_rankOf 3 (some .int) 2 := zLkV.mk (zTin (zm4 (List.mem_of_getElem? (i := 164) rfl)) rfl) (zTin (zm4 (List.mem_of_getElem? (i := 166) rfl)) rfl) (zTin (zSel (List.mem_of_getElem? (i := 70) rfl)) rfl) (zTin (zm1 (List.mem_of_getElem? (i := 10) rfl)) rfl) (zTin (zm4 (List.mem_of_getElem? (i := 167) rfl)) rfl) (by decide +kernel)
theorem cl_RX9_159 : zLkV RX9 159 yX9_isPlain cX9_isPlain 5 (some .boolean) 3 := zLkV.mk (zTin (zm4 (List.mem_of_getElem? (i := 176) rfl)) rfl) (zTin (zm4 (List.mem_of_getElem? (i := 178) rfl)) rfl) (zTin (zSel (List.mem_of_getElem? (i := 71) rfl)) rfl) (zTin (zm1 (List.mem_of_getElem? (i := 10) rfl)) rfl) (zTin (zm4 (List.mem_of_getElem? (i := 179) rfl)) rfl) (by decide +kernel)
theorem cl_RX9_162 : zLkV RX9 162 yX9_leadOf cX9_leadOf 5 (some .int) 3 := zLkV.mk (zTin (zm4 (List.mem_of_getElem? (i := 200) rfl)) rfl) (zTin (zm4 (List.mem_of_getElem? (i := 202) rfl)) rfl) (zTin (zSel (List.mem_of_getElem? (i := 76) rfl)) rfl) (zTin (zm1 (List.mem_of_getElem? (i := 10) rfl)) rfl) (zTin (zm4 (List.mem_of_getElem? (i := 203) rfl)) rfl) (by decide +kernel)
theorem cl_RX9_166 : zLkV RX9 166 yX9_isNewTo cX9_isNewTo 8 (some .boolean) 2 := zLkV.mk (zTin (zm4 (List.mem_of_getElem? (i := 196) rfl)) rfl) (zTin (zm4 (List.mem_of_getElem? (i := 198) rfl)) rfl) (zTin (zSel (List.mem_of_getElem? (i := 75) rfl)) rfl) (zTin (zm1 (List.mem_of_getElem? (i := 10) rfl)) rfl) (zTin (zm4 (List.mem_of_getElem? (i := 199) rfl)) rfl) (by decide +kernel)
theorem cl_RX9_169 : zLkV RX9 169 yX9_inverse cX9_inverse 3 (some .int) 1 := zLkV.mk (zTin (zm4 (List.mem_of_getElem? (i := 204) rfl)) rfl) (zTin (zm4 (List.mem_of_getElem? (i := 206) rfl)) rfl) (zTin (zSel (List.mem_of_getElem? (i := 77) rfl)) rfl) (zTin (zm1 (List.mem_of_getElem? (i := 10) rfl)) rfl) (zTin (zm4 (List.mem_of_getElem? (i := 207) rfl)) rfl) (by decide +kernel)
theorem cl_RX9_172 : zLkV RX9 172 yX9_againstNodes cX9_againstNodes 4 (some .int) 3 := zLkV.mk (zTin (zm4 (List.mem_of_getElem? (i := 184) rfl)) rfl) (zTin (zm4 (List.mem_of_getElem? (i := 186) rfl)) rfl) (zTin (zSel (List.mem_of_getElem? (i := 72) rfl)) rfl) (zTin (zm1 (List.mem_of_getElem? (i := 10) rfl)) rfl) (zTin (zm4 (List.mem_of_getElem? (i := 187) rfl)) rfl) (by decide +kernel)
theorem cl_RX9_175 : zLkV RX9 175 yX9_mixes cX9_mixes 8 none 3 := zLkV.mk (zTin (zm4 (List.mem_of_getElem? (i := 188) rfl)) rfl) (zTin (zm4 (List.mem_of_getElem? (i := 190) rfl)) rfl) (zTin (zSel (List.mem_of_getElem? (i := 73) rfl)) rfl) (zTin (zm1 (List.mem_of_getElem? (i := 10) rfl)) rfl) (zTin (zm4 (List.mem_of_getElem? (i := 191) rfl)) rfl) (by decide +kernel)
theorem cl_RX9_179 : zLkV RX9 179 yX9_comes cX9_comes 11 (some .boolean) 2 := zLkV.mk (zTin (zm4 (List.mem_of_getElem? (i := 192) rfl)) rfl) (zTin (zm4 (List.mem_of_getElem? (i := 194) rfl)) rfl) (zTin (zSel (List.mem_of_getElem? (i := 74) rfl)) rfl) (zTin (zm1 (List.mem_of_getElem? (i := 10) rfl)) rfl) (zTin (zm4 (List.mem_of_getElem? (i := 195) rfl)) rfl) (by decide +kernel)
theorem cl_RX9_183 : zLkV RX9 183 yX9_mixesOf cX9_mixesOf 5 (some .int) 2 := zLkV.mk (zTin (zm4 (List.mem_of_getElem? (i := 221) rfl)) rfl) (zTin (zm4 (List.mem_of_getElem? (i := 223) rfl)) rfl) (zTin (zSel (List.mem_of_getElem? (i := 79) rfl)) rfl) (zTin (zm1 (List.mem_of_getElem? (i := 10) rfl)) rfl) (zTin (zm4 (List.mem_of_getElem? (i := 224) rfl)) rfl) (by decide +kernel)
theorem cl_RX9_186 : zLkV RX9 186 yX9_freshOf cX9_freshOf 5 (some .int) 3 := zLkV.mk (zTin (zm4 (List.mem_of_getElem? (i := 217) rfl)) rfl) (zTin (zm4 (List.mem_of_getElem? (i := 219) rfl)) rfl) (zTin (zSel (List.mem_of_getElem? (i := 78) rfl)) rfl) (zTin (zm1 (List.mem_of_getElem? (i := 10) rfl)) rfl) (zTin (zm4 (List.mem_of_getElem? (i := 220) rfl)) rfl) (by decide +kernel)
theorem cl_RX9_189 : zLkV RX9 189 yX9_isNewToAll cX9_isNewToAll 4 (some .boolean) 2 := zLkV.mk (zTin (zm4 (List.mem_of_getElem? (i := 229) rfl)) rfl) (zTin (zm4 (List.mem_of_getElem? (i := 231) rfl)) rfl) (zTin (zSel (List.mem_of_getElem? (i := 80) rfl)) rfl) (zTin (zm1 (List.mem_of_getElem? (i := 10) rfl)) rfl) (zTin (zm4 (List.mem_of_getElem? (i := 232) rfl)) rfl) (by decide +kernel)
theorem cl_RX9_192 : zLkV RX9 192 yX9_isDone cX9_isDone 4 (some .boolean) 1 := zLkV.mk (zTin (zm4 (List.mem_of_getElem? (i := 237) rfl)) rfl) (zTin (zm4 (List.mem_of_getElem? (i := 239) rfl)) rfl) (zTin (zSel (List.mem_of_getElem? (i := 81) rfl)) rfl) (zTin (zm1 (List.mem_of_getElem? (i := 10) rfl)) rfl) (zTin (zm5 (List.mem_of_getElem? (i := 0) rfl)) rfl) (by decide +kernel)
theorem cl_RX9_195 : zLkV RX9 195 yX9_moves cX9_moves 4 none 2 := zLkV.mk (zTin (zm5 (List.mem_of_getElem? (i := 1) rfl)) rfl) (zTin (zm5 (List.mem_of_getElem? (i := 3) rfl)) rfl) (zTin (zSel (List.mem_of_getElem? (i := 82) rfl)) rfl) (zTin (zm1 (List.mem_of_getElem? (i := 10) rfl)) rfl) (zTin (zm5 (List.mem_of_getElem? (i := 4) rfl)) rfl) (by decide +kernel)
theorem cl_RX9_202 : zLkV RX9 202 yX9_writes cX9_writes 2 none 1 := zLkV.mk (zTin (zm5 (List.mem_of_getElem? (i := 13) rfl)) rfl) (zTin (zm5 (List.mem_of_getElem? (i := 15) rfl)) rfl) (zTin (zSel (List.mem_of_getElem? (i := 83) rfl)) rfl) (zTin (zm1 (List.mem_of_getElem? (i := 10) rfl)) rfl) (zTin (zm5 (List.mem_of_getElem? (i := 16) rfl)) rfl) (by decide +kernel)
theorem cl_RX9_206 : zLkV RX9 206 yX9_writesNumber cX9_writesNumber 3 none 1 := zLkV.mk (zTin (zm5 (List.mem_of_getElem? (i := 17) rfl)) rfl) (zTin (zm5 (List.mem_of_getElem? (i := 19) rfl)) rfl) (zTin (zSel (List.mem_of_getElem? (i := 84) rfl)) rfl) (zTin (zm1 (List.mem_of_getElem? (i := 10) rfl)) rfl) (zTin (zm5 (List.mem_of_getElem? (i := 20) rfl)) rfl) (by decide +kernel)
theorem cl_RX9_209 : zLkV RX9 209 yX9_signAt cX9_signAt 2 (some .int) 1 := zLkV.mk (zTin (zm5 (List.mem_of_getElem? (i := 21) rfl)) rfl) (zTin (zm5 (List.mem_of_getElem? (i := 23) rfl)) rfl) (zTin (zSel (List.mem_of_getElem? (i := 85) rfl)) rfl) (zTin (zm1 (List.mem_of_getElem? (i := 10) rfl)) rfl) (zTin (zm5 (List.mem_of_getElem? (i := 24) rfl)) rfl) (by decide +kernel)
end
section
theorem zz_look : (1 : Nat) = 1 := rfl
end
