-- ===== PART A: goes FIRST, ahead of the names: the tables' words, and 'selects' of the private methods out of them =====
/-- a private method of a class that the tables say can be made, by its rows of tables_1 -/
def lw_okq (q : MethodName × Nat) : Prop := (q.1.cls ≠ "java/lang/invoke/MethodHandle" ∧ q.1.cls ≠ "java/lang/invoke/VarHandle") ∧ Cond.instantiable q.1.cls q.2 ∈ tables_1 ∧ Cond.privateMethod q.1 ∈ tables_1 ∧ Cond.instanceMethod q.1 ∈ tables_1
theorem lw_p0 : lw_okq (⟨"TideDice$AllThrows", "addThrow", "(LTideDice$Told;III)V"⟩, 6) := ⟨⟨by decide +kernel, by decide +kernel⟩, List.mem_of_getElem? (i := 97) (by decide +kernel), List.mem_of_getElem? (i := 158) (by decide +kernel), List.mem_of_getElem? (i := 159) (by decide +kernel)⟩
theorem lw_p1 : lw_okq (⟨"TideDice$Told", "berthBit", "(II)I"⟩, 4) := ⟨⟨by decide +kernel, by decide +kernel⟩, List.mem_of_getElem? (i := 19) (by decide +kernel), List.mem_of_getElem? (i := 169) (by decide +kernel), List.mem_of_getElem? (i := 170) (by decide +kernel)⟩
theorem lw_p2 : lw_okq (⟨"TideDice$Reader", "advance", "()V"⟩, 11) := ⟨⟨by decide +kernel, by decide +kernel⟩, List.mem_of_getElem? (i := 53) (by decide +kernel), List.mem_of_getElem? (i := 236) (by decide +kernel), List.mem_of_getElem? (i := 237) (by decide +kernel)⟩
theorem lw_p3 : lw_okq (⟨"TideDice$Reader", "isLetter", "(I)Z"⟩, 11) := ⟨⟨by decide +kernel, by decide +kernel⟩, List.mem_of_getElem? (i := 53) (by decide +kernel), List.mem_of_getElem? (i := 240) (by decide +kernel), List.mem_of_getElem? (i := 241) (by decide +kernel)⟩
theorem lw_p4 : lw_okq (⟨"TideDice$Reader", "skipLetters", "()V"⟩, 11) := ⟨⟨by decide +kernel, by decide +kernel⟩, List.mem_of_getElem? (i := 53) (by decide +kernel), List.mem_of_getElem? (i := 244) (by decide +kernel), List.mem_of_getElem? (i := 245) (by decide +kernel)⟩
theorem lw_p5 : lw_okq (⟨"TideDice$Reader", "isDigit", "(I)Z"⟩, 11) := ⟨⟨by decide +kernel, by decide +kernel⟩, List.mem_of_getElem? (i := 53) (by decide +kernel), List.mem_of_getElem? (i := 248) (by decide +kernel), List.mem_of_getElem? (i := 249) (by decide +kernel)⟩
theorem lw_p6 : lw_okq (⟨"TideDice$Reader", "scanNumber", "()V"⟩, 11) := ⟨⟨by decide +kernel, by decide +kernel⟩, List.mem_of_getElem? (i := 53) (by decide +kernel), List.mem_of_getElem? (i := 252) (by decide +kernel), List.mem_of_getElem? (i := 253) (by decide +kernel)⟩
theorem lw_p7 : lw_okq (⟨"TideDice$Reader", "readItem", "()V"⟩, 11) := ⟨⟨by decide +kernel, by decide +kernel⟩, List.mem_of_getElem? (i := 53) (by decide +kernel), List.mem_of_getElem? (i := 256) (by decide +kernel), List.mem_of_getElem? (i := 257) (by decide +kernel)⟩
theorem lw_p8 : lw_okq (⟨"TideDice$Reader", "readDie", "()V"⟩, 11) := ⟨⟨by decide +kernel, by decide +kernel⟩, List.mem_of_getElem? (i := 53) (by decide +kernel), List.mem_of_getElem? (i := 260) (by decide +kernel), List.mem_of_getElem? (i := 261) (by decide +kernel)⟩
theorem lw_p9 : lw_okq (⟨"TideDice$Reader", "isNumber", "(II)Z"⟩, 11) := ⟨⟨by decide +kernel, by decide +kernel⟩, List.mem_of_getElem? (i := 53) (by decide +kernel), List.mem_of_getElem? (i := 264) (by decide +kernel), List.mem_of_getElem? (i := 265) (by decide +kernel)⟩
theorem lw_p10 : lw_okq (⟨"TideDice$Reader", "refuse", "()V"⟩, 11) := ⟨⟨by decide +kernel, by decide +kernel⟩, List.mem_of_getElem? (i := 53) (by decide +kernel), List.mem_of_getElem? (i := 268) (by decide +kernel), List.mem_of_getElem? (i := 269) (by decide +kernel)⟩
theorem lw_p11 : lw_okq (⟨"TideDice$Reader", "readNumber", "(II)I"⟩, 11) := ⟨⟨by decide +kernel, by decide +kernel⟩, List.mem_of_getElem? (i := 53) (by decide +kernel), List.mem_of_getElem? (i := 272) (by decide +kernel), List.mem_of_getElem? (i := 273) (by decide +kernel)⟩
theorem lw_p12 : lw_okq (⟨"TideDice$Reader", "readStop", "()V"⟩, 11) := ⟨⟨by decide +kernel, by decide +kernel⟩, List.mem_of_getElem? (i := 53) (by decide +kernel), List.mem_of_getElem? (i := 276) (by decide +kernel), List.mem_of_getElem? (i := 277) (by decide +kernel)⟩
theorem lw_p13 : lw_okq (⟨"TideDice", "isBerth", "(I)Z"⟩, 12) := ⟨⟨by decide +kernel, by decide +kernel⟩, List.mem_of_getElem? (i := 11) (by decide +kernel), List.mem_of_getElem? (i := 300) (by decide +kernel), List.mem_of_getElem? (i := 301) (by decide +kernel)⟩
theorem lw_p14 : lw_okq (⟨"TideDice", "raceOf", "(I)I"⟩, 12) := ⟨⟨by decide +kernel, by decide +kernel⟩, List.mem_of_getElem? (i := 11) (by decide +kernel), List.mem_of_getElem? (i := 329) (by decide +kernel), List.mem_of_getElem? (i := 330) (by decide +kernel)⟩
theorem lw_p15 : lw_okq (⟨"TideDice$Course", "remember", "()V"⟩, 4) := ⟨⟨by decide +kernel, by decide +kernel⟩, List.mem_of_getElem? (i := 125) (by decide +kernel), List.mem_of_getElem? (i := 369) (by decide +kernel), List.mem_of_getElem? (i := 370) (by decide +kernel)⟩
def lw_privs_1 : List (MethodName × Nat) := [(⟨"TideDice$AllThrows", "addThrow", "(LTideDice$Told;III)V"⟩, 6), (⟨"TideDice$Told", "berthBit", "(II)I"⟩, 4), (⟨"TideDice$Reader", "advance", "()V"⟩, 11), (⟨"TideDice$Reader", "isLetter", "(I)Z"⟩, 11), (⟨"TideDice$Reader", "skipLetters", "()V"⟩, 11), (⟨"TideDice$Reader", "isDigit", "(I)Z"⟩, 11), (⟨"TideDice$Reader", "scanNumber", "()V"⟩, 11), (⟨"TideDice$Reader", "readItem", "()V"⟩, 11), (⟨"TideDice$Reader", "readDie", "()V"⟩, 11), (⟨"TideDice$Reader", "isNumber", "(II)Z"⟩, 11), (⟨"TideDice$Reader", "refuse", "()V"⟩, 11), (⟨"TideDice$Reader", "readNumber", "(II)I"⟩, 11), (⟨"TideDice$Reader", "readStop", "()V"⟩, 11), (⟨"TideDice", "isBerth", "(I)Z"⟩, 12), (⟨"TideDice", "raceOf", "(I)I"⟩, 12), (⟨"TideDice$Course", "remember", "()V"⟩, 4)]
theorem lw_r1 : ∀ q ∈ lw_privs_1, lw_okq q := List.forall_mem_cons.mpr ⟨lw_p0, List.forall_mem_cons.mpr ⟨lw_p1, List.forall_mem_cons.mpr ⟨lw_p2, List.forall_mem_cons.mpr ⟨lw_p3, List.forall_mem_cons.mpr ⟨lw_p4, List.forall_mem_cons.mpr ⟨lw_p5, List.forall_mem_cons.mpr ⟨lw_p6, List.forall_mem_cons.mpr ⟨lw_p7, List.forall_mem_cons.mpr ⟨lw_p8, List.forall_mem_cons.mpr ⟨lw_p9, List.forall_mem_cons.mpr ⟨lw_p10, List.forall_mem_cons.mpr ⟨lw_p11, List.forall_mem_cons.mpr ⟨lw_p12, List.forall_mem_cons.mpr ⟨lw_p13, List.forall_mem_cons.mpr ⟨lw_p14, List.forall_mem_cons.mpr ⟨lw_p15, fun _ h => absurd h List.not_mem_nil⟩⟩⟩⟩⟩⟩⟩⟩⟩⟩⟩⟩⟩⟩⟩⟩
theorem lw_p16 : lw_okq (⟨"TideDice$Course", "loseOldest", "()V"⟩, 4) := ⟨⟨by decide +kernel, by decide +kernel⟩, List.mem_of_getElem? (i := 125) (by decide +kernel), List.mem_of_getElem? (i := 373) (by decide +kernel), List.mem_of_getElem? (i := 374) (by decide +kernel)⟩
theorem lw_p17 : lw_okq (⟨"TideDice$Course", "giveTides", "(II)V"⟩, 4) := ⟨⟨by decide +kernel, by decide +kernel⟩, List.mem_of_getElem? (i := 125) (by decide +kernel), List.mem_of_getElem? (i := 409) (by decide +kernel), List.mem_of_getElem? (i := 410) (by decide +kernel)⟩
theorem lw_p18 : lw_okq (⟨"TideDice$Course", "endTurn", "()V"⟩, 4) := ⟨⟨by decide +kernel, by decide +kernel⟩, List.mem_of_getElem? (i := 125) (by decide +kernel), List.mem_of_getElem? (i := 415) (by decide +kernel), List.mem_of_getElem? (i := 416) (by decide +kernel)⟩
theorem lw_p19 : lw_okq (⟨"TideDice", "throwsFor", "(I)I"⟩, 12) := ⟨⟨by decide +kernel, by decide +kernel⟩, List.mem_of_getElem? (i := 11) (by decide +kernel), List.mem_of_getElem? (i := 463) (by decide +kernel), List.mem_of_getElem? (i := 464) (by decide +kernel)⟩
theorem lw_p20 : lw_okq (⟨"TideDice$AllThrows", "opensThrown", "(II)I"⟩, 6) := ⟨⟨by decide +kernel, by decide +kernel⟩, List.mem_of_getElem? (i := 97) (by decide +kernel), List.mem_of_getElem? (i := 471) (by decide +kernel), List.mem_of_getElem? (i := 472) (by decide +kernel)⟩
theorem lw_p21 : lw_okq (⟨"TideDice$AllThrows", "opensStill", "(II)I"⟩, 6) := ⟨⟨by decide +kernel, by decide +kernel⟩, List.mem_of_getElem? (i := 97) (by decide +kernel), List.mem_of_getElem? (i := 475) (by decide +kernel), List.mem_of_getElem? (i := 476) (by decide +kernel)⟩
theorem lw_p22 : lw_okq (⟨"TideDice", "offOf", "(I)I"⟩, 12) := ⟨⟨by decide +kernel, by decide +kernel⟩, List.mem_of_getElem? (i := 11) (by decide +kernel), List.mem_of_getElem? (i := 519) (by decide +kernel), List.mem_of_getElem? (i := 520) (by decide +kernel)⟩
theorem lw_p23 : lw_okq (⟨"TideDice", "berthMark", "(I)I"⟩, 12) := ⟨⟨by decide +kernel, by decide +kernel⟩, List.mem_of_getElem? (i := 11) (by decide +kernel), List.mem_of_getElem? (i := 578) (by decide +kernel), List.mem_of_getElem? (i := 579) (by decide +kernel)⟩
theorem lw_p24 : lw_okq (⟨"TideDice", "shipMark", "(I)I"⟩, 12) := ⟨⟨by decide +kernel, by decide +kernel⟩, List.mem_of_getElem? (i := 11) (by decide +kernel), List.mem_of_getElem? (i := 582) (by decide +kernel), List.mem_of_getElem? (i := 583) (by decide +kernel)⟩
theorem lw_p25 : lw_okq (⟨"TideDice", "quayMark", "(I)I"⟩, 12) := ⟨⟨by decide +kernel, by decide +kernel⟩, List.mem_of_getElem? (i := 11) (by decide +kernel), List.mem_of_getElem? (i := 587) (by decide +kernel), List.mem_of_getElem? (i := 588) (by decide +kernel)⟩
theorem lw_p26 : lw_okq (⟨"TideDice", "coalMark", "(I)I"⟩, 12) := ⟨⟨by decide +kernel, by decide +kernel⟩, List.mem_of_getElem? (i := 11) (by decide +kernel), List.mem_of_getElem? (i := 593) (by decide +kernel), List.mem_of_getElem? (i := 594) (by decide +kernel)⟩
theorem lw_p27 : lw_okq (⟨"TideDice", "lentMark", "(I)I"⟩, 12) := ⟨⟨by decide +kernel, by decide +kernel⟩, List.mem_of_getElem? (i := 11) (by decide +kernel), List.mem_of_getElem? (i := 598) (by decide +kernel), List.mem_of_getElem? (i := 599) (by decide +kernel)⟩
theorem lw_p28 : lw_okq (⟨"TideDice", "pilotMark", "(I)I"⟩, 12) := ⟨⟨by decide +kernel, by decide +kernel⟩, List.mem_of_getElem? (i := 11) (by decide +kernel), List.mem_of_getElem? (i := 603) (by decide +kernel), List.mem_of_getElem? (i := 604) (by decide +kernel)⟩
theorem lw_p29 : lw_okq (⟨"TideDiceModel", "plain", "()V"⟩, 19) := ⟨⟨by decide +kernel, by decide +kernel⟩, List.mem_of_getElem? (i := 631) (by decide +kernel), List.mem_of_getElem? (i := 637) (by decide +kernel), List.mem_of_getElem? (i := 638) (by decide +kernel)⟩
theorem lw_p30 : lw_okq (⟨"TideDiceModel", "takesAll", "()V"⟩, 19) := ⟨⟨by decide +kernel, by decide +kernel⟩, List.mem_of_getElem? (i := 631) (by decide +kernel), List.mem_of_getElem? (i := 641) (by decide +kernel), List.mem_of_getElem? (i := 642) (by decide +kernel)⟩
theorem lw_p31 : lw_okq (⟨"TideDiceModel", "reads", "()V"⟩, 19) := ⟨⟨by decide +kernel, by decide +kernel⟩, List.mem_of_getElem? (i := 631) (by decide +kernel), List.mem_of_getElem? (i := 719) (by decide +kernel), List.mem_of_getElem? (i := 720) (by decide +kernel)⟩
def lw_privs_2 : List (MethodName × Nat) := [(⟨"TideDice$Course", "loseOldest", "()V"⟩, 4), (⟨"TideDice$Course", "giveTides", "(II)V"⟩, 4), (⟨"TideDice$Course", "endTurn", "()V"⟩, 4), (⟨"TideDice", "throwsFor", "(I)I"⟩, 12), (⟨"TideDice$AllThrows", "opensThrown", "(II)I"⟩, 6), (⟨"TideDice$AllThrows", "opensStill", "(II)I"⟩, 6), (⟨"TideDice", "offOf", "(I)I"⟩, 12), (⟨"TideDice", "berthMark", "(I)I"⟩, 12), (⟨"TideDice", "shipMark", "(I)I"⟩, 12), (⟨"TideDice", "quayMark", "(I)I"⟩, 12), (⟨"TideDice", "coalMark", "(I)I"⟩, 12), (⟨"TideDice", "lentMark", "(I)I"⟩, 12), (⟨"TideDice", "pilotMark", "(I)I"⟩, 12), (⟨"TideDiceModel", "plain", "()V"⟩, 19), (⟨"TideDiceModel", "takesAll", "()V"⟩, 19), (⟨"TideDiceModel", "reads", "()V"⟩, 19)]
theorem lw_r2 : ∀ q ∈ lw_privs_2, lw_okq q := List.forall_mem_cons.mpr ⟨lw_p16, List.forall_mem_cons.mpr ⟨lw_p17, List.forall_mem_cons.mpr ⟨lw_p18, List.forall_mem_cons.mpr ⟨lw_p19, List.forall_mem_cons.mpr ⟨lw_p20, List.forall_mem_cons.mpr ⟨lw_p21, List.forall_mem_cons.mpr ⟨lw_p22, List.forall_mem_cons.mpr ⟨lw_p23, List.forall_mem_cons.mpr ⟨lw_p24, List.forall_mem_cons.mpr ⟨lw_p25, List.forall_mem_cons.mpr ⟨lw_p26, List.forall_mem_cons.mpr ⟨lw_p27, List.forall_mem_cons.mpr ⟨lw_p28, List.forall_mem_cons.mpr ⟨lw_p29, List.forall_mem_cons.mpr ⟨lw_p30, List.forall_mem_cons.mpr ⟨lw_p31, fun _ h => absurd h List.not_mem_nil⟩⟩⟩⟩⟩⟩⟩⟩⟩⟩⟩⟩⟩⟩⟩⟩
theorem lw_p32 : lw_okq (⟨"TideDiceModel", "readLetters", "()V"⟩, 19) := ⟨⟨by decide +kernel, by decide +kernel⟩, List.mem_of_getElem? (i := 631) (by decide +kernel), List.mem_of_getElem? (i := 728) (by decide +kernel), List.mem_of_getElem? (i := 729) (by decide +kernel)⟩
theorem lw_p33 : lw_okq (⟨"TideDiceModel", "readNumber", "()V"⟩, 19) := ⟨⟨by decide +kernel, by decide +kernel⟩, List.mem_of_getElem? (i := 631) (by decide +kernel), List.mem_of_getElem? (i := 737) (by decide +kernel), List.mem_of_getElem? (i := 738) (by decide +kernel)⟩
theorem lw_p34 : lw_okq (⟨"TideDiceModel", "readItem", "()Z"⟩, 19) := ⟨⟨by decide +kernel, by decide +kernel⟩, List.mem_of_getElem? (i := 631) (by decide +kernel), List.mem_of_getElem? (i := 741) (by decide +kernel), List.mem_of_getElem? (i := 742) (by decide +kernel)⟩
theorem lw_p35 : lw_okq (⟨"TideDiceModel", "readDie", "()Z"⟩, 19) := ⟨⟨by decide +kernel, by decide +kernel⟩, List.mem_of_getElem? (i := 631) (by decide +kernel), List.mem_of_getElem? (i := 745) (by decide +kernel), List.mem_of_getElem? (i := 746) (by decide +kernel)⟩
theorem lw_p36 : lw_okq (⟨"TideDiceModel", "number", "(II)Z"⟩, 19) := ⟨⟨by decide +kernel, by decide +kernel⟩, List.mem_of_getElem? (i := 631) (by decide +kernel), List.mem_of_getElem? (i := 749) (by decide +kernel), List.mem_of_getElem? (i := 750) (by decide +kernel)⟩
theorem lw_p37 : lw_okq (⟨"TideDiceModel", "once", "(IIII)Z"⟩, 19) := ⟨⟨by decide +kernel, by decide +kernel⟩, List.mem_of_getElem? (i := 631) (by decide +kernel), List.mem_of_getElem? (i := 754) (by decide +kernel), List.mem_of_getElem? (i := 755) (by decide +kernel)⟩
theorem lw_p38 : lw_okq (⟨"TideDiceModel", "faces", "(I)I"⟩, 19) := ⟨⟨by decide +kernel, by decide +kernel⟩, List.mem_of_getElem? (i := 631) (by decide +kernel), List.mem_of_getElem? (i := 767) (by decide +kernel), List.mem_of_getElem? (i := 768) (by decide +kernel)⟩
theorem lw_p39 : lw_okq (⟨"TideDiceModel", "face", "(II)I"⟩, 19) := ⟨⟨by decide +kernel, by decide +kernel⟩, List.mem_of_getElem? (i := 631) (by decide +kernel), List.mem_of_getElem? (i := 771) (by decide +kernel), List.mem_of_getElem? (i := 772) (by decide +kernel)⟩
theorem lw_p40 : lw_okq (⟨"TideDiceModel", "isBerth", "(I)Z"⟩, 19) := ⟨⟨by decide +kernel, by decide +kernel⟩, List.mem_of_getElem? (i := 631) (by decide +kernel), List.mem_of_getElem? (i := 779) (by decide +kernel), List.mem_of_getElem? (i := 780) (by decide +kernel)⟩
theorem lw_p41 : lw_okq (⟨"TideDiceModel", "berths", "(I)I"⟩, 19) := ⟨⟨by decide +kernel, by decide +kernel⟩, List.mem_of_getElem? (i := 631) (by decide +kernel), List.mem_of_getElem? (i := 788) (by decide +kernel), List.mem_of_getElem? (i := 789) (by decide +kernel)⟩
theorem lw_p42 : lw_okq (⟨"TideDiceModel", "race", "(I)I"⟩, 19) := ⟨⟨by decide +kernel, by decide +kernel⟩, List.mem_of_getElem? (i := 631) (by decide +kernel), List.mem_of_getElem? (i := 792) (by decide +kernel), List.mem_of_getElem? (i := 793) (by decide +kernel)⟩
theorem lw_p43 : lw_okq (⟨"TideDiceModel", "throwsOf", "()I"⟩, 19) := ⟨⟨by decide +kernel, by decide +kernel⟩, List.mem_of_getElem? (i := 631) (by decide +kernel), List.mem_of_getElem? (i := 803) (by decide +kernel), List.mem_of_getElem? (i := 804) (by decide +kernel)⟩
theorem lw_p44 : lw_okq (⟨"TideDiceModel", "comes", "(I)V"⟩, 19) := ⟨⟨by decide +kernel, by decide +kernel⟩, List.mem_of_getElem? (i := 631) (by decide +kernel), List.mem_of_getElem? (i := 807) (by decide +kernel), List.mem_of_getElem? (i := 808) (by decide +kernel)⟩
theorem lw_p45 : lw_okq (⟨"TideDiceModel", "opened", "(IIII)I"⟩, 19) := ⟨⟨by decide +kernel, by decide +kernel⟩, List.mem_of_getElem? (i := 631) (by decide +kernel), List.mem_of_getElem? (i := 811) (by decide +kernel), List.mem_of_getElem? (i := 812) (by decide +kernel)⟩
theorem lw_p46 : lw_okq (⟨"TideDiceModel", "free", "()I"⟩, 19) := ⟨⟨by decide +kernel, by decide +kernel⟩, List.mem_of_getElem? (i := 631) (by decide +kernel), List.mem_of_getElem? (i := 815) (by decide +kernel), List.mem_of_getElem? (i := 816) (by decide +kernel)⟩
theorem lw_p47 : lw_okq (⟨"TideDiceModel", "taken", "()I"⟩, 19) := ⟨⟨by decide +kernel, by decide +kernel⟩, List.mem_of_getElem? (i := 631) (by decide +kernel), List.mem_of_getElem? (i := 819) (by decide +kernel), List.mem_of_getElem? (i := 820) (by decide +kernel)⟩
def lw_privs_3 : List (MethodName × Nat) := [(⟨"TideDiceModel", "readLetters", "()V"⟩, 19), (⟨"TideDiceModel", "readNumber", "()V"⟩, 19), (⟨"TideDiceModel", "readItem", "()Z"⟩, 19), (⟨"TideDiceModel", "readDie", "()Z"⟩, 19), (⟨"TideDiceModel", "number", "(II)Z"⟩, 19), (⟨"TideDiceModel", "once", "(IIII)Z"⟩, 19), (⟨"TideDiceModel", "faces", "(I)I"⟩, 19), (⟨"TideDiceModel", "face", "(II)I"⟩, 19), (⟨"TideDiceModel", "isBerth", "(I)Z"⟩, 19), (⟨"TideDiceModel", "berths", "(I)I"⟩, 19), (⟨"TideDiceModel", "race", "(I)I"⟩, 19), (⟨"TideDiceModel", "throwsOf", "()I"⟩, 19), (⟨"TideDiceModel", "comes", "(I)V"⟩, 19), (⟨"TideDiceModel", "opened", "(IIII)I"⟩, 19), (⟨"TideDiceModel", "free", "()I"⟩, 19), (⟨"TideDiceModel", "taken", "()I"⟩, 19)]
theorem lw_r3 : ∀ q ∈ lw_privs_3, lw_okq q := List.forall_mem_cons.mpr ⟨lw_p32, List.forall_mem_cons.mpr ⟨lw_p33, List.forall_mem_cons.mpr ⟨lw_p34, List.forall_mem_cons.mpr ⟨lw_p35, List.forall_mem_cons.mpr ⟨lw_p36, List.forall_mem_cons.mpr ⟨lw_p37, List.forall_mem_cons.mpr ⟨lw_p38, List.forall_mem_cons.mpr ⟨lw_p39, List.forall_mem_cons.mpr ⟨lw_p40, List.forall_mem_cons.mpr ⟨lw_p41, List.forall_mem_cons.mpr ⟨lw_p42, List.forall_mem_cons.mpr ⟨lw_p43, List.forall_mem_cons.mpr ⟨lw_p44, List.forall_mem_cons.mpr ⟨lw_p45, List.forall_mem_cons.mpr ⟨lw_p46, List.forall_mem_cons.mpr ⟨lw_p47, fun _ h => absurd h List.not_mem_nil⟩⟩⟩⟩⟩⟩⟩⟩⟩⟩⟩⟩⟩⟩⟩⟩
theorem lw_p48 : lw_okq (⟨"TideDiceModel", "isFace", "(II)Z"⟩, 19) := ⟨⟨by decide +kernel, by decide +kernel⟩, List.mem_of_getElem? (i := 631) (by decide +kernel), List.mem_of_getElem? (i := 827) (by decide +kernel), List.mem_of_getElem? (i := 828) (by decide +kernel)⟩
theorem lw_p49 : lw_okq (⟨"TideDiceModel", "isWon", "()Z"⟩, 19) := ⟨⟨by decide +kernel, by decide +kernel⟩, List.mem_of_getElem? (i := 631) (by decide +kernel), List.mem_of_getElem? (i := 831) (by decide +kernel), List.mem_of_getElem? (i := 832) (by decide +kernel)⟩
theorem lw_p50 : lw_okq (⟨"TideDiceModel", "notes", "()V"⟩, 19) := ⟨⟨by decide +kernel, by decide +kernel⟩, List.mem_of_getElem? (i := 631) (by decide +kernel), List.mem_of_getElem? (i := 835) (by decide +kernel), List.mem_of_getElem? (i := 836) (by decide +kernel)⟩
theorem lw_p51 : lw_okq (⟨"TideDiceModel", "open", "()I"⟩, 19) := ⟨⟨by decide +kernel, by decide +kernel⟩, List.mem_of_getElem? (i := 631) (by decide +kernel), List.mem_of_getElem? (i := 842) (by decide +kernel), List.mem_of_getElem? (i := 843) (by decide +kernel)⟩
theorem lw_p52 : lw_okq (⟨"TideDiceModel", "gives", "(I)I"⟩, 19) := ⟨⟨by decide +kernel, by decide +kernel⟩, List.mem_of_getElem? (i := 631) (by decide +kernel), List.mem_of_getElem? (i := 850) (by decide +kernel), List.mem_of_getElem? (i := 851) (by decide +kernel)⟩
theorem lw_p53 : lw_okq (⟨"TideDiceModel", "tides", "(II)V"⟩, 19) := ⟨⟨by decide +kernel, by decide +kernel⟩, List.mem_of_getElem? (i := 631) (by decide +kernel), List.mem_of_getElem? (i := 854) (by decide +kernel), List.mem_of_getElem? (i := 855) (by decide +kernel)⟩
theorem lw_p54 : lw_okq (⟨"TideDiceModel", "ends", "()V"⟩, 19) := ⟨⟨by decide +kernel, by decide +kernel⟩, List.mem_of_getElem? (i := 631) (by decide +kernel), List.mem_of_getElem? (i := 858) (by decide +kernel), List.mem_of_getElem? (i := 859) (by decide +kernel)⟩
theorem lw_p55 : lw_okq (⟨"TideDiceModel", "chances", "(I)I"⟩, 19) := ⟨⟨by decide +kernel, by decide +kernel⟩, List.mem_of_getElem? (i := 631) (by decide +kernel), List.mem_of_getElem? (i := 883) (by decide +kernel), List.mem_of_getElem? (i := 884) (by decide +kernel)⟩
theorem lw_p56 : lw_okq (⟨"TideDiceModel", "throwsFor", "(I)I"⟩, 19) := ⟨⟨by decide +kernel, by decide +kernel⟩, List.mem_of_getElem? (i := 631) (by decide +kernel), List.mem_of_getElem? (i := 887) (by decide +kernel), List.mem_of_getElem? (i := 888) (by decide +kernel)⟩
theorem lw_p57 : lw_okq (⟨"TideDiceModel", "opensThen", "()I"⟩, 19) := ⟨⟨by decide +kernel, by decide +kernel⟩, List.mem_of_getElem? (i := 631) (by decide +kernel), List.mem_of_getElem? (i := 891) (by decide +kernel), List.mem_of_getElem? (i := 892) (by decide +kernel)⟩
theorem lw_p58 : lw_okq (⟨"TideDiceModel", "offOf", "(I)I"⟩, 19) := ⟨⟨by decide +kernel, by decide +kernel⟩, List.mem_of_getElem? (i := 631) (by decide +kernel), List.mem_of_getElem? (i := 925) (by decide +kernel), List.mem_of_getElem? (i := 926) (by decide +kernel)⟩
theorem lw_p59 : lw_okq (⟨"TideDiceModel", "wins", "(II)I"⟩, 19) := ⟨⟨by decide +kernel, by decide +kernel⟩, List.mem_of_getElem? (i := 631) (by decide +kernel), List.mem_of_getElem? (i := 949) (by decide +kernel), List.mem_of_getElem? (i := 950) (by decide +kernel)⟩
theorem lw_p60 : lw_okq (⟨"TideDiceModel", "isMore", "(II)Z"⟩, 19) := ⟨⟨by decide +kernel, by decide +kernel⟩, List.mem_of_getElem? (i := 631) (by decide +kernel), List.mem_of_getElem? (i := 957) (by decide +kernel), List.mem_of_getElem? (i := 958) (by decide +kernel)⟩
def lw_privs_4 : List (MethodName × Nat) := [(⟨"TideDiceModel", "isFace", "(II)Z"⟩, 19), (⟨"TideDiceModel", "isWon", "()Z"⟩, 19), (⟨"TideDiceModel", "notes", "()V"⟩, 19), (⟨"TideDiceModel", "open", "()I"⟩, 19), (⟨"TideDiceModel", "gives", "(I)I"⟩, 19), (⟨"TideDiceModel", "tides", "(II)V"⟩, 19), (⟨"TideDiceModel", "ends", "()V"⟩, 19), (⟨"TideDiceModel", "chances", "(I)I"⟩, 19), (⟨"TideDiceModel", "throwsFor", "(I)I"⟩, 19), (⟨"TideDiceModel", "opensThen", "()I"⟩, 19), (⟨"TideDiceModel", "offOf", "(I)I"⟩, 19), (⟨"TideDiceModel", "wins", "(II)I"⟩, 19), (⟨"TideDiceModel", "isMore", "(II)Z"⟩, 19)]
theorem lw_r4 : ∀ q ∈ lw_privs_4, lw_okq q := List.forall_mem_cons.mpr ⟨lw_p48, List.forall_mem_cons.mpr ⟨lw_p49, List.forall_mem_cons.mpr ⟨lw_p50, List.forall_mem_cons.mpr ⟨lw_p51, List.forall_mem_cons.mpr ⟨lw_p52, List.forall_mem_cons.mpr ⟨lw_p53, List.forall_mem_cons.mpr ⟨lw_p54, List.forall_mem_cons.mpr ⟨lw_p55, List.forall_mem_cons.mpr ⟨lw_p56, List.forall_mem_cons.mpr ⟨lw_p57, List.forall_mem_cons.mpr ⟨lw_p58, List.forall_mem_cons.mpr ⟨lw_p59, List.forall_mem_cons.mpr ⟨lw_p60, fun _ h => absurd h List.not_mem_nil⟩⟩⟩⟩⟩⟩⟩⟩⟩⟩⟩⟩⟩
def lw_privs : List (MethodName × Nat) := lw_privs_1 ++ (lw_privs_2 ++ (lw_privs_3 ++ (lw_privs_4)))
def lw_tbl : List Cond := k2_sels lw_privs ++ tables_1
theorem lw_privs_ok : ∀ q ∈ lw_privs, lw_okq q := by
  show ∀ q ∈ lw_privs_1 ++ (lw_privs_2 ++ (lw_privs_3 ++ (lw_privs_4))), lw_okq q
  exact List.forall_mem_append.mpr ⟨lw_r1, List.forall_mem_append.mpr ⟨lw_r2, List.forall_mem_append.mpr ⟨lw_r3, lw_r4⟩⟩⟩
def RX0 : String := "TideDice$AllThrows"
def TX0 : u_T := fun k => match k with
  | 0 => ("TideDice$AllThrows", "shown", "[I", true)
  | 1 => ("TideDice$AllThrows", "calm", "[I", true)
  | 2 => ("TideDice$AllThrows", "windy", "[I", true)
  | 3 => ("TideDice$AllThrows", "turns", "[Z", true)
  | 4 => ("TideDice$AllThrows", "many", "I", false)
  | _ => ("TideDice$AllThrows", "ever", "I", false)
def tyX0 : Nat → FieldType := fun k => match k with
  | 0 => .array .int
  | 1 => .array .int
  | 2 => .array .int
  | 3 => .array .boolean
  | 4 => .int
  | _ => .int
theorem nmX0 : ∀ a, a < 6 → ∀ b, b < 6 → a ≠ b → (TX0 a).2.1 ≠ (TX0 b).2.1 := by decide +kernel
theorem tyX0_ok : ∀ k, k < 6 → parseFieldDescriptor (TX0 k).2.2.1 = some (tyX0 k) := by decide +kernel
abbrev cX0_init : ByteArray := prog_2_method_1_code
def yX0_init : MethodName := ⟨RX0, "<init>", "()V"⟩
abbrev cX0_makeOf : ByteArray := prog_2_method_2_code
def yX0_makeOf : MethodName := ⟨RX0, "makeOf", "(LTideDice$Told;)V"⟩
abbrev cX0_addThrow : ByteArray := prog_2_method_3_code
def yX0_addThrow : MethodName := ⟨RX0, "addThrow", "(LTideDice$Told;III)V"⟩
abbrev cX0_shownAs : ByteArray := prog_2_method_4_code
def yX0_shownAs : MethodName := ⟨RX0, "shownAs", "(III)I"⟩
abbrev cX0_alikePairs : ByteArray := prog_2_method_5_code
def yX0_alikePairs : MethodName := ⟨RX0, "alikePairs", "(III)I"⟩
abbrev cX0_opensStill : ByteArray := prog_2_method_6_code
def yX0_opensStill : MethodName := ⟨RX0, "opensStill", "(II)I"⟩
abbrev cX0_opensThrown : ByteArray := prog_2_method_7_code
def yX0_opensThrown : MethodName := ⟨RX0, "opensThrown", "(II)I"⟩
abbrev cX0_manyOpening : ByteArray := prog_2_method_8_code
def yX0_manyOpening : MethodName := ⟨RX0, "manyOpening", "(II)I"⟩
abbrev cX0_sumOpening : ByteArray := prog_2_method_9_code
def yX0_sumOpening : MethodName := ⟨RX0, "sumOpening", "(II)I"⟩
abbrev cX0_manyStill : ByteArray := prog_2_method_10_code
def yX0_manyStill : MethodName := ⟨RX0, "manyStill", "(II)I"⟩
abbrev cX0_firstStill : ByteArray := prog_2_method_11_code
def yX0_firstStill : MethodName := ⟨RX0, "firstStill", "(II)I"⟩
def RX1 : String := "TideDice$Course"
def TX1 : u_T := fun k => match k with
  | 0 => ("TideDice$Course", "told", "LTideDice$Told;", true)
  | 1 => ("TideDice$Course", "at", "[I", true)
  | 2 => ("TideDice$Course", "past", "[I", true)
  | _ => ("TideDice$Course", "known", "I", false)
def tyX1 : Nat → FieldType := fun k => match k with
  | 0 => .object "TideDice$Told"
  | 1 => .array .int
  | 2 => .array .int
  | _ => .int
theorem nmX1 : ∀ a, a < 4 → ∀ b, b < 4 → a ≠ b → (TX1 a).2.1 ≠ (TX1 b).2.1 := by decide +kernel
theorem tyX1_ok : ∀ k, k < 4 → parseFieldDescriptor (TX1 k).2.2.1 = some (tyX1 k) := by decide +kernel
abbrev cX1_init : ByteArray := prog_3_method_1_code
def yX1_init : MethodName := ⟨RX1, "<init>", "(LTideDice$Told;)V"⟩
abbrev cX1_begin : ByteArray := prog_3_method_2_code
def yX1_begin : MethodName := ⟨RX1, "begin", "()V"⟩
abbrev cX1_becomes : ByteArray := prog_3_method_3_code
def yX1_becomes : MethodName := ⟨RX1, "becomes", "(LTideDice$Course;)V"⟩
abbrev cX1_remember : ByteArray := prog_3_method_4_code
def yX1_remember : MethodName := ⟨RX1, "remember", "()V"⟩
abbrev cX1_loseOldest : ByteArray := prog_3_method_5_code
def yX1_loseOldest : MethodName := ⟨RX1, "loseOldest", "()V"⟩
abbrev cX1_stepBack : ByteArray := prog_3_method_6_code
def yX1_stepBack : MethodName := ⟨RX1, "stepBack", "()V"⟩
abbrev cX1_berthsOf : ByteArray := prog_3_method_7_code
def yX1_berthsOf : MethodName := ⟨RX1, "berthsOf", "(I)I"⟩
abbrev cX1_tidesOf : ByteArray := prog_3_method_8_code
def yX1_tidesOf : MethodName := ⟨RX1, "tidesOf", "(I)I"⟩
abbrev cX1_isBlind : ByteArray := prog_3_method_9_code
def yX1_isBlind : MethodName := ⟨RX1, "isBlind", "(I)Z"⟩
abbrev cX1_wind : ByteArray := prog_3_method_10_code
def yX1_wind : MethodName := ⟨RX1, "wind", "()I"⟩
abbrev cX1_shown : ByteArray := prog_3_method_11_code
def yX1_shown : MethodName := ⟨RX1, "shown", "()I"⟩
abbrev cX1_lies : ByteArray := prog_3_method_12_code
def yX1_lies : MethodName := ⟨RX1, "lies", "()Z"⟩
abbrev cX1_owned : ByteArray := prog_3_method_13_code
def yX1_owned : MethodName := ⟨RX1, "owned", "()I"⟩
abbrev cX1_free : ByteArray := prog_3_method_14_code
def yX1_free : MethodName := ⟨RX1, "free", "()I"⟩
abbrev cX1_owner : ByteArray := prog_3_method_15_code
def yX1_owner : MethodName := ⟨RX1, "owner", "(I)I"⟩
abbrev cX1_winner : ByteArray := prog_3_method_16_code
def yX1_winner : MethodName := ⟨RX1, "winner", "()I"⟩
abbrev cX1_whoMoves : ByteArray := prog_3_method_17_code
def yX1_whoMoves : MethodName := ⟨RX1, "whoMoves", "()I"⟩
abbrev cX1_open : ByteArray := prog_3_method_18_code
def yX1_open : MethodName := ⟨RX1, "open", "()I"⟩
abbrev cX1_tidesFor : ByteArray := prog_3_method_19_code
def yX1_tidesFor : MethodName := ⟨RX1, "tidesFor", "(I)I"⟩
abbrev cX1_cast : ByteArray := prog_3_method_20_code
def yX1_cast : MethodName := ⟨RX1, "cast", "(III)V"⟩
abbrev cX1_take : ByteArray := prog_3_method_21_code
def yX1_take : MethodName := ⟨RX1, "take", "(I)I"⟩
abbrev cX1_pass : ByteArray := prog_3_method_22_code
def yX1_pass : MethodName := ⟨RX1, "pass", "()V"⟩
abbrev cX1_leave : ByteArray := prog_3_method_23_code
def yX1_leave : MethodName := ⟨RX1, "leave", "()V"⟩
abbrev cX1_giveTides : ByteArray := prog_3_method_24_code
def yX1_giveTides : MethodName := ⟨RX1, "giveTides", "(II)V"⟩
abbrev cX1_endTurn : ByteArray := prog_3_method_25_code
def yX1_endTurn : MethodName := ⟨RX1, "endTurn", "()V"⟩
def RX2 : String := "TideDice$Reader"
def TX2 : u_T := fun k => match k with
  | 0 => ("TideDice$Reader", "draft", "LTideDice$Told;", true)
  | 1 => ("TideDice$Reader", "fault", "I", false)
  | 2 => ("TideDice$Reader", "text", "[C", false)
  | 3 => ("TideDice$Reader", "length", "I", false)
  | 4 => ("TideDice$Reader", "kind", "I", false)
  | 5 => ("TideDice$Reader", "start", "I", false)
  | 6 => ("TideDice$Reader", "next", "I", false)
  | 7 => ("TideDice$Reader", "number", "I", false)
  | 8 => ("TideDice$Reader", "dice", "I", false)
  | 9 => ("TideDice$Reader", "berthsTold", "Z", false)
  | _ => ("TideDice$Reader", "goalTold", "Z", false)
def tyX2 : Nat → FieldType := fun k => match k with
  | 0 => .object "TideDice$Told"
  | 1 => .int
  | 2 => .array .char
  | 3 => .int
  | 4 => .int
  | 5 => .int
  | 6 => .int
  | 7 => .int
  | 8 => .int
  | 9 => .boolean
  | _ => .boolean
theorem nmX2 : ∀ a, a < 11 → ∀ b, b < 11 → a ≠ b → (TX2 a).2.1 ≠ (TX2 b).2.1 := by decide +kernel
theorem tyX2_ok : ∀ k, k < 11 → parseFieldDescriptor (TX2 k).2.2.1 = some (tyX2 k) := by decide +kernel
abbrev cX2_init : ByteArray := prog_4_method_1_code
def yX2_init : MethodName := ⟨RX2, "<init>", "()V"⟩
abbrev cX2_readItems : ByteArray := prog_4_method_2_code
def yX2_readItems : MethodName := ⟨RX2, "readItems", "([CI)I"⟩
abbrev cX2_readItem : ByteArray := prog_4_method_3_code
def yX2_readItem : MethodName := ⟨RX2, "readItem", "()V"⟩
abbrev cX2_readDie : ByteArray := prog_4_method_4_code
def yX2_readDie : MethodName := ⟨RX2, "readDie", "()V"⟩
abbrev cX2_readNumber : ByteArray := prog_4_method_5_code
def yX2_readNumber : MethodName := ⟨RX2, "readNumber", "(II)I"⟩
abbrev cX2_readStop : ByteArray := prog_4_method_6_code
def yX2_readStop : MethodName := ⟨RX2, "readStop", "()V"⟩
abbrev cX2_isNumber : ByteArray := prog_4_method_7_code
def yX2_isNumber : MethodName := ⟨RX2, "isNumber", "(II)Z"⟩
abbrev cX2_refuse : ByteArray := prog_4_method_8_code
def yX2_refuse : MethodName := ⟨RX2, "refuse", "()V"⟩
abbrev cX2_advance : ByteArray := prog_4_method_9_code
def yX2_advance : MethodName := ⟨RX2, "advance", "()V"⟩
abbrev cX2_skipLetters : ByteArray := prog_4_method_10_code
def yX2_skipLetters : MethodName := ⟨RX2, "skipLetters", "()V"⟩
abbrev cX2_scanNumber : ByteArray := prog_4_method_11_code
def yX2_scanNumber : MethodName := ⟨RX2, "scanNumber", "()V"⟩
abbrev cX2_isLetter : ByteArray := prog_4_method_12_code
def yX2_isLetter : MethodName := ⟨RX2, "isLetter", "(I)Z"⟩
abbrev cX2_isDigit : ByteArray := prog_4_method_13_code
def yX2_isDigit : MethodName := ⟨RX2, "isDigit", "(I)Z"⟩
def RX3 : String := "TideDice$Told"
def TX3 : u_T := fun k => match k with
  | 0 => ("TideDice$Told", "pips", "[I", true)
  | 1 => ("TideDice$Told", "many", "[I", true)
  | 2 => ("TideDice$Told", "berths", "I", false)
  | _ => ("TideDice$Told", "goal", "I", false)
def tyX3 : Nat → FieldType := fun k => match k with
  | 0 => .array .int
  | 1 => .array .int
  | 2 => .int
  | _ => .int
theorem nmX3 : ∀ a, a < 4 → ∀ b, b < 4 → a ≠ b → (TX3 a).2.1 ≠ (TX3 b).2.1 := by decide +kernel
theorem tyX3_ok : ∀ k, k < 4 → parseFieldDescriptor (TX3 k).2.2.1 = some (tyX3 k) := by decide +kernel
abbrev cX3_init : ByteArray := prog_5_method_1_code
def yX3_init : MethodName := ⟨RX3, "<init>", "()V"⟩
abbrev cX3_setFirst : ByteArray := prog_5_method_2_code
def yX3_setFirst : MethodName := ⟨RX3, "setFirst", "()V"⟩
abbrev cX3_becomes : ByteArray := prog_5_method_3_code
def yX3_becomes : MethodName := ⟨RX3, "becomes", "(LTideDice$Told;)V"⟩
abbrev cX3_pip : ByteArray := prog_5_method_4_code
def yX3_pip : MethodName := ⟨RX3, "pip", "(II)I"⟩
abbrev cX3_hasPip : ByteArray := prog_5_method_5_code
def yX3_hasPip : MethodName := ⟨RX3, "hasPip", "(II)Z"⟩
abbrev cX3_opens : ByteArray := prog_5_method_6_code
def yX3_opens : MethodName := ⟨RX3, "opens", "(IIII)I"⟩
abbrev cX3_berthBit : ByteArray := prog_5_method_7_code
def yX3_berthBit : MethodName := ⟨RX3, "berthBit", "(II)I"⟩
abbrev cX3_pairsOf : ByteArray := prog_5_method_8_code
def yX3_pairsOf : MethodName := ⟨RX3, "pairsOf", "(II)I"⟩
abbrev cX3_winsOf : ByteArray := prog_5_method_9_code
def yX3_winsOf : MethodName := ⟨RX3, "winsOf", "(II)I"⟩
abbrev cX3_mostlyWins : ByteArray := prog_5_method_10_code
def yX3_mostlyWins : MethodName := ⟨RX3, "mostlyWins", "(II)Z"⟩
def RX4 : String := "TideDice"
def TX4 : u_T := fun k => match k with
  | 0 => ("TideDice", "text", "[C", true)
  | 1 => ("TideDice", "typed", "I", false)
  | 2 => ("TideDice", "told", "LTideDice$Told;", true)
  | 3 => ("TideDice", "reader", "LTideDice$Reader;", true)
  | 4 => ("TideDice", "all", "LTideDice$AllThrows;", true)
  | 5 => ("TideDice", "course", "LTideDice$Course;", true)
  | 6 => ("TideDice", "images", "[LTideDice$Course;", true)
  | 7 => ("TideDice", "kept", "[Z", true)
  | 8 => ("TideDice", "chalkBerth", "[I", true)
  | 9 => ("TideDice", "chalkThrows", "[I", true)
  | 10 => ("TideDice", "chalked", "I", false)
  | _ => ("TideDice", "traced", "J", false)
def tyX4 : Nat → FieldType := fun k => match k with
  | 0 => .array .char
  | 1 => .int
  | 2 => .object "TideDice$Told"
  | 3 => .object "TideDice$Reader"
  | 4 => .object "TideDice$AllThrows"
  | 5 => .object "TideDice$Course"
  | 6 => .array (.object "TideDice$Course")
  | 7 => .array .boolean
  | 8 => .array .int
  | 9 => .array .int
  | 10 => .int
  | _ => .long
theorem nmX4 : ∀ a, a < 12 → ∀ b, b < 12 → a ≠ b → (TX4 a).2.1 ≠ (TX4 b).2.1 := by decide +kernel
theorem tyX4_ok : ∀ k, k < 12 → parseFieldDescriptor (TX4 k).2.2.1 = some (tyX4 k) := by decide +kernel
abbrev cX4_init : ByteArray := prog_1_method_1_code
def yX4_init : MethodName := ⟨RX4, "<init>", "()V"⟩
abbrev cX4_type : ByteArray := prog_1_method_2_code
def yX4_type : MethodName := ⟨RX4, "type", "(I)I"⟩
abbrev cX4_clear : ByteArray := prog_1_method_3_code
def yX4_clear : MethodName := ⟨RX4, "clear", "()I"⟩
abbrev cX4_harbour : ByteArray := prog_1_method_4_code
def yX4_harbour : MethodName := ⟨RX4, "harbour", "()I"⟩
abbrev cX4_die : ByteArray := prog_1_method_5_code
def yX4_die : MethodName := ⟨RX4, "die", "(II)I"⟩
abbrev cX4_berth : ByteArray := prog_1_method_6_code
def yX4_berth : MethodName := ⟨RX4, "berth", "(I)I"⟩
abbrev cX4_player : ByteArray := prog_1_method_7_code
def yX4_player : MethodName := ⟨RX4, "player", "(II)I"⟩
abbrev cX4_throwsDice : ByteArray := prog_1_method_8_code
def yX4_throwsDice : MethodName := ⟨RX4, "throwsDice", "(III)I"⟩
abbrev cX4_takes : ByteArray := prog_1_method_9_code
def yX4_takes : MethodName := ⟨RX4, "takes", "(I)I"⟩
abbrev cX4_passes : ByteArray := prog_1_method_10_code
def yX4_passes : MethodName := ⟨RX4, "passes", "()I"⟩
abbrev cX4_leaves : ByteArray := prog_1_method_11_code
def yX4_leaves : MethodName := ⟨RX4, "leaves", "()I"⟩
abbrev cX4_undo : ByteArray := prog_1_method_12_code
def yX4_undo : MethodName := ⟨RX4, "undo", "()I"⟩
abbrev cX4_now : ByteArray := prog_1_method_13_code
def yX4_now : MethodName := ⟨RX4, "now", "(I)I"⟩
abbrev cX4_chance : ByteArray := prog_1_method_14_code
def yX4_chance : MethodName := ⟨RX4, "chance", "(II)I"⟩
abbrev cX4_odds : ByteArray := prog_1_method_15_code
def yX4_odds : MethodName := ⟨RX4, "odds", "(II)I"⟩
abbrev cX4_wise : ByteArray := prog_1_method_16_code
def yX4_wise : MethodName := ⟨RX4, "wise", "(I)I"⟩
abbrev cX4_cheap : ByteArray := prog_1_method_17_code
def yX4_cheap : MethodName := ⟨RX4, "cheap", "()I"⟩
abbrev cX4_ever : ByteArray := prog_1_method_18_code
def yX4_ever : MethodName := ⟨RX4, "ever", "()I"⟩
abbrev cX4_chalks : ByteArray := prog_1_method_19_code
def yX4_chalks : MethodName := ⟨RX4, "chalks", "(II)I"⟩
abbrev cX4_wipes : ByteArray := prog_1_method_20_code
def yX4_wipes : MethodName := ⟨RX4, "wipes", "()I"⟩
abbrev cX4_wrong : ByteArray := prog_1_method_21_code
def yX4_wrong : MethodName := ⟨RX4, "wrong", "()I"⟩
abbrev cX4_off : ByteArray := prog_1_method_22_code
def yX4_off : MethodName := ⟨RX4, "off", "(I)I"⟩
abbrev cX4_bet : ByteArray := prog_1_method_23_code
def yX4_bet : MethodName := ⟨RX4, "bet", "()I"⟩
abbrev cX4_third : ByteArray := prog_1_method_24_code
def yX4_third : MethodName := ⟨RX4, "third", "(III)I"⟩
abbrev cX4_threw : ByteArray := prog_1_method_25_code
def yX4_threw : MethodName := ⟨RX4, "threw", "(II)I"⟩
abbrev cX4_beats : ByteArray := prog_1_method_26_code
def yX4_beats : MethodName := ⟨RX4, "beats", "(III)I"⟩
abbrev cX4_ring : ByteArray := prog_1_method_27_code
def yX4_ring : MethodName := ⟨RX4, "ring", "()I"⟩
abbrev cX4_mark : ByteArray := prog_1_method_28_code
def yX4_mark : MethodName := ⟨RX4, "mark", "(II)I"⟩
abbrev cX4_keep : ByteArray := prog_1_method_29_code
def yX4_keep : MethodName := ⟨RX4, "keep", "(I)I"⟩
abbrev cX4_back : ByteArray := prog_1_method_30_code
def yX4_back : MethodName := ⟨RX4, "back", "(I)I"⟩
abbrev cX4_count : ByteArray := prog_1_method_31_code
def yX4_count : MethodName := ⟨RX4, "count", "(I)I"⟩
abbrev cX4_trace : ByteArray := prog_1_method_32_code
def yX4_trace : MethodName := ⟨RX4, "trace", "()J"⟩
abbrev cX4_isBerth : ByteArray := prog_1_method_33_code
def yX4_isBerth : MethodName := ⟨RX4, "isBerth", "(I)Z"⟩
abbrev cX4_isDie : ByteArray := prog_1_method_34_code
def yX4_isDie : MethodName := ⟨RX4, "isDie", "(I)Z"⟩
abbrev cX4_isImage : ByteArray := prog_1_method_35_code
def yX4_isImage : MethodName := ⟨RX4, "isImage", "(I)Z"⟩
abbrev cX4_isPart : ByteArray := prog_1_method_36_code
def yX4_isPart : MethodName := ⟨RX4, "isPart", "(I)Z"⟩
abbrev cX4_bit : ByteArray := prog_1_method_37_code
def yX4_bit : MethodName := ⟨RX4, "bit", "(I)I"⟩
abbrev cX4_hasBit : ByteArray := prog_1_method_38_code
def yX4_hasBit : MethodName := ⟨RX4, "hasBit", "(II)Z"⟩
abbrev cX4_partOf : ByteArray := prog_1_method_39_code
def yX4_partOf : MethodName := ⟨RX4, "partOf", "(III)I"⟩
abbrev cX4_commonOf : ByteArray := prog_1_method_40_code
def yX4_commonOf : MethodName := ⟨RX4, "commonOf", "(II)I"⟩
abbrev cX4_throwsFor : ByteArray := prog_1_method_41_code
def yX4_throwsFor : MethodName := ⟨RX4, "throwsFor", "(I)I"⟩
abbrev cX4_offOf : ByteArray := prog_1_method_42_code
def yX4_offOf : MethodName := ⟨RX4, "offOf", "(I)I"⟩
abbrev cX4_raceOf : ByteArray := prog_1_method_43_code
def yX4_raceOf : MethodName := ⟨RX4, "raceOf", "(I)I"⟩
abbrev cX4_berthMark : ByteArray := prog_1_method_44_code
def yX4_berthMark : MethodName := ⟨RX4, "berthMark", "(I)I"⟩
abbrev cX4_shipMark : ByteArray := prog_1_method_45_code
def yX4_shipMark : MethodName := ⟨RX4, "shipMark", "(I)I"⟩
abbrev cX4_quayMark : ByteArray := prog_1_method_46_code
def yX4_quayMark : MethodName := ⟨RX4, "quayMark", "(I)I"⟩
abbrev cX4_coalMark : ByteArray := prog_1_method_47_code
def yX4_coalMark : MethodName := ⟨RX4, "coalMark", "(I)I"⟩
abbrev cX4_lentMark : ByteArray := prog_1_method_48_code
def yX4_lentMark : MethodName := ⟨RX4, "lentMark", "(I)I"⟩
abbrev cX4_pilotMark : ByteArray := prog_1_method_49_code
def yX4_pilotMark : MethodName := ⟨RX4, "pilotMark", "(I)I"⟩
def RX5 : String := "TideDiceModel"
def TX5 : u_T := fun k => match k with
  | 0 => ("TideDiceModel", "text", "[I", true)
  | 1 => ("TideDiceModel", "size", "I", false)
  | 2 => ("TideDiceModel", "at", "I", false)
  | 3 => ("TideDiceModel", "begin", "I", false)
  | 4 => ("TideDiceModel", "token", "I", false)
  | 5 => ("TideDiceModel", "told", "I", false)
  | 6 => ("TideDiceModel", "read", "[I", true)
  | 7 => ("TideDiceModel", "harbour", "[I", true)
  | 8 => ("TideDiceModel", "now", "[I", true)
  | 9 => ("TideDiceModel", "undone", "[I", true)
  | 10 => ("TideDiceModel", "undos", "I", false)
  | 11 => ("TideDiceModel", "one", "I", false)
  | 12 => ("TideDiceModel", "two", "I", false)
  | 13 => ("TideDiceModel", "three", "I", false)
  | 14 => ("TideDiceModel", "chalks", "I", false)
  | 15 => ("TideDiceModel", "chalkBerth", "[I", true)
  | 16 => ("TideDiceModel", "chalkOf", "[I", true)
  | 17 => ("TideDiceModel", "trace", "J", false)
  | _ => ("TideDiceModel", "kept", "[I", true)
def tyX5 : Nat → FieldType := fun k => match k with
  | 0 => .array .int
  | 1 => .int
  | 2 => .int
  | 3 => .int
  | 4 => .int
  | 5 => .int
  | 6 => .array .int
  | 7 => .array .int
  | 8 => .array .int
  | 9 => .array .int
  | 10 => .int
  | 11 => .int
  | 12 => .int
  | 13 => .int
  | 14 => .int
  | 15 => .array .int
  | 16 => .array .int
  | 17 => .long
  | _ => .array .int
theorem nmX5 : ∀ a, a < 19 → ∀ b, b < 19 → a ≠ b → (TX5 a).2.1 ≠ (TX5 b).2.1 := by decide +kernel
theorem tyX5_ok : ∀ k, k < 19 → parseFieldDescriptor (TX5 k).2.2.1 = some (tyX5 k) := by decide +kernel
abbrev cX5_in : ByteArray := prog_7_method_2_code
def yX5_in : MethodName := ⟨RX5, "in", "(JJJ)Z"⟩
abbrev cX5_init : ByteArray := prog_7_method_3_code
def yX5_init : MethodName := ⟨RX5, "<init>", "()V"⟩
abbrev cX5_type : ByteArray := prog_7_method_4_code
def yX5_type : MethodName := ⟨RX5, "type", "(I)I"⟩
abbrev cX5_clear : ByteArray := prog_7_method_5_code
def yX5_clear : MethodName := ⟨RX5, "clear", "()I"⟩
abbrev cX5_isLetter : ByteArray := prog_7_method_6_code
def yX5_isLetter : MethodName := ⟨RX5, "isLetter", "(I)Z"⟩
abbrev cX5_isFigure : ByteArray := prog_7_method_7_code
def yX5_isFigure : MethodName := ⟨RX5, "isFigure", "(I)Z"⟩
abbrev cX5_readLetters : ByteArray := prog_7_method_8_code
def yX5_readLetters : MethodName := ⟨RX5, "readLetters", "()V"⟩
abbrev cX5_readNumber : ByteArray := prog_7_method_9_code
def yX5_readNumber : MethodName := ⟨RX5, "readNumber", "()V"⟩
abbrev cX5_reads : ByteArray := prog_7_method_10_code
def yX5_reads : MethodName := ⟨RX5, "reads", "()V"⟩
abbrev cX5_number : ByteArray := prog_7_method_11_code
def yX5_number : MethodName := ⟨RX5, "number", "(II)Z"⟩
abbrev cX5_plain : ByteArray := prog_7_method_12_code
def yX5_plain : MethodName := ⟨RX5, "plain", "()V"⟩
abbrev cX5_readDie : ByteArray := prog_7_method_13_code
def yX5_readDie : MethodName := ⟨RX5, "readDie", "()Z"⟩
abbrev cX5_once : ByteArray := prog_7_method_14_code
def yX5_once : MethodName := ⟨RX5, "once", "(IIII)Z"⟩
abbrev cX5_readItem : ByteArray := prog_7_method_15_code
def yX5_readItem : MethodName := ⟨RX5, "readItem", "()Z"⟩
abbrev cX5_harbour : ByteArray := prog_7_method_16_code
def yX5_harbour : MethodName := ⟨RX5, "harbour", "()I"⟩
abbrev cX5_takesAll : ByteArray := prog_7_method_17_code
def yX5_takesAll : MethodName := ⟨RX5, "takesAll", "()V"⟩
abbrev cX5_isBerth : ByteArray := prog_7_method_18_code
def yX5_isBerth : MethodName := ⟨RX5, "isBerth", "(I)Z"⟩
abbrev cX5_isDie : ByteArray := prog_7_method_19_code
def yX5_isDie : MethodName := ⟨RX5, "isDie", "(I)Z"⟩
abbrev cX5_faces : ByteArray := prog_7_method_20_code
def yX5_faces : MethodName := ⟨RX5, "faces", "(I)I"⟩
abbrev cX5_face : ByteArray := prog_7_method_21_code
def yX5_face : MethodName := ⟨RX5, "face", "(II)I"⟩
abbrev cX5_isFace : ByteArray := prog_7_method_22_code
def yX5_isFace : MethodName := ⟨RX5, "isFace", "(II)Z"⟩
abbrev cX5_throwsOf : ByteArray := prog_7_method_23_code
def yX5_throwsOf : MethodName := ⟨RX5, "throwsOf", "()I"⟩
abbrev cX5_die : ByteArray := prog_7_method_24_code
def yX5_die : MethodName := ⟨RX5, "die", "(II)I"⟩
abbrev cX5_berth : ByteArray := prog_7_method_25_code
def yX5_berth : MethodName := ⟨RX5, "berth", "(I)I"⟩
abbrev cX5_berths : ByteArray := prog_7_method_26_code
def yX5_berths : MethodName := ⟨RX5, "berths", "(I)I"⟩
abbrev cX5_many : ByteArray := prog_7_method_27_code
def yX5_many : MethodName := ⟨RX5, "many", "(I)I"⟩
abbrev cX5_player : ByteArray := prog_7_method_28_code
def yX5_player : MethodName := ⟨RX5, "player", "(II)I"⟩
abbrev cX5_isDouble : ByteArray := prog_7_method_29_code
def yX5_isDouble : MethodName := ⟨RX5, "isDouble", "(III)Z"⟩
abbrev cX5_opened : ByteArray := prog_7_method_30_code
def yX5_opened : MethodName := ⟨RX5, "opened", "(IIII)I"⟩
abbrev cX5_taken : ByteArray := prog_7_method_31_code
def yX5_taken : MethodName := ⟨RX5, "taken", "()I"⟩
abbrev cX5_open : ByteArray := prog_7_method_32_code
def yX5_open : MethodName := ⟨RX5, "open", "()I"⟩
abbrev cX5_notes : ByteArray := prog_7_method_33_code
def yX5_notes : MethodName := ⟨RX5, "notes", "()V"⟩
abbrev cX5_tides : ByteArray := prog_7_method_34_code
def yX5_tides : MethodName := ⟨RX5, "tides", "(II)V"⟩
abbrev cX5_isWon : ByteArray := prog_7_method_35_code
def yX5_isWon : MethodName := ⟨RX5, "isWon", "()Z"⟩
abbrev cX5_throwsDice : ByteArray := prog_7_method_36_code
def yX5_throwsDice : MethodName := ⟨RX5, "throwsDice", "(III)I"⟩
abbrev cX5_ends : ByteArray := prog_7_method_37_code
def yX5_ends : MethodName := ⟨RX5, "ends", "()V"⟩
abbrev cX5_gives : ByteArray := prog_7_method_38_code
def yX5_gives : MethodName := ⟨RX5, "gives", "(I)I"⟩
abbrev cX5_takes : ByteArray := prog_7_method_39_code
def yX5_takes : MethodName := ⟨RX5, "takes", "(I)I"⟩
abbrev cX5_passes : ByteArray := prog_7_method_40_code
def yX5_passes : MethodName := ⟨RX5, "passes", "()I"⟩
abbrev cX5_leaves : ByteArray := prog_7_method_41_code
def yX5_leaves : MethodName := ⟨RX5, "leaves", "()I"⟩
abbrev cX5_undo : ByteArray := prog_7_method_42_code
def yX5_undo : MethodName := ⟨RX5, "undo", "()I"⟩
abbrev cX5_now : ByteArray := prog_7_method_43_code
def yX5_now : MethodName := ⟨RX5, "now", "(I)I"⟩
abbrev cX5_comes : ByteArray := prog_7_method_44_code
def yX5_comes : MethodName := ⟨RX5, "comes", "(I)V"⟩
abbrev cX5_opensThen : ByteArray := prog_7_method_45_code
def yX5_opensThen : MethodName := ⟨RX5, "opensThen", "()I"⟩
abbrev cX5_throwsFor : ByteArray := prog_7_method_46_code
def yX5_throwsFor : MethodName := ⟨RX5, "throwsFor", "(I)I"⟩
abbrev cX5_free : ByteArray := prog_7_method_47_code
def yX5_free : MethodName := ⟨RX5, "free", "()I"⟩
abbrev cX5_least : ByteArray := prog_7_method_48_code
def yX5_least : MethodName := ⟨RX5, "least", "(III)I"⟩
abbrev cX5_chances : ByteArray := prog_7_method_49_code
def yX5_chances : MethodName := ⟨RX5, "chances", "(I)I"⟩
abbrev cX5_chance : ByteArray := prog_7_method_50_code
def yX5_chance : MethodName := ⟨RX5, "chance", "(II)I"⟩
abbrev cX5_odds : ByteArray := prog_7_method_51_code
def yX5_odds : MethodName := ⟨RX5, "odds", "(II)I"⟩
abbrev cX5_wise : ByteArray := prog_7_method_52_code
def yX5_wise : MethodName := ⟨RX5, "wise", "(I)I"⟩
abbrev cX5_cheap : ByteArray := prog_7_method_53_code
def yX5_cheap : MethodName := ⟨RX5, "cheap", "()I"⟩
abbrev cX5_ever : ByteArray := prog_7_method_54_code
def yX5_ever : MethodName := ⟨RX5, "ever", "()I"⟩
abbrev cX5_race : ByteArray := prog_7_method_55_code
def yX5_race : MethodName := ⟨RX5, "race", "(I)I"⟩
abbrev cX5_chalks : ByteArray := prog_7_method_56_code
def yX5_chalks : MethodName := ⟨RX5, "chalks", "(II)I"⟩
abbrev cX5_wipes : ByteArray := prog_7_method_57_code
def yX5_wipes : MethodName := ⟨RX5, "wipes", "()I"⟩
abbrev cX5_offOf : ByteArray := prog_7_method_58_code
def yX5_offOf : MethodName := ⟨RX5, "offOf", "(I)I"⟩
abbrev cX5_wrong : ByteArray := prog_7_method_59_code
def yX5_wrong : MethodName := ⟨RX5, "wrong", "()I"⟩
abbrev cX5_off : ByteArray := prog_7_method_60_code
def yX5_off : MethodName := ⟨RX5, "off", "(I)I"⟩
abbrev cX5_bet : ByteArray := prog_7_method_61_code
def yX5_bet : MethodName := ⟨RX5, "bet", "()I"⟩
abbrev cX5_third : ByteArray := prog_7_method_62_code
def yX5_third : MethodName := ⟨RX5, "third", "(III)I"⟩
abbrev cX5_threw : ByteArray := prog_7_method_63_code
def yX5_threw : MethodName := ⟨RX5, "threw", "(II)I"⟩
abbrev cX5_wins : ByteArray := prog_7_method_64_code
def yX5_wins : MethodName := ⟨RX5, "wins", "(II)I"⟩
abbrev cX5_beats : ByteArray := prog_7_method_65_code
def yX5_beats : MethodName := ⟨RX5, "beats", "(III)I"⟩
abbrev cX5_isMore : ByteArray := prog_7_method_66_code
def yX5_isMore : MethodName := ⟨RX5, "isMore", "(II)Z"⟩
abbrev cX5_ring : ByteArray := prog_7_method_67_code
def yX5_ring : MethodName := ⟨RX5, "ring", "()I"⟩
abbrev cX5_mark : ByteArray := prog_7_method_68_code
def yX5_mark : MethodName := ⟨RX5, "mark", "(II)I"⟩
abbrev cX5_trace : ByteArray := prog_7_method_69_code
def yX5_trace : MethodName := ⟨RX5, "trace", "()J"⟩
abbrev cX5_keep : ByteArray := prog_7_method_70_code
def yX5_keep : MethodName := ⟨RX5, "keep", "(I)I"⟩
abbrev cX5_back : ByteArray := prog_7_method_71_code
def yX5_back : MethodName := ⟨RX5, "back", "(I)I"⟩
abbrev cX5_count : ByteArray := prog_7_method_72_code
def yX5_count : MethodName := ⟨RX5, "count", "(I)I"⟩
def RJ6 : String := "java/lang/Integer"
def TJ6 : u_T := fun k => match k with
  | _ => ("", "", "", false)
def tyJ6 : Nat → FieldType := fun k => match k with
  | _ => .int
theorem nmJ6 : ∀ a, a < 0 → ∀ b, b < 0 → a ≠ b → (TJ6 a).2.1 ≠ (TJ6 b).2.1 := by decide +kernel
theorem tyJ6_ok : ∀ k, k < 0 → parseFieldDescriptor (TJ6 k).2.2.1 = some (tyJ6 k) := by decide +kernel
abbrev cJ6_bitCount_0f7a4 : ByteArray := prog_8_method_49_code
def yJ6_bitCount_0f7a4 : MethodName := ⟨RJ6, "bitCount", "(I)I"⟩
def RJ9 : String := "java/lang/Math"
def TJ9 : u_T := fun k => match k with
  | _ => ("", "", "", false)
def tyJ9 : Nat → FieldType := fun k => match k with
  | _ => .int
theorem nmJ9 : ∀ a, a < 0 → ∀ b, b < 0 → a ≠ b → (TJ9 a).2.1 ≠ (TJ9 b).2.1 := by decide +kernel
theorem tyJ9_ok : ∀ k, k < 0 → parseFieldDescriptor (TJ9 k).2.2.1 = some (tyJ9 k) := by decide +kernel
abbrev cJ9_abs_0f7a4 : ByteArray := prog_9_method_59_code
def yJ9_abs_0f7a4 : MethodName := ⟨RJ9, "abs", "(I)I"⟩
abbrev cJ9_min_7cf53 : ByteArray := prog_9_method_69_code
def yJ9_min_7cf53 : MethodName := ⟨RJ9, "min", "(II)I"⟩
def RJ10 : String := "java/lang/System"
def TJ10 : u_T := fun k => match k with
  | _ => ("", "", "", false)
def tyJ10 : Nat → FieldType := fun k => match k with
  | _ => .int
theorem nmJ10 : ∀ a, a < 0 → ∀ b, b < 0 → a ≠ b → (TJ10 a).2.1 ≠ (TJ10 b).2.1 := by decide +kernel
theorem tyJ10_ok : ∀ k, k < 0 → parseFieldDescriptor (TJ10 k).2.2.1 = some (tyJ10 k) := by decide +kernel
def RL : String := "TideDiceLaw"
abbrev cL_law : ByteArray := code
def yL_law : MethodName := ⟨RL, "law", "([I)Z"⟩
