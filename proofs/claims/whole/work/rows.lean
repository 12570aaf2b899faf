section
-- ===== PART A: goes FIRST, ahead of the names: the tables' words, and 'selects' of the private methods out of them =====
/-- a private method of a class that the tables say can be made, by its rows of tables_1 -/
def lw_okq (q : MethodName × Nat) : Prop := (q.1.cls ≠ "java/lang/invoke/MethodHandle" ∧ q.1.cls ≠ "java/lang/invoke/VarHandle") ∧ Cond.instantiable q.1.cls q.2 ∈ tables_1 ∧ Cond.privateMethod q.1 ∈ tables_1 ∧ Cond.instanceMethod q.1 ∈ tables_1
theorem lw_p0 : lw_okq (⟨"TideDice$AllThrows", "addThrow", "(LTideDice$Told;III)V"⟩, 6) := ⟨⟨by decide +kernel, by decide +kernel⟩, List.mem_of_getElem? (i := 97) (by decide +kernel), List.mem_of_getElem? (i := 158) (by decide +kernel), List.mem_of_getElem? (i := 159) (by decide +kernel)⟩
theorem lw_p1 : lw_okq (⟨"TideDice$Told", "berthBit", "(II)I"⟩, 4) := ⟨⟨by decide +kernel, by decide +kernel⟩, List.mem_of_getElem? (i := 19) (by decide +kernel), List.mem_of_getElem? (i := 169) (by decide +kernel), List.mem_of_getElem? (i := 170) (by decide +kernel)⟩
theorem lw_p2 : lw_okq (⟨"TideDice$Reader", "advance", "()V"⟩, 11) := ⟨⟨by decide +kernel, by decide +kernel⟩, List.mem_of_getElem? (i := 53) (by decide +kernel), List.mem_of_getElem? (i := 236) (by decide +kernel), List.mem_of_getElem? (i := 237) (by decide +kernel)⟩
theorem lw_p3 : lw_okq (⟨"TideDice$Reader", "isLetter", "(I)Z"⟩, 11) := ⟨⟨by decide +kernel, by decide +kernel⟩, List.mem_of_getElem? (i := 53) (by decide +kernel), List.mem_of_getElem? (i := 240) (by decide +kernel), List.mem_of_getElem? (i := 241) (by decide +kernel)⟩
theorem lw_p4 : lw_okq (⟨"TideDice$Reader", "skipLetters", "()V"⟩, 11) := ⟨⟨by decide +kernel, by decide +kernel⟩, List.mem_of_getElem? (i := 53) (by decide +kernel), List.mem_of_getElem? (i := 244) (by decide +kernel), List.mem_of_getElem? (i := 245) (by decide +kernel)⟩
theorem lw_p5 : lw_okq (⟨"TideDice$Reader", "isDigit", "(I)Z"⟩, 11) := ⟨⟨by decide +kernel, by decide +kernel⟩, List.mem_of_getElem? (i := 53) (by decide +kernel), List.mem_of_getElem? (i := 248) (by decide +kernel), List.mem_of_getElem? (i := 249) (by decide +kernel)⟩
theorem lw_p6 : lw_okq (⟨"TideDice$Reader", "scanNumber", "()V"⟩, 11) := ⟨⟨by decide +kernel, by decide +kernel⟩, List.mem_of_getElem? (i := 53) (by decide +kernel), List.mem_of_getElem? (i := 252) (by decide +kernel), List.mem_of_getElem? (i := 253) (by decide +kernel)⟩
theorem lw_p7 : lw_okq (⟨"TideDice$Reader", "readItem", "()V"⟩, 11) := ⟨⟨by decide +kernel, by decide +kernel⟩, List.mem_of_getElem? (i := 53) (by decide +kernel), List.mem_of_getElem? (i := 256) (by decide +kernel), List.mem_of_getElem? (i := 257) (by decide +kernel)⟩
theorem lw_p8 : lw_okq (⟨"TideDice$Reader", "readDie", "()V"⟩, 11) := ⟨⟨by decide +kernel, by decide +kernel⟩, List.mem_of_getElem? (i := 53) (by decide +kernel), List.mem_of_getElem? (i := 260) (by decide +kernel), List.mem_of_getElem? (i := 261) (by decide +kernel)⟩
theorem lw_p9 : lw_okq (⟨"TideDice$Reader", "isNumber", "(II)Z"⟩, 11) := ⟨⟨by decide +kernel, by decide +kernel⟩, List.mem_of_getElem? (i := 53) (by decide +kernel), List.mem_of_getElem? (i := 264) (by decide +kernel), List.mem_of_getElem? (i := 265) (by decide +kernel)⟩
theorem lw_p10 : lw_okq (⟨"TideDice$Reader", "refuse", "()V"⟩, 11) := ⟨⟨by decide +kernel, by decide +kernel⟩, List.mem_of_getElem? (i := 53) (by decide +kernel), List.mem_of_getElem? (i := 268) (by decide +kernel), List.mem_of_getElem? (i := 269) (by decide +kernel)⟩
theorem lw_p11 : lw_okq (⟨"TideDice$Reader", "readNumber", "(II)I"⟩, 11) := ⟨⟨by decide +kernel, by decide +kernel⟩, List.mem_of_getElem? (i := 53) (by decide +kernel), List.mem_of_getElem? (i := 272) (by decide +kernel), List.mem_of_getElem? (i := 273) (by decide +kernel)⟩
theorem lw_p12 : lw_okq (⟨"TideDice$Reader", "readStop", "()V"⟩, 11) := ⟨⟨by decide +kernel, by decide +kernel⟩, List.mem_of_getElem? (i := 53) (by decide +kernel), List.mem_of_getElem? (i := 276) (by decide +kernel), List.mem_of_getElem? (i := 277) (by decide +kernel)⟩
theorem lw_p13 : lw_okq (⟨"TideDice", "isBerth", "(I)Z"⟩, 12) := ⟨⟨by decide +kernel, by decide +kernel⟩, List.mem_of_getElem? (i := 11) (by decide +kernel), List.mem_of_getElem? (i := 300) (by decide +kernel), List.mem_of_getElem? (i := 301) (by decide +kernel)⟩
theorem lw_p14 : lw_okq (⟨"TideDice", "raceOf", "(I)I"⟩, 12) := ⟨⟨by decide +kernel, by decide +kernel⟩, List.mem_of_getElem? (i := 11) (by decide +kernel), List.mem_of_getElem? (i := 329) (by decide +kernel), List.mem_of_getElem? (i := 330) (by decide +kernel)⟩
theorem lw_p15 : lw_okq (⟨"TideDice$Course", "remember", "()V"⟩, 4) := ⟨⟨by decide +kernel, by decide +kernel⟩, List.mem_of_getElem? (i := 125) (by decide +kernel), List.mem_of_getElem? (i := 369) (by decide +kernel), List.mem_of_getElem? (i := 370) (by decide +kernel)⟩
def lw_privs_1 : List (MethodName × Nat) := [(⟨"TideDice$AllThrows", "addThrow", "(LTideDice$Told;III)V"⟩, 6), (⟨"TideDice$Told", "berthBit", "(II)I"⟩, 4), (⟨"TideDice$Reader", "advance", "()V"⟩, 11), (⟨"TideDice$Reader", "isLetter", "(I)Z"⟩, 11), (⟨"TideDice$Reader", "skipLetters", "()V"⟩, 11), (⟨"TideDice$Reader", "isDigit", "(I)Z"⟩, 11), (⟨"TideDice$Reader", "scanNumber", "()V"⟩, 11), (⟨"TideDice$Reader", "readItem", "()V"⟩, 11), (⟨"TideDice$Reader", "readDie", "()V"⟩, 11), (⟨"TideDice$Reader", "isNumber", "(II)Z"⟩, 11), (⟨"TideDice$Reader", "refuse", "()V"⟩, 11), (⟨"TideDice$Reader", "readNumber", "(II)I"⟩, 11), (⟨"TideDice$Reader", "readStop", "()V"⟩, 11), (⟨"TideDice", "isBerth", "(I)Z"⟩, 12), (⟨"TideDice", "raceOf", "(I)I"⟩, 12), (⟨"TideDice$Course", "remember", "()V"⟩, 4)]
theorem lw_r1 : ∀ q ∈ lw_privs_1, lw_okq q := List.forall_mem_cons.mpr ⟨lw_p0, List.forall_mem_cons.mpr ⟨lw_p1, List.forall_mem_cons.mpr ⟨lw_p2, List.forall_mem_cons.mpr ⟨lw_p3, List.forall_mem_cons.mpr ⟨lw_p4, List.forall_mem_cons.mpr ⟨lw_p5, List.forall_mem_cons.mpr ⟨lw_p6, List.forall_mem_cons.mpr ⟨lw_p7, List.forall_mem_cons.mpr ⟨lw_p8, List.forall_mem_cons.mpr ⟨lw_p9, List.forall_mem_cons.mpr ⟨lw_p10, List.forall_mem_cons.mpr ⟨lw_p11, List.forall_mem_cons.mpr ⟨lw_p12, List.forall_mem_cons.mpr ⟨lw_p13, List.forall_mem_cons.mpr ⟨lw_p14, List.forall_mem_cons.mpr ⟨lw_p15, fun _ h => absurd h List.not_mem_nil⟩⟩⟩⟩⟩⟩⟩⟩⟩⟩⟩⟩⟩⟩⟩⟩
theorem lw_p16 : lw_okq (⟨"TideDice$Course", "loseOldest", "()V"⟩, 4) := ⟨⟨by decide +kernel, by decide +kernel⟩, List.mem_of_getElem? (i := 125) (by decide +kernel), List.mem_of_getElem? (i := 373) (by decide +kernel), List.mem_of_getElem? (i := 374) (by decide +kernel)⟩
theorem lw_p17 : lw_okq (⟨"TideDice$Course", "giveTides", "(II)V"⟩, 4) := ⟨⟨by decide +kernel, by decide +kernel⟩, List.mem_of_getElem? (i := 125) (by decide +kernel), List.mem_of_getElem? (i := 409) (by decide +kernel), List.mem_of_getElem? (i := 410) (by decide +kernel)⟩
theorem lw_p18 : lw_okq (⟨"TideDice$Course", "endTurn", "()V"⟩, 4) := ⟨⟨by decide +kernel, by decide +kernel⟩, List.mem_of_getElem? (i := 125) (by decide +kernel), List.mem_of_getElem? (i := 415) (by decide +kernel), List.mem_of_getElem? (i := 416) (by decide +kernel)⟩
theorem lw_p19 : lw_okq (⟨"TideDice", "throwsFor", "(I)I"⟩, 12) := ⟨⟨by decide +kernel, by decide +kernel⟩, List.mem_of_getElem? (i := 11) (by decide +kernel), List.mem_of_getElem? (i := 463) (by decide +kernel), List.mem_of_getElem? (i := 464) (by decide +kernel)⟩
theorem lw_p20 : lw_okq (⟨"TideDice$AllThrows", "opensThrown", "(II)I"⟩, 6) := ⟨⟨by decide +kernel, by decide +kernel⟩, List.mem_of_getElem? (i := 97) (by decide +kernel), List.mem_of_getElem? (i := 471) (by decide +kernel), List.mem_of_getElem? (i := 472) (by decide +kernel)⟩
theorem lw_p21 : lw_okq (⟨"TideDice$AllThrows", "opensStill", "(II)I"⟩, 6) := ⟨⟨by decide +kernel, by decide +kernel⟩, List.mem_of_getElem? (i := 97) (by decide +kernel), List.mem_of_getElem? (i := 475) (by decide +kernel), List.mem_of_getElem? (i := 476) (by decide +kernel)⟩
theorem lw_p22 : lw_okq (⟨"TideDice", "offOf", "(I)I"⟩, 12) := ⟨⟨by decide +kernel, by decide +kernel⟩, List.mem_of_getElem? (i := 11) (by decide +kernel), List.mem_of_getElem? (i := 519) (by decide +kernel), List.mem_of_getElem? (i := 520) (by decide +kernel)⟩
theorem lw_p23 : lw_okq (⟨"TideDice", "berthMark", "(I)I"⟩, 12) := ⟨⟨by decide +kernel, by decide +kernel⟩, List.mem_of_getElem? (i := 11) (by decide +kernel), List.mem_of_getElem? (i := 578) (by decide +kernel), List.mem_of_getElem? (i := 579) (by decide +kernel)⟩
theorem lw_p24 : lw_okq (⟨"TideDice", "shipMark", "(I)I"⟩, 12) := ⟨⟨by decide +kernel, by decide +kernel⟩, List.mem_of_getElem? (i := 11) (by decide +kernel), List.mem_of_getElem? (i := 582) (by decide +kernel), List.mem_of_getElem? (i := 583) (by decide +kernel)⟩
theorem lw_p25 : lw_okq (⟨"TideDice", "quayMark", "(I)I"⟩, 12) := ⟨⟨by decide +kernel, by decide +kernel⟩, List.mem_of_getElem? (i := 11) (by decide +kernel), List.mem_of_getElem? (i := 587) (by decide +kernel), List.mem_of_getElem? (i := 588) (by decide +kernel)⟩
theorem lw_p26 : lw_okq (⟨"TideDice", "coalMark", "(I)I"⟩, 12) := ⟨⟨by decide +kernel, by decide +kernel⟩, List.mem_of_getElem? (i := 11) (by decide +kernel), List.mem_of_getElem? (i := 593) (by decide +kernel), List.mem_of_getElem? (i := 594) (by decide +kernel)⟩
theorem lw_p27 : lw_okq (⟨"TideDice", "lentMark", "(I)I"⟩, 12) := ⟨⟨by decide +kernel, by decide +kernel⟩, List.mem_of_getElem? (i := 11) (by decide +kernel), List.mem_of_getElem? (i := 598) (by decide +kernel), List.mem_of_getElem? (i := 599) (by decide +kernel)⟩
theorem lw_p28 : lw_okq (⟨"TideDice", "pilotMark", "(I)I"⟩, 12) := ⟨⟨by decide +kernel, by decide +kernel⟩, List.mem_of_getElem? (i := 11) (by decide +kernel), List.mem_of_getElem? (i := 603) (by decide +kernel), List.mem_of_getElem? (i := 604) (by decide +kernel)⟩
theorem lw_p29 : lw_okq (⟨"TideDiceModel", "plain", "()V"⟩, 19) := ⟨⟨by decide +kernel, by decide +kernel⟩, List.mem_of_getElem? (i := 631) (by decide +kernel), List.mem_of_getElem? (i := 637) (by decide +kernel), List.mem_of_getElem? (i := 638) (by decide +kernel)⟩
theorem lw_p30 : lw_okq (⟨"TideDiceModel", "takesAll", "()V"⟩, 19) := ⟨⟨by decide +kernel, by decide +kernel⟩, List.mem_of_getElem? (i := 631) (by decide +kernel), List.mem_of_getElem? (i := 641) (by decide +kernel), List.mem_of_getElem? (i := 642) (by decide +kernel)⟩
theorem lw_p31 : lw_okq (⟨"TideDiceModel", "reads", "()V"⟩, 19) := ⟨⟨by decide +kernel, by decide +kernel⟩, List.mem_of_getElem? (i := 631) (by decide +kernel), List.mem_of_getElem? (i := 719) (by decide +kernel), List.mem_of_getElem? (i := 720) (by decide +kernel)⟩
def lw_privs_2 : List (MethodName × Nat) := [(⟨"TideDice$Course", "loseOldest", "()V"⟩, 4), (⟨"TideDice$Course", "giveTides", "(II)V"⟩, 4), (⟨"TideDice$Course", "endTurn", "()V"⟩, 4), (⟨"TideDice", "throwsFor", "(I)I"⟩, 12), (⟨"TideDice$AllThrows", "opensThrown", "(II)I"⟩, 6), (⟨"TideDice$AllThrows", "opensStill", "(II)I"⟩, 6), (⟨"TideDice", "offOf", "(I)I"⟩, 12), (⟨"TideDice", "berthMark", "(I)I"⟩, 12), (⟨"TideDice", "shipMark", "(I)I"⟩, 12), (⟨"TideDice", "quayMark", "(I)I"⟩, 12), (⟨"TideDice", "coalMark", "(I)I"⟩, 12), (⟨"TideDice", "lentMark", "(I)I"⟩, 12), (⟨"TideDice", "pilotMark", "(I)I"⟩, 12), (⟨"TideDiceModel", "plain", "()V"⟩, 19), (⟨"TideDiceModel", "takesAll", "()V"⟩, 19), (⟨"TideDiceModel", "reads", "()V"⟩, 19)]
theorem lw_r2 : ∀ q ∈ lw_privs_2, lw_okq q := List.forall_mem_cons.mpr ⟨lw_p16, List.forall_mem_cons.mpr ⟨lw_p17, List.forall_mem_cons.mpr ⟨lw_p18, List.forall_mem_cons.mpr ⟨lw_p19, List.forall_mem_cons.mpr ⟨lw_p20, List.forall_mem_cons.mpr ⟨lw_p21, List.forall_mem_cons.mpr ⟨lw_p22, List.forall_mem_cons.mpr ⟨lw_p23, List.forall_mem_cons.mpr ⟨lw_p24, List.forall_mem_cons.mpr ⟨lw_p25, List.forall_mem_cons.mpr ⟨lw_p26, List.forall_mem_cons.mpr ⟨lw_p27, List.forall_mem_cons.mpr ⟨lw_p28, List.forall_mem_cons.mpr ⟨lw_p29, List.forall_mem_cons.mpr ⟨lw_p30, List.forall_mem_cons.mpr ⟨lw_p31, fun _ h => absurd h List.not_mem_nil⟩⟩⟩⟩⟩⟩⟩⟩⟩⟩⟩⟩⟩⟩⟩⟩
theorem lw_p32 : lw_okq (⟨"TideDiceModel", "readLetters", "()V"⟩, 19) := ⟨⟨by decide +kernel, by decide +kernel⟩, List.mem_of_getElem? (i := 631) (by decide +kernel), List.mem_of_getElem? (i := 728) (by decide +kernel), List.mem_of_getElem? (i := 729) (by decide +kernel)⟩
theorem lw_p33 : lw_okq (⟨"TideDiceModel", "readNumber", "()V"⟩, 19) := ⟨⟨by decide +kernel, by decide +kernel⟩, List.mem_of_getElem? (i := 631) (by decide +kernel), List.mem_of_getElem? (i := 737) (by decide +kernel), List.mem_of_getElem? (i := 738) (by decide +kernel)⟩
theorem lw_p34 : lw_okq (⟨"TideDiceModel", "readItem", "()Z"⟩, 19) := ⟨⟨by decide +kernel, by decide +kernel⟩, List.mem_of_getElem? (i := 631) (by decide +kernel), List.mem_of_getElem? (i := 741) (by decide +kernel), List.mem_of_getElem? (i := 742) (by decide +kernel)⟩
theorem lw_p35 : lw_okq (⟨"TideDiceModel", "readDie", "()Z"⟩, 19) := ⟨⟨by decide +kernel, by decide +kernel⟩, List.mem_of_getElem? (i := 631) (by decide +kernel), List.mem_of_getElem? (i := 745) (by decide +kernel), List.mem_of_getElem? (i := 746) (by decide +kernel)⟩
theorem lw_p36 : lw_okq (⟨"TideDiceModel", "number", "(II)Z"⟩, 19) := ⟨⟨by decide +kernel, by decide +kernel⟩, List.mem_of_getElem? (i := 631) (by decide +kernel), List.mem_of_getElem? (i := 749) (by decide +kernel), List.mem_of_getElem? (i := 750) (by decide +kernel)⟩
theorem lw_p37 : lw_okq (⟨"TideDiceModel", "once", "(IIII)Z"⟩, 19) := ⟨⟨by decide +kernel, by decide +kernel⟩, List.mem_of_getElem? (i := 631) (by decide +kernel), List.mem_of_getElem? (i := 754) (by decide +kernel), List.mem_of_getElem? (i := 755) (by decide +kernel)⟩
theorem lw_p38 : lw_okq (⟨"TideDiceModel", "faces", "(I)I"⟩, 19) := ⟨⟨by decide +kernel, by decide +kernel⟩, List.mem_of_getElem? (i := 631) (by decide +kernel), List.mem_of_getElem? (i := 767) (by decide +kernel), List.mem_of_getElem? (i := 768) (by decide +kernel)⟩
theorem lw_p39 : lw_okq (⟨"TideDiceModel", "face", "(II)I"⟩, 19) := ⟨⟨by decide +kernel, by decide +kernel⟩, List.mem_of_getElem? (i := 631) (by decide +kernel), List.mem_of_getElem? (i := 771) (by decide +kernel), List.mem_of_getElem? (i := 772) (by decide +kernel)⟩
theorem lw_p40 : lw_okq (⟨"TideDiceModel", "isBerth", "(I)Z"⟩, 19) := ⟨⟨by decide +kernel, by decide +kernel⟩, List.mem_of_getElem? (i := 631) (by decide +kernel), List.mem_of_getElem? (i := 779) (by decide +kernel), List.mem_of_getElem? (i := 780) (by decide +kernel)⟩
theorem lw_p41 : lw_okq (⟨"TideDiceModel", "berths", "(I)I"⟩, 19) := ⟨⟨by decide +kernel, by decide +kernel⟩, List.mem_of_getElem? (i := 631) (by decide +kernel), List.mem_of_getElem? (i := 788) (by decide +kernel), List.mem_of_getElem? (i := 789) (by decide +kernel)⟩
theorem lw_p42 : lw_okq (⟨"TideDiceModel", "race", "(I)I"⟩, 19) := ⟨⟨by decide +kernel, by decide +kernel⟩, List.mem_of_getElem? (i := 631) (by decide +kernel), List.mem_of_getElem? (i := 792) (by decide +kernel), List.mem_of_getElem? (i := 793) (by decide +kernel)⟩
theorem lw_p43 : lw_okq (⟨"TideDiceModel", "throwsOf", "()I"⟩, 19) := ⟨⟨by decide +kernel, by decide +kernel⟩, List.mem_of_getElem? (i := 631) (by decide +kernel), List.mem_of_getElem? (i := 803) (by decide +kernel), List.mem_of_getElem? (i := 804) (by decide +kernel)⟩
theorem lw_p44 : lw_okq (⟨"TideDiceModel", "comes", "(I)V"⟩, 19) := ⟨⟨by decide +kernel, by decide +kernel⟩, List.mem_of_getElem? (i := 631) (by decide +kernel), List.mem_of_getElem? (i := 807) (by decide +kernel), List.mem_of_getElem? (i := 808) (by decide +kernel)⟩
theorem lw_p45 : lw_okq (⟨"TideDiceModel", "opened", "(IIII)I"⟩, 19) := ⟨⟨by decide +kernel, by decide +kernel⟩, List.mem_of_getElem? (i := 631) (by decide +kernel), List.mem_of_getElem? (i := 811) (by decide +kernel), List.mem_of_getElem? (i := 812) (by decide +kernel)⟩
theorem lw_p46 : lw_okq (⟨"TideDiceModel", "free", "()I"⟩, 19) := ⟨⟨by decide +kernel, by decide +kernel⟩, List.mem_of_getElem? (i := 631) (by decide +kernel), List.mem_of_getElem? (i := 815) (by decide +kernel), List.mem_of_getElem? (i := 816) (by decide +kernel)⟩
theorem lw_p47 : lw_okq (⟨"TideDiceModel", "taken", "()I"⟩, 19) := ⟨⟨by decide +kernel, by decide +kernel⟩, List.mem_of_getElem? (i := 631) (by decide +kernel), List.mem_of_getElem? (i := 819) (by decide +kernel), List.mem_of_getElem? (i := 820) (by decide +kernel)⟩
def lw_privs_3 : List (MethodName × Nat) := [(⟨"TideDiceModel", "readLetters", "()V"⟩, 19), (⟨"TideDiceModel", "readNumber", "()V"⟩, 19), (⟨"TideDiceModel", "readItem", "()Z"⟩, 19), (⟨"TideDiceModel", "readDie", "()Z"⟩, 19), (⟨"TideDiceModel", "number", "(II)Z"⟩, 19), (⟨"TideDiceModel", "once", "(IIII)Z"⟩, 19), (⟨"TideDiceModel", "faces", "(I)I"⟩, 19), (⟨"TideDiceModel", "face", "(II)I"⟩, 19), (⟨"TideDiceModel", "isBerth", "(I)Z"⟩, 19), (⟨"TideDiceModel", "berths", "(I)I"⟩, 19), (⟨"TideDiceModel", "race", "(I)I"⟩, 19), (⟨"TideDiceModel", "throwsOf", "()I"⟩, 19), (⟨"TideDiceModel", "comes", "(I)V"⟩, 19), (⟨"TideDiceModel", "opened", "(IIII)I"⟩, 19), (⟨"TideDiceModel", "free", "()I"⟩, 19), (⟨"TideDiceModel", "taken", "()I"⟩, 19)]
theorem lw_r3 : ∀ q ∈ lw_privs_3, lw_okq q := List.forall_mem_cons.mpr ⟨lw_p32, List.forall_mem_cons.mpr ⟨lw_p33, List.forall_mem_cons.mpr ⟨lw_p34, List.forall_mem_cons.mpr ⟨lw_p35, List.forall_mem_cons.mpr ⟨lw_p36, List.forall_mem_cons.mpr ⟨lw_p37, List.forall_mem_cons.mpr ⟨lw_p38, List.forall_mem_cons.mpr ⟨lw_p39, List.forall_mem_cons.mpr ⟨lw_p40, List.forall_mem_cons.mpr ⟨lw_p41, List.forall_mem_cons.mpr ⟨lw_p42, List.forall_mem_cons.mpr ⟨lw_p43, List.forall_mem_cons.mpr ⟨lw_p44, List.forall_mem_cons.mpr ⟨lw_p45, List.forall_mem_cons.mpr ⟨lw_p46, List.forall_mem_cons.mpr ⟨lw_p47, fun _ h => absurd h List.not_mem_nil⟩⟩⟩⟩⟩⟩⟩⟩⟩⟩⟩⟩⟩⟩⟩⟩
theorem lw_p48 : lw_okq (⟨"TideDiceModel", "isFace", "(II)Z"⟩, 19) := ⟨⟨by decide +kernel, by decide +kernel⟩, List.mem_of_getElem? (i := 631) (by decide +kernel), List.mem_of_getElem? (i := 827) (by decide +kernel), List.mem_of_getElem? (i := 828) (by decide +kernel)⟩
theorem lw_p49 : lw_okq (⟨"TideDiceModel", "isWon", "()Z"⟩, 19) := ⟨⟨by decide +kernel, by decide +kernel⟩, List.mem_of_getElem? (i := 631) (by decide +kernel), List.mem_of_getElem? (i := 831) (by decide +kernel), List.mem_of_getElem? (i := 832) (by decide +kernel)⟩
theorem lw_p50 : lw_okq (⟨"TideDiceModel", "notes", "()V"⟩, 19) := ⟨⟨by decide +kernel, by decide +kernel⟩, List.mem_of_getElem? (i := 631) (by decide +kernel), List.mem_of_getElem? (i := 835) (by decide +kernel), List.mem_of_getElem? (i := 836) (by decide +kernel)⟩
theorem lw_p51 : lw_okq (⟨"TideDiceModel", "open", "()I"⟩, 19) := ⟨⟨by decide +kernel, by decide +kernel⟩, List.mem_of_getElem? (i := 631) (by decide +kernel), List.mem_of_getElem? (i := 842) (by decide +kernel), List.mem_of_getElem? (i := 843) (by decide +kernel)⟩
theorem lw_p52 : lw_okq (⟨"TideDiceModel", "gives", "(I)I"⟩, 19) := ⟨⟨by decide +kernel, by decide +kernel⟩, List.mem_of_getElem? (i := 631) (by decide +kernel), List.mem_of_getElem? (i := 850) (by decide +kernel), List.mem_of_getElem? (i := 851) (by decide +kernel)⟩
theorem lw_p53 : lw_okq (⟨"TideDiceModel", "tides", "(II)V"⟩, 19) := ⟨⟨by decide +kernel, by decide +kernel⟩, List.mem_of_getElem? (i := 631) (by decide +kernel), List.mem_of_getElem? (i := 854) (by decide +kernel), List.mem_of_getElem? (i := 855) (by decide +kernel)⟩
theorem lw_p54 : lw_okq (⟨"TideDiceModel", "ends", "()V"⟩, 19) := ⟨⟨by decide +kernel, by decide +kernel⟩, List.mem_of_getElem? (i := 631) (by decide +kernel), List.mem_of_getElem? (i := 858) (by decide +kernel), List.mem_of_getElem? (i := 859) (by decide +kernel)⟩
theorem lw_p55 : lw_okq (⟨"TideDiceModel", "chances", "(I)I"⟩, 19) := ⟨⟨by decide +kernel, by decide +kernel⟩, List.mem_of_getElem? (i := 631) (by decide +kernel), List.mem_of_getElem? (i := 883) (by decide +kernel), List.mem_of_getElem? (i := 884) (by decide +kernel)⟩
theorem lw_p56 : lw_okq (⟨"TideDiceModel", "throwsFor", "(I)I"⟩, 19) := ⟨⟨by decide +kernel, by decide +kernel⟩, List.mem_of_getElem? (i := 631) (by decide +kernel), List.mem_of_getElem? (i := 887) (by decide +kernel), List.mem_of_getElem? (i := 888) (by decide +kernel)⟩
theorem lw_p57 : lw_okq (⟨"TideDiceModel", "opensThen", "()I"⟩, 19) := ⟨⟨by decide +kernel, by decide +kernel⟩, List.mem_of_getElem? (i := 631) (by decide +kernel), List.mem_of_getElem? (i := 891) (by decide +kernel), List.mem_of_getElem? (i := 892) (by decide +kernel)⟩
theorem lw_p58 : lw_okq (⟨"TideDiceModel", "offOf", "(I)I"⟩, 19) := ⟨⟨by decide +kernel, by decide +kernel⟩, List.mem_of_getElem? (i := 631) (by decide +kernel), List.mem_of_getElem? (i := 925) (by decide +kernel), List.mem_of_getElem? (i := 926) (by decide +kernel)⟩
theorem lw_p59 : lw_okq (⟨"TideDiceModel", "wins", "(II)I"⟩, 19) := ⟨⟨by decide +kernel, by decide +kernel⟩, List.mem_of_getElem? (i := 631) (by decide +kernel), List.mem_of_getElem? (i := 949) (by decide +kernel), List.mem_of_getElem? (i := 950) (by decide +kernel)⟩
theorem lw_p60 : lw_okq (⟨"TideDiceModel", "isMore", "(II)Z"⟩, 19) := ⟨⟨by decide +kernel, by decide +kernel⟩, List.mem_of_getElem? (i := 631) (by decide +kernel), List.mem_of_getElem? (i := 957) (by decide +kernel), List.mem_of_getElem? (i := 958) (by decide +kernel)⟩
def lw_privs_4 : List (MethodName × Nat) := [(⟨"TideDiceModel", "isFace", "(II)Z"⟩, 19), (⟨"TideDiceModel", "isWon", "()Z"⟩, 19), (⟨"TideDiceModel", "notes", "()V"⟩, 19), (⟨"TideDiceModel", "open", "()I"⟩, 19), (⟨"TideDiceModel", "gives", "(I)I"⟩, 19), (⟨"TideDiceModel", "tides", "(II)V"⟩, 19), (⟨"TideDiceModel", "ends", "()V"⟩, 19), (⟨"TideDiceModel", "chances", "(I)I"⟩, 19), (⟨"TideDiceModel", "throwsFor", "(I)I"⟩, 19), (⟨"TideDiceModel", "opensThen", "()I"⟩, 19), (⟨"TideDiceModel", "offOf", "(I)I"⟩, 19), (⟨"TideDiceModel", "wins", "(II)I"⟩, 19), (⟨"TideDiceModel", "isMore", "(II)Z"⟩, 19)]
theorem lw_r4 : ∀ q ∈ lw_privs_4, lw_okq q := List.forall_mem_cons.mpr ⟨lw_p48, List.forall_mem_cons.mpr ⟨lw_p49, List.forall_mem_cons.mpr ⟨lw_p50, List.forall_mem_cons.mpr ⟨lw_p51, List.forall_mem_cons.mpr ⟨lw_p52, List.forall_mem_cons.mpr ⟨lw_p53, List.forall_mem_cons.mpr ⟨lw_p54, List.forall_mem_cons.mpr ⟨lw_p55, List.forall_mem_cons.mpr ⟨lw_p56, List.forall_mem_cons.mpr ⟨lw_p57, List.forall_mem_cons.mpr ⟨lw_p58, List.forall_mem_cons.mpr ⟨lw_p59, List.forall_mem_cons.mpr ⟨lw_p60, fun _ h => absurd h List.not_mem_nil⟩⟩⟩⟩⟩⟩⟩⟩⟩⟩⟩⟩⟩
def lw_privs : List (MethodName × Nat) := lw_privs_1 ++ (lw_privs_2 ++ (lw_privs_3 ++ (lw_privs_4)))
def lw_tbl : List Cond := k2_sels lw_privs ++ tables_1
theorem lw_privs_ok : ∀ q ∈ lw_privs, lw_okq q := by
  show ∀ q ∈ lw_privs_1 ++ (lw_privs_2 ++ (lw_privs_3 ++ (lw_privs_4))), lw_okq q
  exact List.forall_mem_append.mpr ⟨lw_r1, List.forall_mem_append.mpr ⟨lw_r2, List.forall_mem_append.mpr ⟨lw_r3, lw_r4⟩⟩⟩
def RX0 : String := "TideDice$AllThrows"
def TX0 : u_T := fun k => match k with
  | 0 => ("TideDice$AllThrows", "shown", "[I", true)
  | 1 => ("TideDice$AllThrows", "calm", "[I", true)
  | 2 => ("TideDice$AllThrows", "windy", "[I", true)
  | 3 => ("TideDice$AllThrows", "turns", "[Z", true)
  | 4 => ("TideDice$AllThrows", "many", "I", false)
  | _ => ("TideDice$AllThrows", "ever", "I", false)
def tyX0 : Nat → FieldType := fun k => match k with
  | 0 => .array .int
  | 1 => .array .int
  | 2 => .array .int
  | 3 => .array .boolean
  | 4 => .int
  | _ => .int
theorem nmX0 : ∀ a, a < 6 → ∀ b, b < 6 → a ≠ b → (TX0 a).2.1 ≠ (TX0 b).2.1 := by decide +kernel
theorem tyX0_ok : ∀ k, k < 6 → parseFieldDescriptor (TX0 k).2.2.1 = some (tyX0 k) := by decide +kernel
abbrev cX0_init : ByteArray := prog_2_method_1_code
def yX0_init : MethodName := ⟨RX0, "<init>", "()V"⟩
abbrev cX0_makeOf : ByteArray := prog_2_method_2_code
def yX0_makeOf : MethodName := ⟨RX0, "makeOf", "(LTideDice$Told;)V"⟩
abbrev cX0_addThrow : ByteArray := prog_2_method_3_code
def yX0_addThrow : MethodName := ⟨RX0, "addThrow", "(LTideDice$Told;III)V"⟩
abbrev cX0_shownAs : ByteArray := prog_2_method_4_code
def yX0_shownAs : MethodName := ⟨RX0, "shownAs", "(III)I"⟩
abbrev cX0_alikePairs : ByteArray := prog_2_method_5_code
def yX0_alikePairs : MethodName := ⟨RX0, "alikePairs", "(III)I"⟩
abbrev cX0_opensStill : ByteArray := prog_2_method_6_code
def yX0_opensStill : MethodName := ⟨RX0, "opensStill", "(II)I"⟩
abbrev cX0_opensThrown : ByteArray := prog_2_method_7_code
def yX0_opensThrown : MethodName := ⟨RX0, "opensThrown", "(II)I"⟩
abbrev cX0_manyOpening : ByteArray := prog_2_method_8_code
def yX0_manyOpening : MethodName := ⟨RX0, "manyOpening", "(II)I"⟩
abbrev cX0_sumOpening : ByteArray := prog_2_method_9_code
def yX0_sumOpening : MethodName := ⟨RX0, "sumOpening", "(II)I"⟩
abbrev cX0_manyStill : ByteArray := prog_2_method_10_code
def yX0_manyStill : MethodName := ⟨RX0, "manyStill", "(II)I"⟩
abbrev cX0_firstStill : ByteArray := prog_2_method_11_code
def yX0_firstStill : MethodName := ⟨RX0, "firstStill", "(II)I"⟩
def RX1 : String := "TideDice$Course"
def TX1 : u_T := fun k => match k with
  | 0 => ("TideDice$Course", "told", "LTideDice$Told;", true)
  | 1 => ("TideDice$Course", "at", "[I", true)
  | 2 => ("TideDice$Course", "past", "[I", true)
  | _ => ("TideDice$Course", "known", "I", false)
def tyX1 : Nat → FieldType := fun k => match k with
  | 0 => .object "TideDice$Told"
  | 1 => .array .int
  | 2 => .array .int
  | _ => .int
theorem nmX1 : ∀ a, a < 4 → ∀ b, b < 4 → a ≠ b → (TX1 a).2.1 ≠ (TX1 b).2.1 := by decide +kernel
theorem tyX1_ok : ∀ k, k < 4 → parseFieldDescriptor (TX1 k).2.2.1 = some (tyX1 k) := by decide +kernel
abbrev cX1_init : ByteArray := prog_3_method_1_code
def yX1_init : MethodName := ⟨RX1, "<init>", "(LTideDice$Told;)V"⟩
abbrev cX1_begin : ByteArray := prog_3_method_2_code
def yX1_begin : MethodName := ⟨RX1, "begin", "()V"⟩
abbrev cX1_becomes : ByteArray := prog_3_method_3_code
def yX1_becomes : MethodName := ⟨RX1, "becomes", "(LTideDice$Course;)V"⟩
abbrev cX1_remember : ByteArray := prog_3_method_4_code
def yX1_remember : MethodName := ⟨RX1, "remember", "()V"⟩
abbrev cX1_loseOldest : ByteArray := prog_3_method_5_code
def yX1_loseOldest : MethodName := ⟨RX1, "loseOldest", "()V"⟩
abbrev cX1_stepBack : ByteArray := prog_3_method_6_code
def yX1_stepBack : MethodName := ⟨RX1, "stepBack", "()V"⟩
abbrev cX1_berthsOf : ByteArray := prog_3_method_7_code
def yX1_berthsOf : MethodName := ⟨RX1, "berthsOf", "(I)I"⟩
abbrev cX1_tidesOf : ByteArray := prog_3_method_8_code
def yX1_tidesOf : MethodName := ⟨RX1, "tidesOf", "(I)I"⟩
abbrev cX1_isBlind : ByteArray := prog_3_method_9_code
def yX1_isBlind : MethodName := ⟨RX1, "isBlind", "(I)Z"⟩
abbrev cX1_wind : ByteArray := prog_3_method_10_code
def yX1_wind : MethodName := ⟨RX1, "wind", "()I"⟩
abbrev cX1_shown : ByteArray := prog_3_method_11_code
def yX1_shown : MethodName := ⟨RX1, "shown", "()I"⟩
abbrev cX1_lies : ByteArray := prog_3_method_12_code
def yX1_lies : MethodName := ⟨RX1, "lies", "()Z"⟩
abbrev cX1_owned : ByteArray := prog_3_method_13_code
def yX1_owned : MethodName := ⟨RX1, "owned", "()I"⟩
abbrev cX1_free : ByteArray := prog_3_method_14_code
def yX1_free : MethodName := ⟨RX1, "free", "()I"⟩
abbrev cX1_owner : ByteArray := prog_3_method_15_code
def yX1_owner : MethodName := ⟨RX1, "owner", "(I)I"⟩
abbrev cX1_winner : ByteArray := prog_3_method_16_code
def yX1_winner : MethodName := ⟨RX1, "winner", "()I"⟩
abbrev cX1_whoMoves : ByteArray := prog_3_method_17_code
def yX1_whoMoves : MethodName := ⟨RX1, "whoMoves", "()I"⟩
abbrev cX1_open : ByteArray := prog_3_method_18_code
def yX1_open : MethodName := ⟨RX1, "open", "()I"⟩
abbrev cX1_tidesFor : ByteArray := prog_3_method_19_code
def yX1_tidesFor : MethodName := ⟨RX1, "tidesFor", "(I)I"⟩
abbrev cX1_cast : ByteArray := prog_3_method_20_code
def yX1_cast : MethodName := ⟨RX1, "cast", "(III)V"⟩
abbrev cX1_take : ByteArray := prog_3_method_21_code
def yX1_take : MethodName := ⟨RX1, "take", "(I)I"⟩
abbrev cX1_pass : ByteArray := prog_3_method_22_code
def yX1_pass : MethodName := ⟨RX1, "pass", "()V"⟩
abbrev cX1_leave : ByteArray := prog_3_method_23_code
def yX1_leave : MethodName := ⟨RX1, "leave", "()V"⟩
abbrev cX1_giveTides : ByteArray := prog_3_method_24_code
def yX1_giveTides : MethodName := ⟨RX1, "giveTides", "(II)V"⟩
abbrev cX1_endTurn : ByteArray := prog_3_method_25_code
def yX1_endTurn : MethodName := ⟨RX1, "endTurn", "()V"⟩
def RX2 : String := "TideDice$Reader"
def TX2 : u_T := fun k => match k with
  | 0 => ("TideDice$Reader", "draft", "LTideDice$Told;", true)
  | 1 => ("TideDice$Reader", "fault", "I", false)
  | 2 => ("TideDice$Reader", "text", "[C", false)
  | 3 => ("TideDice$Reader", "length", "I", false)
  | 4 => ("TideDice$Reader", "kind", "I", false)
  | 5 => ("TideDice$Reader", "start", "I", false)
  | 6 => ("TideDice$Reader", "next", "I", false)
  | 7 => ("TideDice$Reader", "number", "I", false)
  | 8 => ("TideDice$Reader", "dice", "I", false)
  | 9 => ("TideDice$Reader", "berthsTold", "Z", false)
  | _ => ("TideDice$Reader", "goalTold", "Z", false)
def tyX2 : Nat → FieldType := fun k => match k with
  | 0 => .object "TideDice$Told"
  | 1 => .int
  | 2 => .array .char
  | 3 => .int
  | 4 => .int
  | 5 => .int
  | 6 => .int
  | 7 => .int
  | 8 => .int
  | 9 => .boolean
  | _ => .boolean
theorem nmX2 : ∀ a, a < 11 → ∀ b, b < 11 → a ≠ b → (TX2 a).2.1 ≠ (TX2 b).2.1 := by decide +kernel
theorem tyX2_ok : ∀ k, k < 11 → parseFieldDescriptor (TX2 k).2.2.1 = some (tyX2 k) := by decide +kernel
abbrev cX2_init : ByteArray := prog_4_method_1_code
def yX2_init : MethodName := ⟨RX2, "<init>", "()V"⟩
abbrev cX2_readItems : ByteArray := prog_4_method_2_code
def yX2_readItems : MethodName := ⟨RX2, "readItems", "([CI)I"⟩
abbrev cX2_readItem : ByteArray := prog_4_method_3_code
def yX2_readItem : MethodName := ⟨RX2, "readItem", "()V"⟩
abbrev cX2_readDie : ByteArray := prog_4_method_4_code
def yX2_readDie : MethodName := ⟨RX2, "readDie", "()V"⟩
abbrev cX2_readNumber : ByteArray := prog_4_method_5_code
def yX2_readNumber : MethodName := ⟨RX2, "readNumber", "(II)I"⟩
abbrev cX2_readStop : ByteArray := prog_4_method_6_code
def yX2_readStop : MethodName := ⟨RX2, "readStop", "()V"⟩
abbrev cX2_isNumber : ByteArray := prog_4_method_7_code
def yX2_isNumber : MethodName := ⟨RX2, "isNumber", "(II)Z"⟩
abbrev cX2_refuse : ByteArray := prog_4_method_8_code
def yX2_refuse : MethodName := ⟨RX2, "refuse", "()V"⟩
abbrev cX2_advance : ByteArray := prog_4_method_9_code
def yX2_advance : MethodName := ⟨RX2, "advance", "()V"⟩
abbrev cX2_skipLetters : ByteArray := prog_4_method_10_code
def yX2_skipLetters : MethodName := ⟨RX2, "skipLetters", "()V"⟩
abbrev cX2_scanNumber : ByteArray := prog_4_method_11_code
def yX2_scanNumber : MethodName := ⟨RX2, "scanNumber", "()V"⟩
abbrev cX2_isLetter : ByteArray := prog_4_method_12_code
def yX2_isLetter : MethodName := ⟨RX2, "isLetter", "(I)Z"⟩
abbrev cX2_isDigit : ByteArray := prog_4_method_13_code
def yX2_isDigit : MethodName := ⟨RX2, "isDigit", "(I)Z"⟩
def RX3 : String := "TideDice$Told"
def TX3 : u_T := fun k => match k with
  | 0 => ("TideDice$Told", "pips", "[I", true)
  | 1 => ("TideDice$Told", "many", "[I", true)
  | 2 => ("TideDice$Told", "berths", "I", false)
  | _ => ("TideDice$Told", "goal", "I", false)
def tyX3 : Nat → FieldType := fun k => match k with
  | 0 => .array .int
  | 1 => .array .int
  | 2 => .int
  | _ => .int
theorem nmX3 : ∀ a, a < 4 → ∀ b, b < 4 → a ≠ b → (TX3 a).2.1 ≠ (TX3 b).2.1 := by decide +kernel
theorem tyX3_ok : ∀ k, k < 4 → parseFieldDescriptor (TX3 k).2.2.1 = some (tyX3 k) := by decide +kernel
abbrev cX3_init : ByteArray := prog_5_method_1_code
def yX3_init : MethodName := ⟨RX3, "<init>", "()V"⟩
abbrev cX3_setFirst : ByteArray := prog_5_method_2_code
def yX3_setFirst : MethodName := ⟨RX3, "setFirst", "()V"⟩
abbrev cX3_becomes : ByteArray := prog_5_method_3_code
def yX3_becomes : MethodName := ⟨RX3, "becomes", "(LTideDice$Told;)V"⟩
abbrev cX3_pip : ByteArray := prog_5_method_4_code
def yX3_pip : MethodName := ⟨RX3, "pip", "(II)I"⟩
abbrev cX3_hasPip : ByteArray := prog_5_method_5_code
def yX3_hasPip : MethodName := ⟨RX3, "hasPip", "(II)Z"⟩
abbrev cX3_opens : ByteArray := prog_5_method_6_code
def yX3_opens : MethodName := ⟨RX3, "opens", "(IIII)I"⟩
abbrev cX3_berthBit : ByteArray := prog_5_method_7_code
def yX3_berthBit : MethodName := ⟨RX3, "berthBit", "(II)I"⟩
abbrev cX3_pairsOf : ByteArray := prog_5_method_8_code
def yX3_pairsOf : MethodName := ⟨RX3, "pairsOf", "(II)I"⟩
abbrev cX3_winsOf : ByteArray := prog_5_method_9_code
def yX3_winsOf : MethodName := ⟨RX3, "winsOf", "(II)I"⟩
abbrev cX3_mostlyWins : ByteArray := prog_5_method_10_code
def yX3_mostlyWins : MethodName := ⟨RX3, "mostlyWins", "(II)Z"⟩
def RX4 : String := "TideDice"
def TX4 : u_T := fun k => match k with
  | 0 => ("TideDice", "text", "[C", true)
  | 1 => ("TideDice", "typed", "I", false)
  | 2 => ("TideDice", "told", "LTideDice$Told;", true)
  | 3 => ("TideDice", "reader", "LTideDice$Reader;", true)
  | 4 => ("TideDice", "all", "LTideDice$AllThrows;", true)
  | 5 => ("TideDice", "course", "LTideDice$Course;", true)
  | 6 => ("TideDice", "images", "[LTideDice$Course;", true)
  | 7 => ("TideDice", "kept", "[Z", true)
  | 8 => ("TideDice", "chalkBerth", "[I", true)
  | 9 => ("TideDice", "chalkThrows", "[I", true)
  | 10 => ("TideDice", "chalked", "I", false)
  | _ => ("TideDice", "traced", "J", false)
def tyX4 : Nat → FieldType := fun k => match k with
  | 0 => .array .char
  | 1 => .int
  | 2 => .object "TideDice$Told"
  | 3 => .object "TideDice$Reader"
  | 4 => .object "TideDice$AllThrows"
  | 5 => .object "TideDice$Course"
  | 6 => .array (.object "TideDice$Course")
  | 7 => .array .boolean
  | 8 => .array .int
  | 9 => .array .int
  | 10 => .int
  | _ => .long
theorem nmX4 : ∀ a, a < 12 → ∀ b, b < 12 → a ≠ b → (TX4 a).2.1 ≠ (TX4 b).2.1 := by decide +kernel
theorem tyX4_ok : ∀ k, k < 12 → parseFieldDescriptor (TX4 k).2.2.1 = some (tyX4 k) := by decide +kernel
abbrev cX4_init : ByteArray := prog_1_method_1_code
def yX4_init : MethodName := ⟨RX4, "<init>", "()V"⟩
abbrev cX4_type : ByteArray := prog_1_method_2_code
def yX4_type : MethodName := ⟨RX4, "type", "(I)I"⟩
abbrev cX4_clear : ByteArray := prog_1_method_3_code
def yX4_clear : MethodName := ⟨RX4, "clear", "()I"⟩
abbrev cX4_harbour : ByteArray := prog_1_method_4_code
def yX4_harbour : MethodName := ⟨RX4, "harbour", "()I"⟩
abbrev cX4_die : ByteArray := prog_1_method_5_code
def yX4_die : MethodName := ⟨RX4, "die", "(II)I"⟩
abbrev cX4_berth : ByteArray := prog_1_method_6_code
def yX4_berth : MethodName := ⟨RX4, "berth", "(I)I"⟩
abbrev cX4_player : ByteArray := prog_1_method_7_code
def yX4_player : MethodName := ⟨RX4, "player", "(II)I"⟩
abbrev cX4_throwsDice : ByteArray := prog_1_method_8_code
def yX4_throwsDice : MethodName := ⟨RX4, "throwsDice", "(III)I"⟩
abbrev cX4_takes : ByteArray := prog_1_method_9_code
def yX4_takes : MethodName := ⟨RX4, "takes", "(I)I"⟩
abbrev cX4_passes : ByteArray := prog_1_method_10_code
def yX4_passes : MethodName := ⟨RX4, "passes", "()I"⟩
abbrev cX4_leaves : ByteArray := prog_1_method_11_code
def yX4_leaves : MethodName := ⟨RX4, "leaves", "()I"⟩
abbrev cX4_undo : ByteArray := prog_1_method_12_code
def yX4_undo : MethodName := ⟨RX4, "undo", "()I"⟩
abbrev cX4_now : ByteArray := prog_1_method_13_code
def yX4_now : MethodName := ⟨RX4, "now", "(I)I"⟩
abbrev cX4_chance : ByteArray := prog_1_method_14_code
def yX4_chance : MethodName := ⟨RX4, "chance", "(II)I"⟩
abbrev cX4_odds : ByteArray := prog_1_method_15_code
def yX4_odds : MethodName := ⟨RX4, "odds", "(II)I"⟩
abbrev cX4_wise : ByteArray := prog_1_method_16_code
def yX4_wise : MethodName := ⟨RX4, "wise", "(I)I"⟩
abbrev cX4_cheap : ByteArray := prog_1_method_17_code
def yX4_cheap : MethodName := ⟨RX4, "cheap", "()I"⟩
abbrev cX4_ever : ByteArray := prog_1_method_18_code
def yX4_ever : MethodName := ⟨RX4, "ever", "()I"⟩
abbrev cX4_chalks : ByteArray := prog_1_method_19_code
def yX4_chalks : MethodName := ⟨RX4, "chalks", "(II)I"⟩
abbrev cX4_wipes : ByteArray := prog_1_method_20_code
def yX4_wipes : MethodName := ⟨RX4, "wipes", "()I"⟩
abbrev cX4_wrong : ByteArray := prog_1_method_21_code
def yX4_wrong : MethodName := ⟨RX4, "wrong", "()I"⟩
abbrev cX4_off : ByteArray := prog_1_method_22_code
def yX4_off : MethodName := ⟨RX4, "off", "(I)I"⟩
abbrev cX4_bet : ByteArray := prog_1_method_23_code
def yX4_bet : MethodName := ⟨RX4, "bet", "()I"⟩
abbrev cX4_third : ByteArray := prog_1_method_24_code
def yX4_third : MethodName := ⟨RX4, "third", "(III)I"⟩
abbrev cX4_threw : ByteArray := prog_1_method_25_code
def yX4_threw : MethodName := ⟨RX4, "threw", "(II)I"⟩
abbrev cX4_beats : ByteArray := prog_1_method_26_code
def yX4_beats : MethodName := ⟨RX4, "beats", "(III)I"⟩
abbrev cX4_ring : ByteArray := prog_1_method_27_code
def yX4_ring : MethodName := ⟨RX4, "ring", "()I"⟩
abbrev cX4_mark : ByteArray := prog_1_method_28_code
def yX4_mark : MethodName := ⟨RX4, "mark", "(II)I"⟩
abbrev cX4_keep : ByteArray := prog_1_method_29_code
def yX4_keep : MethodName := ⟨RX4, "keep", "(I)I"⟩
abbrev cX4_back : ByteArray := prog_1_method_30_code
def yX4_back : MethodName := ⟨RX4, "back", "(I)I"⟩
abbrev cX4_count : ByteArray := prog_1_method_31_code
def yX4_count : MethodName := ⟨RX4, "count", "(I)I"⟩
abbrev cX4_trace : ByteArray := prog_1_method_32_code
def yX4_trace : MethodName := ⟨RX4, "trace", "()J"⟩
abbrev cX4_isBerth : ByteArray := prog_1_method_33_code
def yX4_isBerth : MethodName := ⟨RX4, "isBerth", "(I)Z"⟩
abbrev cX4_isDie : ByteArray := prog_1_method_34_code
def yX4_isDie : MethodName := ⟨RX4, "isDie", "(I)Z"⟩
abbrev cX4_isImage : ByteArray := prog_1_method_35_code
def yX4_isImage : MethodName := ⟨RX4, "isImage", "(I)Z"⟩
abbrev cX4_isPart : ByteArray := prog_1_method_36_code
def yX4_isPart : MethodName := ⟨RX4, "isPart", "(I)Z"⟩
abbrev cX4_bit : ByteArray := prog_1_method_37_code
def yX4_bit : MethodName := ⟨RX4, "bit", "(I)I"⟩
abbrev cX4_hasBit : ByteArray := prog_1_method_38_code
def yX4_hasBit : MethodName := ⟨RX4, "hasBit", "(II)Z"⟩
abbrev cX4_partOf : ByteArray := prog_1_method_39_code
def yX4_partOf : MethodName := ⟨RX4, "partOf", "(III)I"⟩
abbrev cX4_commonOf : ByteArray := prog_1_method_40_code
def yX4_commonOf : MethodName := ⟨RX4, "commonOf", "(II)I"⟩
abbrev cX4_throwsFor : ByteArray := prog_1_method_41_code
def yX4_throwsFor : MethodName := ⟨RX4, "throwsFor", "(I)I"⟩
abbrev cX4_offOf : ByteArray := prog_1_method_42_code
def yX4_offOf : MethodName := ⟨RX4, "offOf", "(I)I"⟩
abbrev cX4_raceOf : ByteArray := prog_1_method_43_code
def yX4_raceOf : MethodName := ⟨RX4, "raceOf", "(I)I"⟩
abbrev cX4_berthMark : ByteArray := prog_1_method_44_code
def yX4_berthMark : MethodName := ⟨RX4, "berthMark", "(I)I"⟩
abbrev cX4_shipMark : ByteArray := prog_1_method_45_code
def yX4_shipMark : MethodName := ⟨RX4, "shipMark", "(I)I"⟩
abbrev cX4_quayMark : ByteArray := prog_1_method_46_code
def yX4_quayMark : MethodName := ⟨RX4, "quayMark", "(I)I"⟩
abbrev cX4_coalMark : ByteArray := prog_1_method_47_code
def yX4_coalMark : MethodName := ⟨RX4, "coalMark", "(I)I"⟩
abbrev cX4_lentMark : ByteArray := prog_1_method_48_code
def yX4_lentMark : MethodName := ⟨RX4, "lentMark", "(I)I"⟩
abbrev cX4_pilotMark : ByteArray := prog_1_method_49_code
def yX4_pilotMark : MethodName := ⟨RX4, "pilotMark", "(I)I"⟩
def RX5 : String := "TideDiceModel"
def TX5 : u_T := fun k => match k with
  | 0 => ("TideDiceModel", "text", "[I", true)
  | 1 => ("TideDiceModel", "size", "I", false)
  | 2 => ("TideDiceModel", "at", "I", false)
  | 3 => ("TideDiceModel", "begin", "I", false)
  | 4 => ("TideDiceModel", "token", "I", false)
  | 5 => ("TideDiceModel", "told", "I", false)
  | 6 => ("TideDiceModel", "read", "[I", true)
  | 7 => ("TideDiceModel", "harbour", "[I", true)
  | 8 => ("TideDiceModel", "now", "[I", true)
  | 9 => ("TideDiceModel", "undone", "[I", true)
  | 10 => ("TideDiceModel", "undos", "I", false)
  | 11 => ("TideDiceModel", "one", "I", false)
  | 12 => ("TideDiceModel", "two", "I", false)
  | 13 => ("TideDiceModel", "three", "I", false)
  | 14 => ("TideDiceModel", "chalks", "I", false)
  | 15 => ("TideDiceModel", "chalkBerth", "[I", true)
  | 16 => ("TideDiceModel", "chalkOf", "[I", true)
  | 17 => ("TideDiceModel", "trace", "J", false)
  | _ => ("TideDiceModel", "kept", "[I", true)
def tyX5 : Nat → FieldType := fun k => match k with
  | 0 => .array .int
  | 1 => .int
  | 2 => .int
  | 3 => .int
  | 4 => .int
  | 5 => .int
  | 6 => .array .int
  | 7 => .array .int
  | 8 => .array .int
  | 9 => .array .int
  | 10 => .int
  | 11 => .int
  | 12 => .int
  | 13 => .int
  | 14 => .int
  | 15 => .array .int
  | 16 => .array .int
  | 17 => .long
  | _ => .array .int
theorem nmX5 : ∀ a, a < 19 → ∀ b, b < 19 → a ≠ b → (TX5 a).2.1 ≠ (TX5 b).2.1 := by decide +kernel
theorem tyX5_ok : ∀ k, k < 19 → parseFieldDescriptor (TX5 k).2.2.1 = some (tyX5 k) := by decide +kernel
abbrev cX5_in : ByteArray := prog_7_method_2_code
def yX5_in : MethodName := ⟨RX5, "in", "(JJJ)Z"⟩
abbrev cX5_init : ByteArray := prog_7_method_3_code
def yX5_init : MethodName := ⟨RX5, "<init>", "()V"⟩
abbrev cX5_type : ByteArray := prog_7_method_4_code
def yX5_type : MethodName := ⟨RX5, "type", "(I)I"⟩
abbrev cX5_clear : ByteArray := prog_7_method_5_code
def yX5_clear : MethodName := ⟨RX5, "clear", "()I"⟩
abbrev cX5_isLetter : ByteArray := prog_7_method_6_code
def yX5_isLetter : MethodName := ⟨RX5, "isLetter", "(I)Z"⟩
abbrev cX5_isFigure : ByteArray := prog_7_method_7_code
def yX5_isFigure : MethodName := ⟨RX5, "isFigure", "(I)Z"⟩
abbrev cX5_readLetters : ByteArray := prog_7_method_8_code
def yX5_readLetters : MethodName := ⟨RX5, "readLetters", "()V"⟩
abbrev cX5_readNumber : ByteArray := prog_7_method_9_code
def yX5_readNumber : MethodName := ⟨RX5, "readNumber", "()V"⟩
abbrev cX5_reads : ByteArray := prog_7_method_10_code
def yX5_reads : MethodName := ⟨RX5, "reads", "()V"⟩
abbrev cX5_number : ByteArray := prog_7_method_11_code
def yX5_number : MethodName := ⟨RX5, "number", "(II)Z"⟩
abbrev cX5_plain : ByteArray := prog_7_method_12_code
def yX5_plain : MethodName := ⟨RX5, "plain", "()V"⟩
abbrev cX5_readDie : ByteArray := prog_7_method_13_code
def yX5_readDie : MethodName := ⟨RX5, "readDie", "()Z"⟩
abbrev cX5_once : ByteArray := prog_7_method_14_code
def yX5_once : MethodName := ⟨RX5, "once", "(IIII)Z"⟩
abbrev cX5_readItem : ByteArray := prog_7_method_15_code
def yX5_readItem : MethodName := ⟨RX5, "readItem", "()Z"⟩
abbrev cX5_harbour : ByteArray := prog_7_method_16_code
def yX5_harbour : MethodName := ⟨RX5, "harbour", "()I"⟩
abbrev cX5_takesAll : ByteArray := prog_7_method_17_code
def yX5_takesAll : MethodName := ⟨RX5, "takesAll", "()V"⟩
abbrev cX5_isBerth : ByteArray := prog_7_method_18_code
def yX5_isBerth : MethodName := ⟨RX5, "isBerth", "(I)Z"⟩
abbrev cX5_isDie : ByteArray := prog_7_method_19_code
def yX5_isDie : MethodName := ⟨RX5, "isDie", "(I)Z"⟩
abbrev cX5_faces : ByteArray := prog_7_method_20_code
def yX5_faces : MethodName := ⟨RX5, "faces", "(I)I"⟩
abbrev cX5_face : ByteArray := prog_7_method_21_code
def yX5_face : MethodName := ⟨RX5, "face", "(II)I"⟩
abbrev cX5_isFace : ByteArray := prog_7_method_22_code
def yX5_isFace : MethodName := ⟨RX5, "isFace", "(II)Z"⟩
abbrev cX5_throwsOf : ByteArray := prog_7_method_23_code
def yX5_throwsOf : MethodName := ⟨RX5, "throwsOf", "()I"⟩
abbrev cX5_die : ByteArray := prog_7_method_24_code
def yX5_die : MethodName := ⟨RX5, "die", "(II)I"⟩
abbrev cX5_berth : ByteArray := prog_7_method_25_code
def yX5_berth : MethodName := ⟨RX5, "berth", "(I)I"⟩
abbrev cX5_berths : ByteArray := prog_7_method_26_code
def yX5_berths : MethodName := ⟨RX5, "berths", "(I)I"⟩
abbrev cX5_many : ByteArray := prog_7_method_27_code
def yX5_many : MethodName := ⟨RX5, "many", "(I)I"⟩
abbrev cX5_player : ByteArray := prog_7_method_28_code
def yX5_player : MethodName := ⟨RX5, "player", "(II)I"⟩
abbrev cX5_isDouble : ByteArray := prog_7_method_29_code
def yX5_isDouble : MethodName := ⟨RX5, "isDouble", "(III)Z"⟩
abbrev cX5_opened : ByteArray := prog_7_method_30_code
def yX5_opened : MethodName := ⟨RX5, "opened", "(IIII)I"⟩
abbrev cX5_taken : ByteArray := prog_7_method_31_code
def yX5_taken : MethodName := ⟨RX5, "taken", "()I"⟩
abbrev cX5_open : ByteArray := prog_7_method_32_code
def yX5_open : MethodName := ⟨RX5, "open", "()I"⟩
abbrev cX5_notes : ByteArray := prog_7_method_33_code
def yX5_notes : MethodName := ⟨RX5, "notes", "()V"⟩
abbrev cX5_tides : ByteArray := prog_7_method_34_code
def yX5_tides : MethodName := ⟨RX5, "tides", "(II)V"⟩
abbrev cX5_isWon : ByteArray := prog_7_method_35_code
def yX5_isWon : MethodName := ⟨RX5, "isWon", "()Z"⟩
abbrev cX5_throwsDice : ByteArray := prog_7_method_36_code
def yX5_throwsDice : MethodName := ⟨RX5, "throwsDice", "(III)I"⟩
abbrev cX5_ends : ByteArray := prog_7_method_37_code
def yX5_ends : MethodName := ⟨RX5, "ends", "()V"⟩
abbrev cX5_gives : ByteArray := prog_7_method_38_code
def yX5_gives : MethodName := ⟨RX5, "gives", "(I)I"⟩
abbrev cX5_takes : ByteArray := prog_7_method_39_code
def yX5_takes : MethodName := ⟨RX5, "takes", "(I)I"⟩
abbrev cX5_passes : ByteArray := prog_7_method_40_code
def yX5_passes : MethodName := ⟨RX5, "passes", "()I"⟩
abbrev cX5_leaves : ByteArray := prog_7_method_41_code
def yX5_leaves : MethodName := ⟨RX5, "leaves", "()I"⟩
abbrev cX5_undo : ByteArray := prog_7_method_42_code
def yX5_undo : MethodName := ⟨RX5, "undo", "()I"⟩
abbrev cX5_now : ByteArray := prog_7_method_43_code
def yX5_now : MethodName := ⟨RX5, "now", "(I)I"⟩
abbrev cX5_comes : ByteArray := prog_7_method_44_code
def yX5_comes : MethodName := ⟨RX5, "comes", "(I)V"⟩
abbrev cX5_opensThen : ByteArray := prog_7_method_45_code
def yX5_opensThen : MethodName := ⟨RX5, "opensThen", "()I"⟩
abbrev cX5_throwsFor : ByteArray := prog_7_method_46_code
def yX5_throwsFor : MethodName := ⟨RX5, "throwsFor", "(I)I"⟩
abbrev cX5_free : ByteArray := prog_7_method_47_code
def yX5_free : MethodName := ⟨RX5, "free", "()I"⟩
abbrev cX5_least : ByteArray := prog_7_method_48_code
def yX5_least : MethodName := ⟨RX5, "least", "(III)I"⟩
abbrev cX5_chances : ByteArray := prog_7_method_49_code
def yX5_chances : MethodName := ⟨RX5, "chances", "(I)I"⟩
abbrev cX5_chance : ByteArray := prog_7_method_50_code
def yX5_chance : MethodName := ⟨RX5, "chance", "(II)I"⟩
abbrev cX5_odds : ByteArray := prog_7_method_51_code
def yX5_odds : MethodName := ⟨RX5, "odds", "(II)I"⟩
abbrev cX5_wise : ByteArray := prog_7_method_52_code
def yX5_wise : MethodName := ⟨RX5, "wise", "(I)I"⟩
abbrev cX5_cheap : ByteArray := prog_7_method_53_code
def yX5_cheap : MethodName := ⟨RX5, "cheap", "()I"⟩
abbrev cX5_ever : ByteArray := prog_7_method_54_code
def yX5_ever : MethodName := ⟨RX5, "ever", "()I"⟩
abbrev cX5_race : ByteArray := prog_7_method_55_code
def yX5_race : MethodName := ⟨RX5, "race", "(I)I"⟩
abbrev cX5_chalks : ByteArray := prog_7_method_56_code
def yX5_chalks : MethodName := ⟨RX5, "chalks", "(II)I"⟩
abbrev cX5_wipes : ByteArray := prog_7_method_57_code
def yX5_wipes : MethodName := ⟨RX5, "wipes", "()I"⟩
abbrev cX5_offOf : ByteArray := prog_7_method_58_code
def yX5_offOf : MethodName := ⟨RX5, "offOf", "(I)I"⟩
abbrev cX5_wrong : ByteArray := prog_7_method_59_code
def yX5_wrong : MethodName := ⟨RX5, "wrong", "()I"⟩
abbrev cX5_off : ByteArray := prog_7_method_60_code
def yX5_off : MethodName := ⟨RX5, "off", "(I)I"⟩
abbrev cX5_bet : ByteArray := prog_7_method_61_code
def yX5_bet : MethodName := ⟨RX5, "bet", "()I"⟩
abbrev cX5_third : ByteArray := prog_7_method_62_code
def yX5_third : MethodName := ⟨RX5, "third", "(III)I"⟩
abbrev cX5_threw : ByteArray := prog_7_method_63_code
def yX5_threw : MethodName := ⟨RX5, "threw", "(II)I"⟩
abbrev cX5_wins : ByteArray := prog_7_method_64_code
def yX5_wins : MethodName := ⟨RX5, "wins", "(II)I"⟩
abbrev cX5_beats : ByteArray := prog_7_method_65_code
def yX5_beats : MethodName := ⟨RX5, "beats", "(III)I"⟩
abbrev cX5_isMore : ByteArray := prog_7_method_66_code
def yX5_isMore : MethodName := ⟨RX5, "isMore", "(II)Z"⟩
abbrev cX5_ring : ByteArray := prog_7_method_67_code
def yX5_ring : MethodName := ⟨RX5, "ring", "()I"⟩
abbrev cX5_mark : ByteArray := prog_7_method_68_code
def yX5_mark : MethodName := ⟨RX5, "mark", "(II)I"⟩
abbrev cX5_trace : ByteArray := prog_7_method_69_code
def yX5_trace : MethodName := ⟨RX5, "trace", "()J"⟩
abbrev cX5_keep : ByteArray := prog_7_method_70_code
def yX5_keep : MethodName := ⟨RX5, "keep", "(I)I"⟩
abbrev cX5_back : ByteArray := prog_7_method_71_code
def yX5_back : MethodName := ⟨RX5, "back", "(I)I"⟩
abbrev cX5_count : ByteArray := prog_7_method_72_code
def yX5_count : MethodName := ⟨RX5, "count", "(I)I"⟩
def RJ6 : String := "java/lang/Integer"
def TJ6 : u_T := fun k => match k with
  | _ => ("", "", "", false)
def tyJ6 : Nat → FieldType := fun k => match k with
  | _ => .int
theorem nmJ6 : ∀ a, a < 0 → ∀ b, b < 0 → a ≠ b → (TJ6 a).2.1 ≠ (TJ6 b).2.1 := by decide +kernel
theorem tyJ6_ok : ∀ k, k < 0 → parseFieldDescriptor (TJ6 k).2.2.1 = some (tyJ6 k) := by decide +kernel
abbrev cJ6_bitCount_0f7a4 : ByteArray := prog_8_method_49_code
def yJ6_bitCount_0f7a4 : MethodName := ⟨RJ6, "bitCount", "(I)I"⟩
def RJ9 : String := "java/lang/Math"
def TJ9 : u_T := fun k => match k with
  | _ => ("", "", "", false)
def tyJ9 : Nat → FieldType := fun k => match k with
  | _ => .int
theorem nmJ9 : ∀ a, a < 0 → ∀ b, b < 0 → a ≠ b → (TJ9 a).2.1 ≠ (TJ9 b).2.1 := by decide +kernel
theorem tyJ9_ok : ∀ k, k < 0 → parseFieldDescriptor (TJ9 k).2.2.1 = some (tyJ9 k) := by decide +kernel
abbrev cJ9_abs_0f7a4 : ByteArray := prog_9_method_59_code
def yJ9_abs_0f7a4 : MethodName := ⟨RJ9, "abs", "(I)I"⟩
abbrev cJ9_min_7cf53 : ByteArray := prog_9_method_69_code
def yJ9_min_7cf53 : MethodName := ⟨RJ9, "min", "(II)I"⟩
def RJ10 : String := "java/lang/System"
def TJ10 : u_T := fun k => match k with
  | _ => ("", "", "", false)
def tyJ10 : Nat → FieldType := fun k => match k with
  | _ => .int
theorem nmJ10 : ∀ a, a < 0 → ∀ b, b < 0 → a ≠ b → (TJ10 a).2.1 ≠ (TJ10 b).2.1 := by decide +kernel
theorem tyJ10_ok : ∀ k, k < 0 → parseFieldDescriptor (TJ10 k).2.2.1 = some (tyJ10 k) := by decide +kernel
def RL : String := "TideDiceLaw"
abbrev cL_law : ByteArray := code
def yL_law : MethodName := ⟨RL, "law", "([I)Z"⟩
end
section
/-! the walker's own rows: one judgement tg_G over a world, a list of locals, a place and a stack; the context in one tuple -/
abbrev tg_D : Type := va_G × (Nat → ClassId)
abbrev tg_cl : List vw_C := [(RX0, TX0, 6), (RX1, TX1, 4), (RX2, TX2, 11), (RX3, TX3, 4), (RX4, TX4, 12), (RX5, TX5, 19)]
abbrev tg_TY (D : tg_D) : List (ClassId × FieldType) := [(D.2 0, .int), (D.2 1, .boolean), (D.2 2, .char), (D.2 3, .object "TideDice$Course")]
def tg_ok : Cond → Bool
  | .methodLinkNest _ _ _ _ => true
  | .arrayOver (.object _) => true
  | w => goodWord w
def tg_tbl : List Cond := lw_tbl.filter tg_ok
theorem tg_in {w : Cond} (i : Nat) (h : lw_tbl[i]? = some w) (h2 : tg_ok w = true) : w ∈ tg_tbl := List.mem_filter.mpr ⟨List.mem_of_getElem? h, h2⟩
def tg_T (args : Array Value) (U : State) : Prop := ∀ w ∈ tg_tbl, w.before args U = true
theorem tg_T.warm {args a' : Array Value} {s U : State} (h : tg_T args s) (hW : s.WarmedH U.vm) : tg_T a' U := by
  intro w hw
  have h1 := h w hw
  have h2 := (List.mem_filter.mp hw).2
  unfold tg_ok at h2
  split at h2
  · exact va_Nw.use rfl (va_Nw.warmM hW (va_Nw.of rfl h1))
  · exact va_AO.use (va_AO.moved hW.alike (va_AO.of h1))
  · exact word_at hW (good_of_word h2) h1
abbrev tg_X : Type := Program × Launch × Env × Room × State × MethodId × Array Value × List Frame × Method × Code × (State → Prop) × (Nat → Prop) × (Heap → List Loc → Prop)
abbrev tg_p (X : tg_X) : Program := X.1
abbrev tg_l (X : tg_X) : Launch := X.2.1
abbrev tg_e (X : tg_X) : Env := X.2.2.1
abbrev tg_R (X : tg_X) : Room := X.2.2.2.1
abbrev tg_s (X : tg_X) : State := X.2.2.2.2.1
abbrev tg_m (X : tg_X) : MethodId := X.2.2.2.2.2.1
abbrev tg_a (X : tg_X) : Array Value := X.2.2.2.2.2.2.1
abbrev tg_b (X : tg_X) : List Frame := X.2.2.2.2.2.2.2.1
abbrev tg_h (X : tg_X) : Method := X.2.2.2.2.2.2.2.2.1
abbrev tg_c (X : tg_X) : Code := X.2.2.2.2.2.2.2.2.2.1
abbrev tg_Q (X : tg_X) : State → Prop := X.2.2.2.2.2.2.2.2.2.2.1
abbrev tg_A (X : tg_X) : Nat → Prop := X.2.2.2.2.2.2.2.2.2.2.2.1
abbrev tg_Z (X : tg_X) : Heap → List Loc → Prop := X.2.2.2.2.2.2.2.2.2.2.2.2
abbrev tg_W (X : tg_X) (H : Heap) (locs : List Loc) (k n : Nat) (g : JFrame) : Prop := W (tg_p X) (tg_l X) (tg_e X) (tg_R X) (tg_s X) (tg_m X) (tg_a X) (tg_b X) (tg_h X) (tg_c X) H locs k n (tg_Q X) g
/-- the walk: at any heap that holds the world, and any locals that hold the list -/
def tg_G (X : tg_X) (D : tg_D) (nL k n : Nat) (ws : va_W) (lv : List (Nat × Value)) (pc : Nat) (st : List Value) : Prop :=
  ∀ (H : Heap) (locs : List Loc) (ls : Array Slot), tg_Z X H locs → va_P D.1 tg_cl ws H → va_D (tg_A X) ws → lv_has ls nL lv → tg_W X H locs k n (F0 (tg_m X) pc ls st)
/-- the context: machine, code, class, words, tables, room -/
def tg_C (X : tg_X) (D : tg_D) (nL : Nat) (cc : ByteArray) (own : String) (F L kc ns : Nat) : Prop :=
  (tg_p X).tables.exec = Jvm.exec ∧ (tg_c X).code = cc ∧ (tg_c X).maxLocals = nL ∧ (tg_s X).vm.findClass own = some (tg_m X).cls ∧ tg_T (tg_a X) (tg_s X) ∧ va_K D.1 tg_cl (tg_TY D) (tg_s X) ∧ F ≤ (tg_R X).frames ∧ L ≤ (tg_R X).locals ∧ kc ≤ (tg_R X).cells ∧ ns ≤ (tg_R X).slots
/-- a writer's context: the heap is known up to the world's own cells -/
def tg_V (X : tg_X) : Prop := tg_Z X = va_S (tg_A X) (tg_s X).heap
/-- what a class's tables say -/
def tg_F (ci : Nat) (C : String) (T : u_T) (N : Nat) (ty : Nat → FieldType) : Prop := tg_cl[ci]? = some (C, T, N) ∧ (∀ w ∈ u_ws C T N, w ∈ tg_tbl) ∧ (∀ k, k < N → parseFieldDescriptor (T k).2.2.1 = some (ty k)) ∧ (∀ a, a < N → ∀ b, b < N → a ≠ b → (T a).2.1 ≠ (T b).2.1)
/-! pure words of the specifications -/
def tg_ck {β : Type} (i : Int32) (n : Nat) (k : Option β) : Option β := if i < 0 ∨ n ≤ i.toNatClampNeg then none else k
def tg_dz {β : Type} (y : Int32) (k : Option β) : Option β := if y = 0 then none else k
def tg_bz {β : Type} (v : Int32) (k : Option β) : Option β := if v = 0 ∨ v = 1 then k else none
def tg_nm {α β : Type} (x : α) (k : α → Option β) : Option β := k x
def tg_cp {β : Type} (sp dp n : Int32) (n0 n1 : Nat) (k : Option β) : Option β := if sp < 0 ∨ dp < 0 ∨ n < 0 ∨ n0 < sp.toNatClampNeg + n.toNatClampNeg ∨ n1 < dp.toNatClampNeg + n.toNatClampNeg then none else k
theorem tg_ck_e {β : Type} {i : Int32} {n : Nat} {k : Option β} {a : β} (h : tg_ck i n k = some a) : vp_in i n ∧ k = some a := by
  unfold tg_ck at h
  by_cases hc : i < 0 ∨ n ≤ i.toNatClampNeg
  · rw [if_pos hc] at h; cases h
  · rw [if_neg hc] at h; exact ⟨hc, h⟩
theorem tg_dz_e {β : Type} {y : Int32} {k : Option β} {a : β} (h : tg_dz y k = some a) : ¬ y = 0 ∧ k = some a := by
  unfold tg_dz at h
  by_cases hc : y = 0
  · rw [if_pos hc] at h; cases h
  · rw [if_neg hc] at h; exact ⟨hc, h⟩
theorem tg_nb {v : Int32} (h : v = 0 ∨ v = 1) : narrow .boolean (.int v) = .int v := by
  rcases h with rfl | rfl <;> rfl
theorem tg_bz_e {β : Type} {v : Int32} {k : Option β} {a : β} (h : tg_bz v k = some a) : narrow .boolean (.int v) = .int v ∧ k = some a := by
  unfold tg_bz at h
  by_cases hc : v = 0 ∨ v = 1
  · rw [if_pos hc] at h; exact ⟨tg_nb hc, h⟩
  · rw [if_neg hc] at h; cases h
theorem tg_nm_e {α β : Type} {x : α} {k : α → Option β} {a : β} (h : tg_nm x k = some a) : ∃ y : α, y = x ∧ k y = some a := ⟨x, rfl, h⟩
theorem tg_bd_e {α β : Type} {x : Option α} {k : α → Option β} {a : β} (h : Option.bind x k = some a) : ∃ y : α, x = some y ∧ k y = some a := by
  cases x with
  | none => cases h
  | some y => exact ⟨y, rfl, h⟩
theorem tg_cp_e {β : Type} {sp dp n : Int32} {n0 n1 : Nat} {k : Option β} {a : β} (h : tg_cp sp dp n n0 n1 k = some a) : (¬ sp < 0 ∧ ¬ dp < 0 ∧ ¬ n < 0 ∧ sp.toNatClampNeg + n.toNatClampNeg ≤ n0 ∧ dp.toNatClampNeg + n.toNatClampNeg ≤ n1) ∧ k = some a := by
  unfold tg_cp at h
  by_cases hc : sp < 0 ∨ dp < 0 ∨ n < 0 ∨ n0 < sp.toNatClampNeg + n.toNatClampNeg ∨ n1 < dp.toNatClampNeg + n.toNatClampNeg
  · rw [if_pos hc] at h; cases h
  · rw [if_neg hc] at h
    simp only [not_or, Nat.not_lt] at hc
    exact ⟨hc, h⟩
theorem tg_t {c : Prop} [Decidable c] {β : Type} {x y : Option β} {a : β} (h : c) (hs : (if c then x else y) = some a) : x = some a := by rwa [if_pos h] at hs
theorem tg_f {c : Prop} [Decidable c] {β : Type} {x y : Option β} {a : β} (h : ¬ c) (hs : (if c then x else y) = some a) : y = some a := by rwa [if_neg h] at hs
theorem tg_nf {c : Prop} [Decidable c] {β : Type} {x y : Option β} {a : β} (h : c) (hs : (if ¬ c then x else y) = some a) : y = some a := by rwa [if_neg (fun q => q h)] at hs

section TG
variable {X : tg_X} {D : tg_D} {nL k n : Nat} {ws ws' : va_W} {lv lv' : List (Nat × Value)} {pc : Nat} {st rest : List Value} {cc : ByteArray} {own : String} {F L kc ns : Nat}
theorem tg_nxt {pc' : Nat} (h : pc = pc') (kk : tg_G X D nL k n ws lv pc' st) : tg_G X D nL k n ws lv pc st := h ▸ kk
theorem tg_lsub (ks : List Nat) (h : lv_pick lv ks = lv') (kk : tg_G X D nL k n ws lv' pc st) : tg_G X D nL k n ws lv pc st := fun H locs ls hZ hP hD hl => kk H locs ls hZ hP hD (lv_sub hl ks h)
theorem tg_topi {x y : Int32} (h : y = x) (kk : tg_G X D nL k n ws lv pc (.int y :: rest)) : tg_G X D nL k n ws lv pc (.int x :: rest) := h ▸ kk
theorem tg_topl {x y : Int64} (h : y = x) (kk : tg_G X D nL k n ws lv pc (.long y :: rest)) : tg_G X D nL k n ws lv pc (.long x :: rest) := h ▸ kk
theorem tg_widen {k2 n2 : Nat} (h1 : k ≤ k2) (h2 : n ≤ n2) (kk : tg_G X D nL k2 n2 ws lv pc st) : tg_G X D nL k n ws lv pc st := fun H locs ls hZ hP hD hl => W.widen h1 h2 (kk H locs ls hZ hP hD hl)

theorem tg_iconst (C : tg_C X D nL cc own F L kc ns) {z : Int} {v : Int32} (hdg : decode cc pc = .ok (.iconst z, 1)) (hv : Int32.ofInt z = v) (kk : tg_G X D nL k n ws lv (pc + 1) (.int v :: st)) : tg_G X D nL k n ws lv pc st := fun H locs ls hZ hP hD hl => lv_iconst C.1 C.2.1 hdg hv (kk H locs ls hZ hP hD hl)
theorem tg_bipush (C : tg_C X D nL cc own F L kc ns) {z : Int} {v : Int32} (hdg : decode cc pc = .ok (.bipush z, 2)) (hv : (Int8.ofInt z).toInt32 = v) (kk : tg_G X D nL k n ws lv (pc + 2) (.int v :: st)) : tg_G X D nL k n ws lv pc st := fun H locs ls hZ hP hD hl => lv_bipush C.1 C.2.1 hdg hv (kk H locs ls hZ hP hD hl)
theorem tg_sipush (C : tg_C X D nL cc own F L kc ns) {z : Int} {v : Int32} (hdg : decode cc pc = .ok (.sipush z, 3)) (hv : (Int16.ofInt z).toInt32 = v) (kk : tg_G X D nL k n ws lv (pc + 3) (.int v :: st)) : tg_G X D nL k n ws lv pc st := fun H locs ls hZ hP hD hl => lv_sipush C.1 C.2.1 hdg hv (kk H locs ls hZ hP hD hl)
theorem tg_lconst (C : tg_C X D nL cc own F L kc ns) {z : Fin 2} {v : Int64} (hdg : decode cc pc = .ok (.lconst z, 1)) (hv : Int64.ofNat (z : Nat) = v) (kk : tg_G X D nL k n ws lv (pc + 1) (.long v :: st)) : tg_G X D nL k n ws lv pc st := fun H locs ls hZ hP hD hl => lv_lconst C.1 C.2.1 hdg hv (kk H locs ls hZ hP hD hl)
theorem tg_ldc (C : tg_C X D nL cc own F L kc ns) {ix : Nat} {v : Int32} (hm : Cond.constant own ix v ∈ tg_tbl) (hdg : decode cc pc = .ok (.ldc ix, 2)) (kk : tg_G X D nL k n ws lv (pc + 2) (.int v :: st)) : tg_G X D nL k n ws lv pc st := fun H locs ls hZ hP hD hl => lv_ldc C.1 C.2.1 C.2.2.2.1 (C.2.2.2.2.1 _ hm) hdg (kk H locs ls hZ hP hD hl)
theorem tg_ldcw (C : tg_C X D nL cc own F L kc ns) {ix : Nat} {v : Int32} (hm : Cond.constant own ix v ∈ tg_tbl) (hdg : decode cc pc = .ok (.ldc_w ix, 3)) (kk : tg_G X D nL k n ws lv (pc + 3) (.int v :: st)) : tg_G X D nL k n ws lv pc st := fun H locs ls hZ hP hD hl => lv_ldcw C.1 C.2.1 C.2.2.2.1 (C.2.2.2.2.1 _ hm) hdg (kk H locs ls hZ hP hD hl)
theorem tg_ldc2 (C : tg_C X D nL cc own F L kc ns) {ix : Nat} {v : Int64} (hm : Cond.constantLong own ix v ∈ tg_tbl) (hdg : decode cc pc = .ok (.ldc2_w ix, 3)) (kk : tg_G X D nL k n ws lv (pc + 3) (.long v :: st)) : tg_G X D nL k n ws lv pc st := fun H locs ls hZ hP hD hl => lv_ldc2 C.1 C.2.1 C.2.2.2.1 (C.2.2.2.2.1 _ hm) hdg (kk H locs ls hZ hP hD hl)
theorem tg_iload_n (C : tg_C X D nL cc own F L kc ns) {z : Fin 4} {i : Nat} {x : Int32} (hdg : decode cc pc = .ok (.iload_n z, 1)) (hi : (z : Nat) = i) (j : Nat) (hj : lv[j]? = some (i, .int x)) (kk : tg_G X D nL k n ws lv (pc + 1) (.int x :: st)) : tg_G X D nL k n ws lv pc st := fun H locs ls hZ hP hD hl => lv_iload_n C.1 C.2.1 hdg hi (lv_at hl j hj) (kk H locs ls hZ hP hD hl)
theorem tg_iload (C : tg_C X D nL cc own F L kc ns) {i : Nat} {x : Int32} (hdg : decode cc pc = .ok (.iload i, 2)) (j : Nat) (hj : lv[j]? = some (i, .int x)) (kk : tg_G X D nL k n ws lv (pc + 2) (.int x :: st)) : tg_G X D nL k n ws lv pc st := fun H locs ls hZ hP hD hl => lv_iload C.1 C.2.1 hdg (lv_at hl j hj) (kk H locs ls hZ hP hD hl)
theorem tg_lload_n (C : tg_C X D nL cc own F L kc ns) {z : Fin 4} {i : Nat} {x : Int64} (hdg : decode cc pc = .ok (.lload_n z, 1)) (hi : (z : Nat) = i) (j : Nat) (hj : lv[j]? = some (i, .long x)) (kk : tg_G X D nL k n ws lv (pc + 1) (.long x :: st)) : tg_G X D nL k n ws lv pc st := fun H locs ls hZ hP hD hl => lv_lload_n C.1 C.2.1 hdg hi (lv_at hl j hj) (kk H locs ls hZ hP hD hl)
theorem tg_lload (C : tg_C X D nL cc own F L kc ns) {i : Nat} {x : Int64} (hdg : decode cc pc = .ok (.lload i, 2)) (j : Nat) (hj : lv[j]? = some (i, .long x)) (kk : tg_G X D nL k n ws lv (pc + 2) (.long x :: st)) : tg_G X D nL k n ws lv pc st := fun H locs ls hZ hP hD hl => lv_lload C.1 C.2.1 hdg (lv_at hl j hj) (kk H locs ls hZ hP hD hl)
theorem tg_aload_n (C : tg_C X D nL cc own F L kc ns) {z : Fin 4} {i : Nat} {x : Nat} (hdg : decode cc pc = .ok (.aload_n z, 1)) (hi : (z : Nat) = i) (j : Nat) (hj : lv[j]? = some (i, .ref x)) (kk : tg_G X D nL k n ws lv (pc + 1) (.ref x :: st)) : tg_G X D nL k n ws lv pc st := fun H locs ls hZ hP hD hl => lv_aload_n C.1 C.2.1 hdg hi (lv_at hl j hj) (kk H locs ls hZ hP hD hl)
theorem tg_aload (C : tg_C X D nL cc own F L kc ns) {i : Nat} {x : Nat} (hdg : decode cc pc = .ok (.aload i, 2)) (j : Nat) (hj : lv[j]? = some (i, .ref x)) (kk : tg_G X D nL k n ws lv (pc + 2) (.ref x :: st)) : tg_G X D nL k n ws lv pc st := fun H locs ls hZ hP hD hl => lv_aload C.1 C.2.1 hdg (lv_at hl j hj) (kk H locs ls hZ hP hD hl)
theorem tg_istore_n (C : tg_C X D nL cc own F L kc ns) {z : Fin 4} {i : Nat} {x : Int32} (hdg : decode cc pc = .ok (.istore_n z, 1)) (hi : (z : Nat) = i) (hn : i < nL) (hv : (i, Value.int x) :: lv.filter (fun q => !(q.1 == i) && !(q.1 + 1 == i && q.2.category == 2)) = lv') (kk : tg_G X D nL k n ws lv' (pc + 1) st) : tg_G X D nL k n ws lv pc (.int x :: st) := fun H locs ls hZ hP hD hl => lv_istore_n C.1 C.2.1 hdg hi hl hn hv (fun ls' hl' => kk H locs ls' hZ hP hD hl')
theorem tg_istore (C : tg_C X D nL cc own F L kc ns) {i : Nat} {x : Int32} (hdg : decode cc pc = .ok (.istore i, 2)) (hn : i < nL) (hv : (i, Value.int x) :: lv.filter (fun q => !(q.1 == i) && !(q.1 + 1 == i && q.2.category == 2)) = lv') (kk : tg_G X D nL k n ws lv' (pc + 2) st) : tg_G X D nL k n ws lv pc (.int x :: st) := fun H locs ls hZ hP hD hl => lv_istore C.1 C.2.1 hdg hl hn hv (fun ls' hl' => kk H locs ls' hZ hP hD hl')
theorem tg_astore_n (C : tg_C X D nL cc own F L kc ns) {z : Fin 4} {i : Nat} {x : Nat} (hdg : decode cc pc = .ok (.astore_n z, 1)) (hi : (z : Nat) = i) (hn : i < nL) (hv : (i, Value.ref x) :: lv.filter (fun q => !(q.1 == i) && !(q.1 + 1 == i && q.2.category == 2)) = lv') (kk : tg_G X D nL k n ws lv' (pc + 1) st) : tg_G X D nL k n ws lv pc (.ref x :: st) := fun H locs ls hZ hP hD hl => lv_astore_n C.1 C.2.1 hdg hi hl hn hv (fun ls' hl' => kk H locs ls' hZ hP hD hl')
theorem tg_astore (C : tg_C X D nL cc own F L kc ns) {i : Nat} {x : Nat} (hdg : decode cc pc = .ok (.astore i, 2)) (hn : i < nL) (hv : (i, Value.ref x) :: lv.filter (fun q => !(q.1 == i) && !(q.1 + 1 == i && q.2.category == 2)) = lv') (kk : tg_G X D nL k n ws lv' (pc + 2) st) : tg_G X D nL k n ws lv pc (.ref x :: st) := fun H locs ls hZ hP hD hl => lv_astore C.1 C.2.1 hdg hl hn hv (fun ls' hl' => kk H locs ls' hZ hP hD hl')
theorem tg_iinc (C : tg_C X D nL cc own F L kc ns) {i : Nat} {z : Int} {x v : Int32} (hdg : decode cc pc = .ok (.iinc i z, 3)) (j : Nat) (hj : lv[j]? = some (i, .int x)) (hv : x + Int32.ofInt z = v) (hn : i < nL) (hw : (i, Value.int v) :: lv.filter (fun q => !(q.1 == i) && !(q.1 + 1 == i && q.2.category == 2)) = lv') (kk : tg_G X D nL k n ws lv' (pc + 3) st) : tg_G X D nL k n ws lv pc st := fun H locs ls hZ hP hD hl => lv_iinc C.1 C.2.1 hdg hl hj hv hn hw (fun ls' hl' => kk H locs ls' hZ hP hD hl')
theorem tg_iadd (C : tg_C X D nL cc own F L kc ns) {x y : Int32} (hdg : decode cc pc = .ok (.iadd, 1)) (kk : tg_G X D nL k n ws lv (pc + 1) (.int (x + y) :: st)) : tg_G X D nL k n ws lv pc (.int y :: .int x :: st) := fun H locs ls hZ hP hD hl => lv_iadd C.1 C.2.1 hdg (kk H locs ls hZ hP hD hl)
theorem tg_isub (C : tg_C X D nL cc own F L kc ns) {x y : Int32} (hdg : decode cc pc = .ok (.isub, 1)) (kk : tg_G X D nL k n ws lv (pc + 1) (.int (x - y) :: st)) : tg_G X D nL k n ws lv pc (.int y :: .int x :: st) := fun H locs ls hZ hP hD hl => lv_isub C.1 C.2.1 hdg (kk H locs ls hZ hP hD hl)
theorem tg_imul (C : tg_C X D nL cc own F L kc ns) {x y : Int32} (hdg : decode cc pc = .ok (.imul, 1)) (kk : tg_G X D nL k n ws lv (pc + 1) (.int (x * y) :: st)) : tg_G X D nL k n ws lv pc (.int y :: .int x :: st) := fun H locs ls hZ hP hD hl => lv_imul C.1 C.2.1 hdg (kk H locs ls hZ hP hD hl)
theorem tg_iand (C : tg_C X D nL cc own F L kc ns) {x y : Int32} (hdg : decode cc pc = .ok (.iand, 1)) (kk : tg_G X D nL k n ws lv (pc + 1) (.int (x &&& y) :: st)) : tg_G X D nL k n ws lv pc (.int y :: .int x :: st) := fun H locs ls hZ hP hD hl => lv_iand C.1 C.2.1 hdg (kk H locs ls hZ hP hD hl)
theorem tg_ior (C : tg_C X D nL cc own F L kc ns) {x y : Int32} (hdg : decode cc pc = .ok (.ior, 1)) (kk : tg_G X D nL k n ws lv (pc + 1) (.int (x ||| y) :: st)) : tg_G X D nL k n ws lv pc (.int y :: .int x :: st) := fun H locs ls hZ hP hD hl => lv_ior C.1 C.2.1 hdg (kk H locs ls hZ hP hD hl)
theorem tg_ixor (C : tg_C X D nL cc own F L kc ns) {x y : Int32} (hdg : decode cc pc = .ok (.ixor, 1)) (kk : tg_G X D nL k n ws lv (pc + 1) (.int (x ^^^ y) :: st)) : tg_G X D nL k n ws lv pc (.int y :: .int x :: st) := fun H locs ls hZ hP hD hl => lv_ixor C.1 C.2.1 hdg (kk H locs ls hZ hP hD hl)
theorem tg_ishl (C : tg_C X D nL cc own F L kc ns) {x y : Int32} (hdg : decode cc pc = .ok (.ishl, 1)) (kk : tg_G X D nL k n ws lv (pc + 1) (.int (x <<< (y &&& 31)) :: st)) : tg_G X D nL k n ws lv pc (.int y :: .int x :: st) := fun H locs ls hZ hP hD hl => lv_ishl C.1 C.2.1 hdg (kk H locs ls hZ hP hD hl)
theorem tg_ishr (C : tg_C X D nL cc own F L kc ns) {x y : Int32} (hdg : decode cc pc = .ok (.ishr, 1)) (kk : tg_G X D nL k n ws lv (pc + 1) (.int (x >>> (y &&& 31)) :: st)) : tg_G X D nL k n ws lv pc (.int y :: .int x :: st) := fun H locs ls hZ hP hD hl => lv_ishr C.1 C.2.1 hdg (kk H locs ls hZ hP hD hl)
theorem tg_iushr (C : tg_C X D nL cc own F L kc ns) {x y : Int32} (hdg : decode cc pc = .ok (.iushr, 1)) (kk : tg_G X D nL k n ws lv (pc + 1) (.int (x.toUInt32 >>> (y.toUInt32 &&& Int32.toUInt32 31)).toInt32 :: st)) : tg_G X D nL k n ws lv pc (.int y :: .int x :: st) := fun H locs ls hZ hP hD hl => lv_iushr C.1 C.2.1 hdg rfl (kk H locs ls hZ hP hD hl)
theorem tg_idiv (C : tg_C X D nL cc own F L kc ns) {x y : Int32} (hne : ¬ y = 0) (hdg : decode cc pc = .ok (.idiv, 1)) (kk : tg_G X D nL k n ws lv (pc + 1) (.int (x / y) :: st)) : tg_G X D nL k n ws lv pc (.int y :: .int x :: st) := fun H locs ls hZ hP hD hl => lv_idiv C.1 C.2.1 hdg hne (kk H locs ls hZ hP hD hl)
theorem tg_irem (C : tg_C X D nL cc own F L kc ns) {x y : Int32} (hne : ¬ y = 0) (hdg : decode cc pc = .ok (.irem, 1)) (kk : tg_G X D nL k n ws lv (pc + 1) (.int (x - x / y * y) :: st)) : tg_G X D nL k n ws lv pc (.int y :: .int x :: st) := fun H locs ls hZ hP hD hl => lv_irem C.1 C.2.1 hdg hne (kk H locs ls hZ hP hD hl)
theorem tg_ineg (C : tg_C X D nL cc own F L kc ns) {x : Int32} (hdg : decode cc pc = .ok (.ineg, 1)) (kk : tg_G X D nL k n ws lv (pc + 1) (.int (-x) :: st)) : tg_G X D nL k n ws lv pc (.int x :: st) := fun H locs ls hZ hP hD hl => lv_ineg C.1 C.2.1 hdg (kk H locs ls hZ hP hD hl)
theorem tg_ladd (C : tg_C X D nL cc own F L kc ns) {x y : Int64} (hdg : decode cc pc = .ok (.ladd, 1)) (kk : tg_G X D nL k n ws lv (pc + 1) (.long (x + y) :: st)) : tg_G X D nL k n ws lv pc (.long y :: .long x :: st) := fun H locs ls hZ hP hD hl => lv_ladd C.1 C.2.1 hdg (kk H locs ls hZ hP hD hl)
theorem tg_lcmp (C : tg_C X D nL cc own F L kc ns) {x y : Int64} (hdg : decode cc pc = .ok (.lcmp, 1)) (kk : tg_G X D nL k n ws lv (pc + 1) (.int (lg_cmp x y) :: st)) : tg_G X D nL k n ws lv pc (.long y :: .long x :: st) := fun H locs ls hZ hP hD hl => W.lcmp C.1 C.2.1 hdg (kk H locs ls hZ hP hD hl)
theorem tg_i2l (C : tg_C X D nL cc own F L kc ns) {x : Int32} (hdg : decode cc pc = .ok (.i2l, 1)) (kk : tg_G X D nL k n ws lv (pc + 1) (.long x.toInt64 :: st)) : tg_G X D nL k n ws lv pc (.int x :: st) := fun H locs ls hZ hP hD hl => lv_i2l C.1 C.2.1 hdg rfl (kk H locs ls hZ hP hD hl)
theorem tg_i2c (C : tg_C X D nL cc own F L kc ns) {x : Int32} (hdg : decode cc pc = .ok (.i2c, 1)) (kk : tg_G X D nL k n ws lv (pc + 1) (.int (x.toUInt32 % 65536).toInt32 :: st)) : tg_G X D nL k n ws lv pc (.int x :: st) := fun H locs ls hZ hP hD hl => lv_i2c C.1 C.2.1 hdg rfl (kk H locs ls hZ hP hD hl)
theorem tg_dup (C : tg_C X D nL cc own F L kc ns) {v : Value} (hdg : decode cc pc = .ok (.dup, 1)) (hv : v.category = 1) (kk : tg_G X D nL k n ws lv (pc + 1) (v :: v :: st)) : tg_G X D nL k n ws lv pc (v :: st) := fun H locs ls hZ hP hD hl => lv_dup C.1 C.2.1 hdg hv (kk H locs ls hZ hP hD hl)
theorem tg_dup2 (C : tg_C X D nL cc own F L kc ns) {v u : Value} (hdg : decode cc pc = .ok (.dup2, 1)) (hv : v.category = 1) (hu : u.category = 1) (kk : tg_G X D nL k n ws lv (pc + 1) (v :: u :: v :: u :: st)) : tg_G X D nL k n ws lv pc (v :: u :: st) := fun H locs ls hZ hP hD hl => lv_dup2_11 C.1 C.2.1 hdg hv hu (kk H locs ls hZ hP hD hl)
theorem tg_goto (C : tg_C X D nL cc own F L kc ns) {off : Int} {tgt : Nat} (hdg : decode cc pc = .ok (.goto off, 3)) (ht : (pc : Int) + off = (tgt : Int)) (kk : tg_G X D nL k n ws lv tgt st) : tg_G X D nL k n ws lv pc st := fun H locs ls hZ hP hD hl => lv_goto C.1 C.2.1 hdg ht (kk H locs ls hZ hP hD hl)
theorem tg_if_eq (C : tg_C X D nL cc own F L kc ns) {x : Int32} {off : Int} {tgt : Nat} (hdg : decode cc pc = .ok (.ifCond .eq off, 3)) (ht : (pc : Int) + off = (tgt : Int)) (kt : x = 0 → tg_G X D nL k n ws lv tgt st) (kf : ¬ x = 0 → tg_G X D nL k n ws lv (pc + 3) st) : tg_G X D nL k n ws lv pc (.int x :: st) := fun H locs ls hZ hP hD hl => lv_if_eq C.1 C.2.1 hdg ht (fun h => kt h H locs ls hZ hP hD hl) (fun h => kf h H locs ls hZ hP hD hl)
theorem tg_icmp_eq (C : tg_C X D nL cc own F L kc ns) {x y : Int32} {off : Int} {tgt : Nat} (hdg : decode cc pc = .ok (.if_icmp .eq off, 3)) (ht : (pc : Int) + off = (tgt : Int)) (kt : x = y → tg_G X D nL k n ws lv tgt st) (kf : ¬ x = y → tg_G X D nL k n ws lv (pc + 3) st) : tg_G X D nL k n ws lv pc (.int y :: .int x :: st) := fun H locs ls hZ hP hD hl => lv_icmp_eq C.1 C.2.1 hdg ht (fun h => kt h H locs ls hZ hP hD hl) (fun h => kf h H locs ls hZ hP hD hl)
theorem tg_if_ne (C : tg_C X D nL cc own F L kc ns) {x : Int32} {off : Int} {tgt : Nat} (hdg : decode cc pc = .ok (.ifCond .ne off, 3)) (ht : (pc : Int) + off = (tgt : Int)) (kt : ¬ x = 0 → tg_G X D nL k n ws lv tgt st) (kf : x = 0 → tg_G X D nL k n ws lv (pc + 3) st) : tg_G X D nL k n ws lv pc (.int x :: st) := fun H locs ls hZ hP hD hl => lv_if_ne C.1 C.2.1 hdg ht (fun h => kt h H locs ls hZ hP hD hl) (fun h => kf h H locs ls hZ hP hD hl)
theorem tg_icmp_ne (C : tg_C X D nL cc own F L kc ns) {x y : Int32} {off : Int} {tgt : Nat} (hdg : decode cc pc = .ok (.if_icmp .ne off, 3)) (ht : (pc : Int) + off = (tgt : Int)) (kt : ¬ x = y → tg_G X D nL k n ws lv tgt st) (kf : x = y → tg_G X D nL k n ws lv (pc + 3) st) : tg_G X D nL k n ws lv pc (.int y :: .int x :: st) := fun H locs ls hZ hP hD hl => lv_icmp_ne C.1 C.2.1 hdg ht (fun h => kt h H locs ls hZ hP hD hl) (fun h => kf h H locs ls hZ hP hD hl)
theorem tg_if_lt (C : tg_C X D nL cc own F L kc ns) {x : Int32} {off : Int} {tgt : Nat} (hdg : decode cc pc = .ok (.ifCond .lt off, 3)) (ht : (pc : Int) + off = (tgt : Int)) (kt : x < 0 → tg_G X D nL k n ws lv tgt st) (kf : ¬ x < 0 → tg_G X D nL k n ws lv (pc + 3) st) : tg_G X D nL k n ws lv pc (.int x :: st) := fun H locs ls hZ hP hD hl => lv_if_lt C.1 C.2.1 hdg ht (fun h => kt h H locs ls hZ hP hD hl) (fun h => kf h H locs ls hZ hP hD hl)
theorem tg_icmp_lt (C : tg_C X D nL cc own F L kc ns) {x y : Int32} {off : Int} {tgt : Nat} (hdg : decode cc pc = .ok (.if_icmp .lt off, 3)) (ht : (pc : Int) + off = (tgt : Int)) (kt : x < y → tg_G X D nL k n ws lv tgt st) (kf : ¬ x < y → tg_G X D nL k n ws lv (pc + 3) st) : tg_G X D nL k n ws lv pc (.int y :: .int x :: st) := fun H locs ls hZ hP hD hl => lv_icmp_lt C.1 C.2.1 hdg ht (fun h => kt h H locs ls hZ hP hD hl) (fun h => kf h H locs ls hZ hP hD hl)
theorem tg_if_ge (C : tg_C X D nL cc own F L kc ns) {x : Int32} {off : Int} {tgt : Nat} (hdg : decode cc pc = .ok (.ifCond .ge off, 3)) (ht : (pc : Int) + off = (tgt : Int)) (kt : 0 ≤ x → tg_G X D nL k n ws lv tgt st) (kf : ¬ 0 ≤ x → tg_G X D nL k n ws lv (pc + 3) st) : tg_G X D nL k n ws lv pc (.int x :: st) := fun H locs ls hZ hP hD hl => lv_if_ge C.1 C.2.1 hdg ht (fun h => kt h H locs ls hZ hP hD hl) (fun h => kf h H locs ls hZ hP hD hl)
theorem tg_icmp_ge (C : tg_C X D nL cc own F L kc ns) {x y : Int32} {off : Int} {tgt : Nat} (hdg : decode cc pc = .ok (.if_icmp .ge off, 3)) (ht : (pc : Int) + off = (tgt : Int)) (kt : y ≤ x → tg_G X D nL k n ws lv tgt st) (kf : ¬ y ≤ x → tg_G X D nL k n ws lv (pc + 3) st) : tg_G X D nL k n ws lv pc (.int y :: .int x :: st) := fun H locs ls hZ hP hD hl => lv_icmp_ge C.1 C.2.1 hdg ht (fun h => kt h H locs ls hZ hP hD hl) (fun h => kf h H locs ls hZ hP hD hl)
theorem tg_if_gt (C : tg_C X D nL cc own F L kc ns) {x : Int32} {off : Int} {tgt : Nat} (hdg : decode cc pc = .ok (.ifCond .gt off, 3)) (ht : (pc : Int) + off = (tgt : Int)) (kt : 0 < x → tg_G X D nL k n ws lv tgt st) (kf : ¬ 0 < x → tg_G X D nL k n ws lv (pc + 3) st) : tg_G X D nL k n ws lv pc (.int x :: st) := fun H locs ls hZ hP hD hl => lv_if_gt C.1 C.2.1 hdg ht (fun h => kt h H locs ls hZ hP hD hl) (fun h => kf h H locs ls hZ hP hD hl)
theorem tg_icmp_gt (C : tg_C X D nL cc own F L kc ns) {x y : Int32} {off : Int} {tgt : Nat} (hdg : decode cc pc = .ok (.if_icmp .gt off, 3)) (ht : (pc : Int) + off = (tgt : Int)) (kt : y < x → tg_G X D nL k n ws lv tgt st) (kf : ¬ y < x → tg_G X D nL k n ws lv (pc + 3) st) : tg_G X D nL k n ws lv pc (.int y :: .int x :: st) := fun H locs ls hZ hP hD hl => lv_icmp_gt C.1 C.2.1 hdg ht (fun h => kt h H locs ls hZ hP hD hl) (fun h => kf h H locs ls hZ hP hD hl)
theorem tg_if_le (C : tg_C X D nL cc own F L kc ns) {x : Int32} {off : Int} {tgt : Nat} (hdg : decode cc pc = .ok (.ifCond .le off, 3)) (ht : (pc : Int) + off = (tgt : Int)) (kt : x ≤ 0 → tg_G X D nL k n ws lv tgt st) (kf : ¬ x ≤ 0 → tg_G X D nL k n ws lv (pc + 3) st) : tg_G X D nL k n ws lv pc (.int x :: st) := fun H locs ls hZ hP hD hl => lv_if_le C.1 C.2.1 hdg ht (fun h => kt h H locs ls hZ hP hD hl) (fun h => kf h H locs ls hZ hP hD hl)
theorem tg_icmp_le (C : tg_C X D nL cc own F L kc ns) {x y : Int32} {off : Int} {tgt : Nat} (hdg : decode cc pc = .ok (.if_icmp .le off, 3)) (ht : (pc : Int) + off = (tgt : Int)) (kt : x ≤ y → tg_G X D nL k n ws lv tgt st) (kf : ¬ x ≤ y → tg_G X D nL k n ws lv (pc + 3) st) : tg_G X D nL k n ws lv pc (.int y :: .int x :: st) := fun H locs ls hZ hP hD hl => lv_icmp_le C.1 C.2.1 hdg ht (fun h => kt h H locs ls hZ hP hD hl) (fun h => kf h H locs ls hZ hP hD hl)
theorem tg_swIn (C : tg_C X D nL cc own F L kc ns) {dflt lo hi : Int} {offs : Array Int} {len : Nat} {x : Int32} {off : Int} {tgt : Nat} (v : Int32) (hx : x = v) (hdg : decode cc pc = .ok (.tableswitch dflt lo hi offs, len)) (h : ¬ v.toInt < lo ∧ ¬ hi < v.toInt ∧ offs[(v.toInt - lo).toNat]? = some off) (ht : (pc : Int) + off = (tgt : Int)) (kk : tg_G X D nL k n ws lv tgt st) : tg_G X D nL k n ws lv pc (.int x :: st) := by
  subst hx
  exact fun H locs ls hZ hP hD hl => lv_tableIn C.1 C.2.1 hdg h.1 h.2.1 h.2.2 ht (kk H locs ls hZ hP hD hl)
theorem tg_swOut (C : tg_C X D nL cc own F L kc ns) {dflt lo hi : Int} {offs : Array Int} {len : Nat} {x : Int32} {tgt : Nat} (h : x.toInt < lo ∨ hi < x.toInt) (hdg : decode cc pc = .ok (.tableswitch dflt lo hi offs, len)) (ht : (pc : Int) + dflt = (tgt : Int)) (kk : tg_G X D nL k n ws lv tgt st) : tg_G X D nL k n ws lv pc (.int x :: st) := fun H locs ls hZ hP hD hl => lv_tableOut C.1 C.2.1 hdg h ht (kk H locs ls hZ hP hD hl)
theorem tg_get (C : tg_C X D nL cc own F L kc ns) {ci N : Nat} {Cn : String} {T : u_T} {ty : Nat → FieldType} {a : Nat} {fs : List Value} {ix : Nat} {v : Value} (cf : tg_F ci Cn T N ty) (q0 : Nat) (he : ws[q0]? = some (a, .inr (ci, fs))) (f : Nat) (hf : f < N) (hm : Cond.fieldLink own ix (T f).1 (T f).2.1 (T f).2.2.1 ∈ tg_tbl) (hv : fs[f]? = some v) (hdg : decode cc pc = .ok (.getfield ix, 3)) (kk : tg_G X D nL k n ws lv (pc + 3) (v :: st)) : tg_G X D nL k n ws lv pc (.ref a :: st) := fun H locs ls hZ hP hD hl => va_get (D := D.1) (ci := ci) (v := v) (C := Cn) (T := T) (N := N) C.1 C.2.1 C.2.2.2.2.1 cf.2.1 C.2.2.2.1 C.2.2.2.2.2.1 hP q0 he cf.1 f hf (C.2.2.2.2.1 _ hm) (fun _ h9 => h9) hv hdg (kk H locs ls hZ hP hD hl)
theorem tg_put (C : tg_C X D nL cc own F L kc ns) (V : tg_V X) {ci N : Nat} {Cn : String} {T : u_T} {ty : Nat → FieldType} {a : Nat} {fs : List Value} {ix : Nat} {v : Value} (cf : tg_F ci Cn T N ty) (q0 : Nat) (he : ws[q0]? = some (a, .inr (ci, fs))) (f : Nat) (hf : f < N) (hm : Cond.fieldLink own ix (T f).1 (T f).2.1 (T f).2.2.1 ∈ tg_tbl) (hfin : (T f).2.2.2 = false) (hn : narrow (ty f) v = v) (hfit : fits (ty f) v = true) (hl9 : f < fs.length) (hw : ws.set q0 (a, .inr (ci, fs.set f v)) = ws') (hdg : decode cc pc = .ok (.putfield ix, 3)) (kk : tg_G X D nL k n ws' lv (pc + 3) st) : tg_G X D nL k n ws lv pc (v :: .ref a :: st) := by
  subst hw
  intro H locs ls hZ hP hD hl
  rw [V] at hZ
  exact va_put (D := D.1) (ci := ci) (v := v) (ty := ty f) (C := Cn) (T := T) (N := N) C.1 C.2.1 C.2.2.2.2.1 cf.2.1 ty cf.2.2.1 cf.2.2.2 C.2.2.2.1 C.2.2.2.2.2.1 hP hD hZ q0 he cf.1 f hf (C.2.2.2.2.1 _ hm) (fun _ h9 => h9) hfin (cf.2.2.1 f hf) hn hfit hl9 hdg (fun H1 locs1 hP1 hD1 hS1 => kk H1 locs1 ls (by rw [V]; exact hS1) hP1 hD1 hl)
theorem tg_putF (C : tg_C X D nL cc own F L kc ns) (V : tg_V X) (hin : (tg_h X).name = "<init>") {ci N : Nat} {Cn : String} {T : u_T} {ty : Nat → FieldType} {a : Nat} {fs : List Value} {ix : Nat} {v : Value} (cf : tg_F ci Cn T N ty) (q0 : Nat) (he : ws[q0]? = some (a, .inr (ci, fs))) (f : Nat) (hf : f < N) (hm : Cond.fieldLink own ix (T f).1 (T f).2.1 (T f).2.2.1 ∈ tg_tbl) (hfin : (T f).2.2.2 = true) (hdc : (T f).1 = own) (hn : narrow (ty f) v = v) (hfit : fits (ty f) v = true) (hl9 : f < fs.length) (hw : ws.set q0 (a, .inr (ci, fs.set f v)) = ws') (hdg : decode cc pc = .ok (.putfield ix, 3)) (kk : tg_G X D nL k n ws' lv (pc + 3) st) : tg_G X D nL k n ws lv pc (v :: .ref a :: st) := by
  subst hw
  intro H locs ls hZ hP hD hl
  rw [V] at hZ
  exact va_putF (D := D.1) (ci := ci) (v := v) (ty := ty f) (C := Cn) (T := T) (N := N) C.1 C.2.1 C.2.2.2.2.1 cf.2.1 ty cf.2.2.1 cf.2.2.2 C.2.2.2.1 C.2.2.2.2.2.1 hP hD hZ q0 he cf.1 f hf (C.2.2.2.2.1 _ hm) (fun _ h9 => h9) hfin hin hdc (cf.2.2.1 f hf) hn hfit hl9 hdg (fun H1 locs1 hP1 hD1 hS1 => kk H1 locs1 ls (by rw [V]; exact hS1) hP1 hD1 hl)
theorem tg_iald (C : tg_C X D nL cc own F L kc ns) {a : Nat} {cA : ClassId} {len : Nat} {f : Nat → Int32} {i : Int32} (q0 t0 : Nat) (ha : ws[q0]? = some (a, .inl (cA, len, .inl f))) (ht : (tg_TY D)[t0]? = some (cA, .int)) (hin : vp_in i len) (hdg : decode cc pc = .ok (.iaload, 1)) (kk : tg_G X D nL k n ws lv (pc + 1) (.int (f i.toNatClampNeg) :: st)) : tg_G X D nL k n ws lv pc (.int i :: .ref a :: st) := fun H locs ls hZ hP hD hl => va_iald C.1 C.2.1 C.2.2.2.2.2.1 hP q0 t0 ha ht hin hdg (kk H locs ls hZ hP hD hl)
theorem tg_zald (C : tg_C X D nL cc own F L kc ns) {a : Nat} {cA : ClassId} {len : Nat} {f : Nat → Int32} {i : Int32} (q0 t0 : Nat) (ha : ws[q0]? = some (a, .inl (cA, len, .inl f))) (ht : (tg_TY D)[t0]? = some (cA, .boolean)) (hin : vp_in i len) (hdg : decode cc pc = .ok (.baload, 1)) (kk : tg_G X D nL k n ws lv (pc + 1) (.int (f i.toNatClampNeg) :: st)) : tg_G X D nL k n ws lv pc (.int i :: .ref a :: st) := fun H locs ls hZ hP hD hl => va_zald C.1 C.2.1 C.2.2.2.2.2.1 hP q0 t0 ha ht hin hdg (kk H locs ls hZ hP hD hl)
theorem tg_cald (C : tg_C X D nL cc own F L kc ns) {a : Nat} {cA : ClassId} {len : Nat} {f : Nat → Int32} {i : Int32} (q0 t0 : Nat) (ha : ws[q0]? = some (a, .inl (cA, len, .inl f))) (ht : (tg_TY D)[t0]? = some (cA, .char)) (hin : vp_in i len) (hdg : decode cc pc = .ok (.caload, 1)) (kk : tg_G X D nL k n ws lv (pc + 1) (.int (f i.toNatClampNeg) :: st)) : tg_G X D nL k n ws lv pc (.int i :: .ref a :: st) := fun H locs ls hZ hP hD hl => va_cald C.1 C.2.1 C.2.2.2.2.2.1 hP q0 t0 ha ht hin hdg (kk H locs ls hZ hP hD hl)
theorem tg_iast (C : tg_C X D nL cc own F L kc ns) (V : tg_V X) {a : Nat} {cA : ClassId} {len : Nat} {f g : Nat → Int32} {i x : Int32} (q0 t0 : Nat) (ha : ws[q0]? = some (a, .inl (cA, len, .inl f))) (ht : (tg_TY D)[t0]? = some (cA, .int)) (hin : vp_in i len) (hg : g = upd f i.toNatClampNeg x) (hw : ws.set q0 (a, .inl (cA, len, .inl g)) = ws') (hdg : decode cc pc = .ok (.iastore, 1)) (kk : tg_G X D nL k n ws' lv (pc + 1) st) : tg_G X D nL k n ws lv pc (.int x :: .int i :: .ref a :: st) := by
  subst hw; subst hg
  intro H locs ls hZ hP hD hl
  rw [V] at hZ
  exact va_iast C.1 C.2.1 C.2.2.2.2.2.1 hP hD hZ q0 t0 ha ht hin hdg (fun H1 locs1 hP1 hD1 hS1 => kk H1 locs1 ls (by rw [V]; exact hS1) hP1 hD1 hl)
theorem tg_zast (C : tg_C X D nL cc own F L kc ns) (V : tg_V X) {a : Nat} {cA : ClassId} {len : Nat} {f g : Nat → Int32} {i x : Int32} (q0 t0 : Nat) (ha : ws[q0]? = some (a, .inl (cA, len, .inl f))) (ht : (tg_TY D)[t0]? = some (cA, .boolean)) (hin : vp_in i len) (hg : g = upd f i.toNatClampNeg (vp_nar .boolean x)) (hw : ws.set q0 (a, .inl (cA, len, .inl g)) = ws') (hdg : decode cc pc = .ok (.bastore, 1)) (kk : tg_G X D nL k n ws' lv (pc + 1) st) : tg_G X D nL k n ws lv pc (.int x :: .int i :: .ref a :: st) := by
  subst hw; subst hg
  intro H locs ls hZ hP hD hl
  rw [V] at hZ
  exact va_zast C.1 C.2.1 C.2.2.2.2.2.1 hP hD hZ q0 t0 ha ht hin hdg (fun H1 locs1 hP1 hD1 hS1 => kk H1 locs1 ls (by rw [V]; exact hS1) hP1 hD1 hl)
theorem tg_cast (C : tg_C X D nL cc own F L kc ns) (V : tg_V X) {a : Nat} {cA : ClassId} {len : Nat} {f g : Nat → Int32} {i x : Int32} (q0 t0 : Nat) (ha : ws[q0]? = some (a, .inl (cA, len, .inl f))) (ht : (tg_TY D)[t0]? = some (cA, .char)) (hin : vp_in i len) (hg : g = upd f i.toNatClampNeg (vp_nar .char x)) (hw : ws.set q0 (a, .inl (cA, len, .inl g)) = ws') (hdg : decode cc pc = .ok (.castore, 1)) (kk : tg_G X D nL k n ws' lv (pc + 1) st) : tg_G X D nL k n ws lv pc (.int x :: .int i :: .ref a :: st) := by
  subst hw; subst hg
  intro H locs ls hZ hP hD hl
  rw [V] at hZ
  exact va_cast C.1 C.2.1 C.2.2.2.2.2.1 hP hD hZ q0 t0 ha ht hin hdg (fun H1 locs1 hP1 hD1 hS1 => kk H1 locs1 ls (by rw [V]; exact hS1) hP1 hD1 hl)
theorem tg_alen (C : tg_C X D nL cc own F L kc ns) {a : Nat} {cA : ClassId} {x : vp_A} {ty : FieldType} {v : Int32} (q0 t0 : Nat) (ha : ws[q0]? = some (a, .inl (cA, x))) (ht : (tg_TY D)[t0]? = some (cA, ty)) (hv : Int32.ofNat x.1 = v) (hdg : decode cc pc = .ok (.arraylength, 1)) (kk : tg_G X D nL k n ws lv (pc + 1) (.int v :: st)) : tg_G X D nL k n ws lv pc (.ref a :: st) := fun H locs ls hZ hP hD hl => va_alen C.1 C.2.1 C.2.2.2.2.2.1 hP q0 t0 ha ht hv hdg (kk H locs ls hZ hP hD hl)
theorem tg_aald (C : tg_C X D nL cc own F L kc ns) {a b : Nat} {cA : ClassId} {Cn : String} {len : Nat} {f : Nat → Option Nat} {i : Int32} (q0 t0 : Nat) (ha : ws[q0]? = some (a, .inl (cA, len, .inr (.inr (.inr (.inr f)))))) (ht : (tg_TY D)[t0]? = some (cA, .object Cn)) (hin : vp_in i len) (hb : f i.toNatClampNeg = some b) (hdg : decode cc pc = .ok (.aaload, 1)) (kk : tg_G X D nL k n ws lv (pc + 1) (.ref b :: st)) : tg_G X D nL k n ws lv pc (.int i :: .ref a :: st) := fun H locs ls hZ hP hD hl => va_aldq C.1 C.2.1 C.2.2.2.2.2.1 hP q0 t0 ha ht hin hdg (by rw [hb]; exact kk H locs ls hZ hP hD hl)
theorem tg_copy (C : tg_C X D nL cc own F L kc ns) (V : tg_V X) {a a0 : Nat} {c0 c1 : ClassId} {n0 n1 : Nat} {f g g' : Nat → Int32} {sp dp len : Int32} {ix : Nat} (hm : Cond.methodLink own ix arraycopyName ∈ tg_tbl) (h1 : Cond.native arraycopyName ∈ tg_tbl) (h2 : Cond.static arraycopyName ∈ tg_tbl) (h3 : Cond.initialized "java/lang/System" ∈ tg_tbl) (q0 q1 t0 t1 : Nat) (ha0 : ws[q0]? = some (a0, .inl (c0, n0, .inl f))) (ha1 : ws[q1]? = some (a, .inl (c1, n1, .inl g))) (ht0 : (tg_TY D)[t0]? = some (c0, .int)) (ht1 : (tg_TY D)[t1]? = some (c1, .int)) (hc : ¬ sp < 0 ∧ ¬ dp < 0 ∧ ¬ len < 0 ∧ sp.toNatClampNeg + len.toNatClampNeg ≤ n0 ∧ dp.toNatClampNeg + len.toNatClampNeg ≤ n1) (hg : g' = va_cpy f g sp.toNatClampNeg dp.toNatClampNeg len.toNatClampNeg) (hw : ws.set q1 (a, .inl (c1, n1, .inl g')) = ws') (hF : 1 ≤ F ∧ (st.map fun v => v.category).sum + (nativeFrameWords "java/lang/System" "arraycopy" 5 + 11) ≤ L) (hdg : decode cc pc = .ok (.invokestatic ix, 3)) (kk : tg_G X D nL k n ws' lv (pc + 3) st) : tg_G X D nL k n ws lv pc (.int len :: .int dp :: .ref a :: .int sp :: .ref a0 :: st) := by
  subst hw; subst hg
  intro H locs ls hZ hP hD hl
  rw [V] at hZ
  obtain ⟨cx, cb, cm, co, ct, ck, cF, cL, -, -⟩ := C
  exact va_copyi cx cb (cm.trans hl.1.symm) co (ct _ hm) (ct _ h1) (ct _ h2) (ct _ h3) ck hP hD hZ q0 q1 t0 t1 ha0 ha1 ht0 ht1 rfl hc.1 hc.2.1 hc.2.2.1 hc.2.2.2.1 hc.2.2.2.2 (fun _ _ => rfl) (Nat.le_trans hF.1 cF) (Nat.le_trans hF.2 cL) hdg (fun H1 locs1 hP1 hD1 hS1 => kk H1 locs1 ls (by rw [V]; exact hS1) hP1 hD1 hl)
theorem tg_mmin (C : tg_C X D nL cc own F L kc ns) {x y : Int32} {ix : Nat} (hm : Cond.methodLink own ix Lib.Math.min.name ∈ tg_tbl) (h1 : Cond.static Lib.Math.min.name ∈ tg_tbl) (h2 : Cond.initialized "java/lang/Math" ∈ tg_tbl) (h3 : Cond.code Lib.Math.min.name Lib.Math.min.code 2 (some .int) ∈ tg_tbl) (hF : 1 ≤ F ∧ (st.map fun v => v.category).sum + 13 ≤ L ∧ k ≤ kc ∧ n ≤ ns) (hdg : decode cc pc = .ok (.invokestatic ix, 3)) (kk : tg_G X D nL k n ws lv (pc + 3) (.int (if y < x then y else x) :: st)) : tg_G X D nL k n ws lv pc (.int y :: .int x :: st) := by
  intro H locs ls hZ hP hD hl
  obtain ⟨cx, cb, cm, co, ct, ck, cF, cL, cK, cN⟩ := C
  exact va_mmin cx cb (cm.trans hl.1.symm) co (ct _ hm) (ct _ h1) (ct _ h2) (ct _ h3) (Nat.le_trans hF.1 cF) (Nat.le_trans hF.2.1 cL) (Nat.le_trans hF.2.2.1 cK) (Nat.le_trans hF.2.2.2 cN) hdg (kk H locs ls hZ hP hD hl)
theorem tg_mabs (C : tg_C X D nL cc own F L kc ns) {x : Int32} {ix : Nat} (hm : Cond.methodLink own ix Lib.Math.abs.name ∈ tg_tbl) (h1 : Cond.static Lib.Math.abs.name ∈ tg_tbl) (h2 : Cond.initialized "java/lang/Math" ∈ tg_tbl) (h3 : Cond.code Lib.Math.abs.name Lib.Math.abs.code 1 (some .int) ∈ tg_tbl) (hF : 1 ≤ F ∧ (st.map fun v => v.category).sum + 13 ≤ L ∧ k ≤ kc ∧ n ≤ ns) (hdg : decode cc pc = .ok (.invokestatic ix, 3)) (kk : tg_G X D nL k n ws lv (pc + 3) (.int (if 0 ≤ x then x else 0 - x) :: st)) : tg_G X D nL k n ws lv pc (.int x :: st) := by
  intro H locs ls hZ hP hD hl
  obtain ⟨cx, cb, cm, co, ct, ck, cF, cL, cK, cN⟩ := C
  exact va_mabs cx cb (cm.trans hl.1.symm) co (ct _ hm) (ct _ h1) (ct _ h2) (ct _ h3) (Nat.le_trans hF.1 cF) (Nat.le_trans hF.2.1 cL) (Nat.le_trans hF.2.2.1 cK) (Nat.le_trans hF.2.2.2 cN) hdg (kk H locs ls hZ hP hD hl)
/-- a method's end, by what it answers -/
def tg_Ei (X : tg_X) (D : tg_D) (k n : Nat) (cc : ByteArray) (ty : FieldType) (r : Int32) (ws : va_W) : Prop := ∀ (H : Heap) (locs : List Loc) (ls : Array Slot) (pc : Nat), tg_Z X H locs → va_P D.1 tg_cl ws H → va_D (tg_A X) ws → narrow ty (.int r) = .int r → decode cc pc = .ok (.ireturn, 1) → tg_W X H locs k n (F0 (tg_m X) pc ls [.int r])
def tg_El (X : tg_X) (D : tg_D) (k n : Nat) (cc : ByteArray) (r : Int64) (ws : va_W) : Prop := ∀ (H : Heap) (locs : List Loc) (ls : Array Slot) (pc : Nat), tg_Z X H locs → va_P D.1 tg_cl ws H → va_D (tg_A X) ws → decode cc pc = .ok (.lreturn, 1) → tg_W X H locs k n (F0 (tg_m X) pc ls [.long r])
def tg_Ev (X : tg_X) (D : tg_D) (k n : Nat) (cc : ByteArray) (ws : va_W) : Prop := ∀ (H : Heap) (locs : List Loc) (ls : Array Slot) (pc : Nat), tg_Z X H locs → va_P D.1 tg_cl ws H → va_D (tg_A X) ws → decode cc pc = .ok (.return_, 1) → tg_W X H locs k n (F0 (tg_m X) pc ls [])
theorem tg_iret {ty : FieldType} {r : Int32} (hE : tg_Ei X D k n cc ty r ws) (hn : narrow ty (.int r) = .int r) (hdg : decode cc pc = .ok (.ireturn, 1)) : tg_G X D nL k n ws lv pc [.int r] := fun H locs ls hZ hP hD _ => hE H locs ls pc hZ hP hD hn hdg
theorem tg_lret {r : Int64} (hE : tg_El X D k n cc r ws) (hdg : decode cc pc = .ok (.lreturn, 1)) : tg_G X D nL k n ws lv pc [.long r] := fun H locs ls hZ hP hD _ => hE H locs ls pc hZ hP hD hdg
theorem tg_vret (hE : tg_Ev X D k n cc ws) (hdg : decode cc pc = .ok (.return_, 1)) : tg_G X D nL k n ws lv pc [] := fun H locs ls hZ hP hD _ => hE H locs ls pc hZ hP hD hdg
end TG
/-! contracts -/
def tg_Pre (D : tg_D) (ws : va_W) (av : List Value) : Array Value → State → Prop := fun v U => v = av.toArray ∧ va_P D.1 tg_cl ws U.heap ∧ va_D (fun _ => True) ws ∧ va_K D.1 tg_cl (tg_TY D) U ∧ tg_T v U
theorem tg_Pre.blind {D : tg_D} {ws : va_W} {av : List Value} : FrameBlind (tg_Pre D ws av) := fun a U g mk h => ⟨h.1, h.2.1, h.2.2.1, va_K.moved (u := U) (U := U.calling g mk a) (Vm.Alike.refl U.vm) h.2.2.2.1, h.2.2.2.2.warm (U := U.calling g mk a) (State.WarmedH.refl U)⟩
def tg_Ad (ws : va_W) : Nat → Prop := fun q => ∃ (k : Nat) (e : va_E), ws[k]? = some (q, e)
/-- a writer's end: the answer, the world behind it, nothing else changed -/
def tg_Qe (v : Option Value) (D : tg_D) (ws' : va_W) (A : Nat → Prop) : Array Value → State → Outcome → State → Prop := fun _ st oc t => oc = .returned v ∧ va_P D.1 tg_cl ws' t.heap ∧ va_F A st t
theorem tg_self {ws : va_W} {A : Nat → Prop} (h : va_D A ws) : va_D (tg_Ad ws) ws := ⟨h.1, fun k q hk => ⟨k, q.2, hk⟩⟩
abbrev tg_rm (F L : Nat) : Room := { frames := F, cells := 0, slots := 0, locals := L }
theorem tg_metI {l : Launch} {y : MethodName} {cc : ByteArray} {maxL F L : Nat} {ty : FieldType} {D : tg_D} {ws : va_W} {av : List Value} {r : Int32} (hy : plainName y.cls = true) (hfit : (lg_sl av).length ≤ maxL)
    (walk : ∀ X : tg_X, tg_l X = l → tg_C X D maxL cc y.cls F L 0 0 → tg_Ei X D 0 0 cc ty r ws → tg_G X D maxL 0 0 ws (lv_args 0 av) 0 []) : Met l y [Cond.code y cc maxL (some ty)] (tg_rm F L) (tg_Pre D ws av) (vp_Si (fun r' => r' = r)) 0 0 (fun _ => False) := by
  refine Met.ofW (cc := cc) (maxL := maxL) (ret := some ty) hy rfl ?_
  intro p e s m args below meth c s₁ B hml hv
  obtain ⟨rfl, hP, hD, hK, hT⟩ := hv
  have hl := lv_entry av (n := maxL) hfit
  rw [lg_entry_eq]
  exact walk (p, l, e, tg_rm F L, s, m, av.toArray, below, meth, c, MQ below (vp_Si (fun r' => r' = r)) av.toArray s 0 0 (fun _ => False), fun _ => True, fun H locs => H = s.heap ∧ locs = []) rfl ⟨B.exec, B.bytes, hml, findClass_of_methodNamed B.named, hT, hK, Nat.le_refl _, Nat.le_refl _, Nat.le_refl _, Nat.le_refl _⟩
    (fun H locs ls pc hZ _ _ hn hdg => by
      obtain ⟨rfl, rfl⟩ := hZ
      show W p l e (tg_rm F L) s m av.toArray below meth c s.heap [] 0 0 (MQ below (vp_Si (fun r' => r' = r)) av.toArray s 0 0 (fun _ => False)) (F0 m pc ls [.int r])
      exact W.zret B.exec B.bytes B.returns hn (fun t ht _ => ⟨r, rfl, rfl, ht⟩) (fun q h => by cases h) hdg B.notSynchronized) s.heap [] _ ⟨rfl, rfl⟩ hP hD hl
theorem tg_metL {l : Launch} {y : MethodName} {cc : ByteArray} {maxL F L : Nat} {D : tg_D} {ws : va_W} {av : List Value} {r : Int64} (hy : plainName y.cls = true) (hfit : (lg_sl av).length ≤ maxL)
    (walk : ∀ X : tg_X, tg_l X = l → tg_C X D maxL cc y.cls F L 0 0 → tg_El X D 0 0 cc r ws → tg_G X D maxL 0 0 ws (lv_args 0 av) 0 []) : Met l y [Cond.code y cc maxL (some .long)] (tg_rm F L) (tg_Pre D ws av) (vp_Sl (fun r' => r' = r)) 0 0 (fun _ => False) := by
  refine Met.ofW (cc := cc) (maxL := maxL) (ret := some .long) hy rfl ?_
  intro p e s m args below meth c s₁ B hml hv
  obtain ⟨rfl, hP, hD, hK, hT⟩ := hv
  have hl := lv_entry av (n := maxL) hfit
  rw [lg_entry_eq]
  exact walk (p, l, e, tg_rm F L, s, m, av.toArray, below, meth, c, MQ below (vp_Sl (fun r' => r' = r)) av.toArray s 0 0 (fun _ => False), fun _ => True, fun H locs => H = s.heap ∧ locs = []) rfl ⟨B.exec, B.bytes, hml, findClass_of_methodNamed B.named, hT, hK, Nat.le_refl _, Nat.le_refl _, Nat.le_refl _, Nat.le_refl _⟩
    (fun H locs ls pc hZ _ _ hdg => by
      obtain ⟨rfl, rfl⟩ := hZ
      show W p l e (tg_rm F L) s m av.toArray below meth c s.heap [] 0 0 (MQ below (vp_Sl (fun r' => r' = r)) av.toArray s 0 0 (fun _ => False)) (F0 m pc ls [.long r])
      exact W.lret B.exec B.bytes B.returns (fun t ht _ => ⟨r, rfl, rfl, ht⟩) (fun q h => by cases h) hdg B.notSynchronized) s.heap [] _ ⟨rfl, rfl⟩ hP hD hl
theorem tg_eZ {A : Nat → Prop} {s : State} {H : Heap} {locs : List Loc} (h : va_S A s.heap H locs) : ∀ q ∈ locs, A q.base := h.2.2
theorem tg_metEi {l : Launch} {y : MethodName} {cc : ByteArray} {maxL F L : Nat} {ty : FieldType} {D : tg_D} {ws ws' : va_W} {av : List Value} {r : Int32} (hy : plainName y.cls = true) (hfit : (lg_sl av).length ≤ maxL)
    (walk : ∀ X : tg_X, tg_l X = l → tg_C X D maxL cc y.cls F L 0 0 → tg_V X → tg_Ei X D 0 0 cc ty r ws' → tg_G X D maxL 0 0 ws (lv_args 0 av) 0 []) : Met l y [Cond.code y cc maxL (some ty)] (tg_rm F L) (tg_Pre D ws av) (tg_Qe (some (.int r)) D ws' (tg_Ad ws)) 0 0 (tg_Ad ws) := by
  refine Met.ofW (cc := cc) (maxL := maxL) (ret := some ty) hy rfl ?_
  intro p e s m args below meth c s₁ B hml hv
  obtain ⟨rfl, hP, hD, hK, hT⟩ := hv
  have hl := lv_entry av (n := maxL) hfit
  rw [lg_entry_eq]
  exact walk (p, l, e, tg_rm F L, s, m, av.toArray, below, meth, c, MQ below (tg_Qe (some (.int r)) D ws' (tg_Ad ws)) av.toArray s 0 0 (tg_Ad ws), tg_Ad ws, va_S (tg_Ad ws) s.heap) rfl ⟨B.exec, B.bytes, hml, findClass_of_methodNamed B.named, hT, hK, Nat.le_refl _, Nat.le_refl _, Nat.le_refl _, Nat.le_refl _⟩ rfl
    (fun H locs ls pc hZ hP1 _ hn hdg => W.zret B.exec B.bytes B.returns hn (fun t ht _ => ⟨rfl, by rw [ht]; exact hP1, va_S.F hZ ht⟩) (tg_eZ hZ) hdg B.notSynchronized) s.heap [] _ va_S.rf hP (tg_self hD) hl
theorem tg_metEv {l : Launch} {y : MethodName} {cc : ByteArray} {maxL F L : Nat} {D : tg_D} {ws ws' : va_W} {av : List Value} (hy : plainName y.cls = true) (hfit : (lg_sl av).length ≤ maxL)
    (walk : ∀ X : tg_X, tg_l X = l → tg_C X D maxL cc y.cls F L 0 0 → tg_V X → tg_Ev X D 0 0 cc ws' → tg_G X D maxL 0 0 ws (lv_args 0 av) 0 []) : Met l y [Cond.code y cc maxL none] (tg_rm F L) (tg_Pre D ws av) (tg_Qe none D ws' (tg_Ad ws)) 0 0 (tg_Ad ws) := by
  refine Met.ofW (cc := cc) (maxL := maxL) (ret := none) hy rfl ?_
  intro p e s m args below meth c s₁ B hml hv
  obtain ⟨rfl, hP, hD, hK, hT⟩ := hv
  have hl := lv_entry av (n := maxL) hfit
  rw [lg_entry_eq]
  exact walk (p, l, e, tg_rm F L, s, m, av.toArray, below, meth, c, MQ below (tg_Qe none D ws' (tg_Ad ws)) av.toArray s 0 0 (tg_Ad ws), tg_Ad ws, va_S (tg_Ad ws) s.heap) rfl ⟨B.exec, B.bytes, hml, findClass_of_methodNamed B.named, hT, hK, Nat.le_refl _, Nat.le_refl _, Nat.le_refl _, Nat.le_refl _⟩ rfl
    (fun H locs ls pc hZ hP1 _ hdg => W.vret B.exec B.bytes B.returns (fun t ht _ => ⟨rfl, by rw [ht]; exact hP1, va_S.F hZ ht⟩) (tg_eZ hZ) hdg B.notSynchronized) s.heap [] _ va_S.rf hP (tg_self hD) hl
/-! a world with some of its cells written over -/
def tg_ov : va_W → List Nat → va_W → va_W
  | ws, i :: is, e :: es => tg_ov (ws.set i e) is es
  | ws, _, _ => ws
theorem tg_ov_mem : ∀ (is : List Nat) (es ws : va_W), is.length = es.length → ∀ (k : Nat) (q : Nat × va_E), (tg_ov ws is es)[k]? = some q → (k ∉ is ∧ ws[k]? = some q) ∨ q ∈ es
  | [], [], ws, _, k, q, h => Or.inl ⟨List.not_mem_nil, h⟩
  | i :: is, e :: es, ws, hlen, k, q, h => by
    rcases tg_ov_mem is es (ws.set i e) (by simpa using hlen) k q h with ⟨h1, h2⟩ | h1
    · by_cases hk : k = i
      · subst hk
        rw [List.getElem?_set] at h2
        split at h2
        · split at h2
          · cases h2; exact Or.inr List.mem_cons_self
          · cases h2
        · exact absurd rfl (by assumption)
      · rw [List.getElem?_set_ne (Ne.symm hk)] at h2
        exact Or.inl ⟨fun hm => (List.mem_cons.mp hm).elim hk h1, h2⟩
    · exact Or.inr (List.mem_cons_of_mem _ h1)
theorem tg_pick {is : List Nat} {ws w : va_W} (hs : is.map (fun i => ws[i]?) = w.map some) {k : Nat} {q : Nat × va_E} (hq : w[k]? = some q) : ∃ i, is[k]? = some i ∧ ws[i]? = some q := by
  have h1 : (is.map (fun i => ws[i]?))[k]? = some (some q) := by rw [hs, List.getElem?_map, hq]; rfl
  rw [List.getElem?_map] at h1
  cases hi : is[k]? with
  | none => rw [hi] at h1; cases h1
  | some i => rw [hi] at h1; exact ⟨i, rfl, Option.some.inj h1⟩
theorem tg_D_congr {A : Nat → Prop} {ws ws' : va_W} (h : ws'.map (fun q => q.1) = ws.map (fun q => q.1)) (hD : va_D A ws) : va_D A ws' := by
  have key : ∀ (k : Nat) (q : Nat × va_E), ws'[k]? = some q → ∃ q0, ws[k]? = some q0 ∧ q0.1 = q.1 := by
    intro k q hk
    have h1 : (ws'.map (fun q => q.1))[k]? = some q.1 := by rw [List.getElem?_map, hk]; rfl
    rw [h, List.getElem?_map] at h1
    cases hi : ws[k]? with
    | none => rw [hi] at h1; cases h1
    | some q0 => rw [hi] at h1; exact ⟨q0, rfl, Option.some.inj h1⟩
  refine ⟨fun i j x y hi hj hxy => ?_, fun k q hk => ?_⟩
  · obtain ⟨x0, h1, h2⟩ := key i x hi
    obtain ⟨y0, h3, h4⟩ := key j y hj
    exact hD.1 i j x0 y0 h1 h3 (h2.trans (hxy.trans h4.symm))
  · obtain ⟨q0, h1, h2⟩ := key k q hk
    rw [← h2]
    exact hD.2 k q0 h1
theorem tg_ov_P {A : Nat → Prop} {D : va_G} {ws wc wc' : va_W} {H H1 : Heap} {isC : List Nat} (hP : va_P D tg_cl ws H) (hD : va_D A ws) (hC : isC.map (fun i => ws[i]?) = wc.map some) (hlen : isC.length = wc'.length) (hk : ∀ q : Nat, q < H.size → ¬ tg_Ad wc q → H1[q]? = H[q]?) (hP1 : va_P D tg_cl wc' H1) : va_P D tg_cl (tg_ov ws isC wc') H1 := by
  intro k q hq
  rcases tg_ov_mem isC wc' ws hlen k q hq with ⟨h1, h2⟩ | h1
  · refine (hP k q h2).kept (hk q.1 (hP k q h2).lt ?_)
    rintro ⟨j, e, hj⟩
    obtain ⟨i, g1, g2⟩ := tg_pick hC hj
    have hik := hD.1 i k (q.1, e) q g2 h2 rfl
    subst hik
    exact h1 (List.mem_of_getElem? g1)
  · obtain ⟨j, hj⟩ := List.getElem?_of_mem h1
    exact hP1 j q hj
/-- what the tables say of a method that is called: an instance's, a static one -/
def tg_MV (C : String) (y : MethodName) (bytes : ByteArray) (maxL : Nat) (ret : Option FieldType) (np : Nat) : Prop := Cond.instanceMethod y ∈ tg_tbl ∧ Cond.selects C y y ∈ tg_tbl ∧ Cond.initialized y.cls ∈ tg_tbl ∧ Cond.code y bytes maxL ret ∈ tg_tbl ∧ y.cls ≠ "java/lang/invoke/MethodHandle" ∧ y.cls ≠ "java/lang/invoke/VarHandle" ∧ (parseMethodDescriptor y.desc).map (fun d => d.parameters.length) = some np
def tg_MS (y : MethodName) (bytes : ByteArray) (maxL : Nat) (ret : Option FieldType) (np : Nat) : Prop := Cond.static y ∈ tg_tbl ∧ Cond.initialized y.cls ∈ tg_tbl ∧ Cond.code y bytes maxL ret ∈ tg_tbl ∧ y.cls ≠ "java/lang/invoke/MethodHandle" ∧ y.cls ≠ "java/lang/invoke/VarHandle" ∧ (parseMethodDescriptor y.desc).map (fun d => d.parameters.length) = some np
theorem tg_good {y : MethodName} {bytes : ByteArray} {maxL : Nat} {ret : Option FieldType} (h : Cond.code y bytes maxL ret ∈ tg_tbl) : GoodIn tg_tbl [Cond.code y bytes maxL ret] := fun w hw => by
  rw [List.mem_singleton.mp hw]
  exact ⟨h, Or.inl rfl⟩
section TGC
variable {X : tg_X} {D : tg_D} {nL k n : Nat} {ws ws' wc wc' : va_W} {lv lv' : List (Nat × Value)} {pc : Nat} {st rest As : List Value} {cc bytes : ByteArray} {own Cn : String} {F L kc ns maxL np ix b ci f2 l2 : Nat} {y : MethodName} {ret : Option FieldType} {fs : List Value} {T : u_T × Nat}
theorem tg_preV {H : Heap} (hP : va_P D.1 tg_cl ws H) (hD : va_D (tg_A X) ws) (C : tg_C X D nL cc own F L kc ns) (isC : List Nat) (hC : isC.map (fun i => ws[i]?) = wc.map some) (hnd : va_nd isC = true) {av : List Value} : ∀ U : State, U.heap = H → (tg_s X).WarmedH U.vm → tg_Pre D wc av av.toArray U := by
  intro U hU hW
  refine ⟨rfl, ?_, ?_, va_K.moved hW.alike C.2.2.2.2.2.1, C.2.2.2.2.1.warm hW⟩
  · rw [hU]
    intro j q hq
    obtain ⟨i, -, g2⟩ := tg_pick hC hq
    exact hP i q g2
  · exact (hD.sub isC hnd hC).weaken (fun _ _ _ _ => trivial)
theorem tg_cB (C : tg_C X D nL cc own F L kc ns) (hm : Cond.methodLink own ix y ∈ tg_tbl) (h2 : Cond.initialized y.cls ∈ tg_tbl) (h3 : Cond.code y bytes maxL ret ∈ tg_tbl) (hd : y.cls ≠ "java/lang/invoke/MethodHandle" ∧ y.cls ≠ "java/lang/invoke/VarHandle" ∧ (parseMethodDescriptor y.desc).map (fun d => d.parameters.length) = some np) (hF : f2 + 1 ≤ F ∧ 8 + (maxL + 11) + l2 ≤ L) : CallB (tg_R X) (tg_s X) (tg_a X) own ix y bytes maxL ret [Cond.code y bytes maxL ret] (tg_rm f2 l2) 0 0 np :=
  callB_of np C.2.2.2.2.1 (tg_good h3) rfl rfl rfl (C.2.2.2.2.1 _ h2) (C.2.2.2.2.1 _ hm) hd ⟨Nat.le_trans hF.1 C.2.2.2.2.2.2.1, Nat.le_trans hF.2 C.2.2.2.2.2.2.2.1⟩
theorem tg_cN {host : String} (C : tg_C X D nL cc own F L kc ns) (hm : Cond.methodLinkNest own ix y host ∈ tg_tbl) (h2 : Cond.initialized y.cls ∈ tg_tbl) (h3 : Cond.code y bytes maxL ret ∈ tg_tbl) (hd : y.cls ≠ "java/lang/invoke/MethodHandle" ∧ y.cls ≠ "java/lang/invoke/VarHandle" ∧ (parseMethodDescriptor y.desc).map (fun d => d.parameters.length) = some np) (hF : f2 + 1 ≤ F ∧ 8 + (maxL + 11) + l2 ≤ L) : va_CN (tg_R X) (tg_s X) (tg_a X) own ix y host bytes maxL ret [Cond.code y bytes maxL ret] (tg_rm f2 l2) 0 0 np :=
  va_cnB np C.2.2.2.2.1 (tg_good h3) rfl rfl rfl (va_Nw.of rfl (C.2.2.2.2.1 _ hm)) (C.2.2.2.2.1 _ h2) hd ⟨Nat.le_trans hF.1 C.2.2.2.2.2.2.1, Nat.le_trans hF.2 C.2.2.2.2.2.2.2.1⟩
theorem tg_recv {H : Heap} (C : tg_C X D nL cc own F L kc ns) (hP : va_P D.1 tg_cl ws H) (isC : List Nat) (hC : isC.map (fun i => ws[i]?) = wc.map some) (hb : wc[0]? = some (b, .inr (ci, fs))) (hcl : tg_cl[ci]? = some (Cn, T)) : ∃ cell : Cell, H[b]? = some cell ∧ cell.vm.isStatics = false ∧ (tg_s X).vm.findClass Cn = some cell.cls := by
  obtain ⟨i, -, g2⟩ := tg_pick hC hb
  exact va_recv C.2.2.2.2.2.1 hP hcl g2
/-- a reader is called on an object -/
theorem tg_pV {l : Launch} {ty : FieldType} {r : Int32} (C : tg_C X D nL cc own F L kc ns) (hl0 : tg_l X = l) (hM : Met l y [Cond.code y bytes maxL (some ty)] (tg_rm f2 l2) (tg_Pre D wc (.ref b :: As)) (vp_Si (fun r' => r' = r)) 0 0 (fun _ => False)) (hm : Cond.methodLink own ix y ∈ tg_tbl) (ce : tg_MV Cn y bytes maxL (some ty) np) (hF : f2 + 1 ≤ F ∧ 8 + (maxL + 11) + l2 ≤ L ∧ k ≤ kc ∧ n ≤ ns) (isC : List Nat) (hC : isC.map (fun i => ws[i]?) = wc.map some) (hnd : va_nd isC = true) (hb : wc[0]? = some (b, .inr (ci, fs))) (hcl : tg_cl[ci]? = some (Cn, T)) (hn : As.length = np) (hst : st = As.reverse ++ .ref b :: rest) (hW : (rest.map fun v => v.category).sum ≤ 8) (hdg : decode cc pc = .ok (.invokevirtual ix, 3)) (kk : tg_G X D nL k n ws lv (pc + 3) (.int r :: rest)) : tg_G X D nL k n ws lv pc st := by
  subst hl0
  intro H locs ls hZ hP hD hl
  exact vp_callSi (va_Run.run (va_runV (As := As) (rest := rest) ⟨C.1, C.2.1, C.2.2.1, C.2.2.2.1, C.2.2.2.2.1⟩ hM ⟨tg_cB C hm ce.2.2.1 ce.2.2.2.1 ce.2.2.2.2 ⟨hF.1, hF.2.1⟩, C.2.2.2.2.1 _ ce.1, C.2.2.2.2.1 _ ce.2.1⟩ ⟨tg_Pre.blind, tg_recv C hP isC hC hb hcl, tg_preV hP hD C isC hC hnd⟩ rfl hn hl.1 hst (lv_room hW) hdg ⟨Nat.le_trans hF.2.2.1 C.2.2.2.2.2.2.2.2.1, Nat.le_trans hF.2.2.2 C.2.2.2.2.2.2.2.2.2⟩)) (fun r' e => by rw [e]; exact kk H locs ls hZ hP hD hl)
theorem tg_pVl {l : Launch} {r : Int64} (C : tg_C X D nL cc own F L kc ns) (hl0 : tg_l X = l) (hM : Met l y [Cond.code y bytes maxL (some .long)] (tg_rm f2 l2) (tg_Pre D wc (.ref b :: As)) (vp_Sl (fun r' => r' = r)) 0 0 (fun _ => False)) (hm : Cond.methodLink own ix y ∈ tg_tbl) (ce : tg_MV Cn y bytes maxL (some .long) np) (hF : f2 + 1 ≤ F ∧ 8 + (maxL + 11) + l2 ≤ L ∧ k ≤ kc ∧ n ≤ ns) (isC : List Nat) (hC : isC.map (fun i => ws[i]?) = wc.map some) (hnd : va_nd isC = true) (hb : wc[0]? = some (b, .inr (ci, fs))) (hcl : tg_cl[ci]? = some (Cn, T)) (hn : As.length = np) (hst : st = As.reverse ++ .ref b :: rest) (hW : (rest.map fun v => v.category).sum ≤ 8) (hdg : decode cc pc = .ok (.invokevirtual ix, 3)) (kk : tg_G X D nL k n ws lv (pc + 3) (.long r :: rest)) : tg_G X D nL k n ws lv pc st := by
  subst hl0
  intro H locs ls hZ hP hD hl
  exact vp_callSl (va_Run.run (va_runV (As := As) (rest := rest) ⟨C.1, C.2.1, C.2.2.1, C.2.2.2.1, C.2.2.2.2.1⟩ hM ⟨tg_cB C hm ce.2.2.1 ce.2.2.2.1 ce.2.2.2.2 ⟨hF.1, hF.2.1⟩, C.2.2.2.2.1 _ ce.1, C.2.2.2.2.1 _ ce.2.1⟩ ⟨tg_Pre.blind, tg_recv C hP isC hC hb hcl, tg_preV hP hD C isC hC hnd⟩ rfl hn hl.1 hst (lv_room hW) hdg ⟨Nat.le_trans hF.2.2.1 C.2.2.2.2.2.2.2.2.1, Nat.le_trans hF.2.2.2 C.2.2.2.2.2.2.2.2.2⟩)) (fun r' e => by rw [e]; exact kk H locs ls hZ hP hD hl)
/-- a static reader is called; of a nest mate -/
theorem tg_pS {l : Launch} {ty : FieldType} {r : Int32} (C : tg_C X D nL cc own F L kc ns) (hl0 : tg_l X = l) (hM : Met l y [Cond.code y bytes maxL (some ty)] (tg_rm f2 l2) (tg_Pre D [] As) (vp_Si (fun r' => r' = r)) 0 0 (fun _ => False)) (hm : Cond.methodLink own ix y ∈ tg_tbl) (ce : tg_MS y bytes maxL (some ty) np) (hF : f2 + 1 ≤ F ∧ 8 + (maxL + 11) + l2 ≤ L ∧ k ≤ kc ∧ n ≤ ns) (hn : As.length = np) (hst : st = As.reverse ++ rest) (hW : (rest.map fun v => v.category).sum ≤ 8) (hdg : decode cc pc = .ok (.invokestatic ix, 3)) (kk : tg_G X D nL k n ws lv (pc + 3) (.int r :: rest)) : tg_G X D nL k n ws lv pc st := by
  subst hl0
  intro H locs ls hZ hP hD hl
  exact vp_callSi (va_Run.run (va_runS (As := As) (rest := rest) ⟨C.1, C.2.1, C.2.2.1, C.2.2.2.1, C.2.2.2.2.1⟩ hM ⟨tg_cB C hm ce.2.1 ce.2.2.1 ce.2.2.2 ⟨hF.1, hF.2.1⟩, C.2.2.2.2.1 _ ce.1⟩ ⟨tg_Pre.blind, tg_preV (ws := ws) hP hD C [] rfl rfl⟩ rfl hn hl.1 hst (lv_room hW) hdg ⟨Nat.le_trans hF.2.2.1 C.2.2.2.2.2.2.2.2.1, Nat.le_trans hF.2.2.2 C.2.2.2.2.2.2.2.2.2⟩)) (fun r' e => by rw [e]; exact kk H locs ls hZ hP hD hl)
theorem tg_pN {l : Launch} {ty : FieldType} {r : Int32} {host : String} (C : tg_C X D nL cc own F L kc ns) (hl0 : tg_l X = l) (hM : Met l y [Cond.code y bytes maxL (some ty)] (tg_rm f2 l2) (tg_Pre D [] As) (vp_Si (fun r' => r' = r)) 0 0 (fun _ => False)) (hm : Cond.methodLinkNest own ix y host ∈ tg_tbl) (ce : tg_MS y bytes maxL (some ty) np) (hF : f2 + 1 ≤ F ∧ 8 + (maxL + 11) + l2 ≤ L ∧ k ≤ kc ∧ n ≤ ns) (hn : As.length = np) (hst : st = As.reverse ++ rest) (hW : (rest.map fun v => v.category).sum ≤ 8) (hdg : decode cc pc = .ok (.invokestatic ix, 3)) (kk : tg_G X D nL k n ws lv (pc + 3) (.int r :: rest)) : tg_G X D nL k n ws lv pc st := by
  subst hl0
  intro H locs ls hZ hP hD hl
  exact vp_callSi (va_Run.run (va_runSN (As := As) (rest := rest) ⟨C.1, C.2.1, C.2.2.1, C.2.2.2.1, C.2.2.2.2.1⟩ hM ⟨tg_cN C hm ce.2.1 ce.2.2.1 ce.2.2.2 ⟨hF.1, hF.2.1⟩, C.2.2.2.2.1 _ ce.1, trivial⟩ ⟨tg_Pre.blind, tg_preV (ws := ws) hP hD C [] rfl rfl⟩ rfl hn hl.1 hst (lv_room hW) hdg ⟨Nat.le_trans hF.2.2.1 C.2.2.2.2.2.2.2.2.1, Nat.le_trans hF.2.2.2 C.2.2.2.2.2.2.2.2.2⟩)) (fun r' e => by rw [e]; exact kk H locs ls hZ hP hD hl)
/-- a writer is called on an object -/
theorem tg_eV {l : Launch} {v : Option Value} (C : tg_C X D nL cc own F L kc ns) (V : tg_V X) (hl0 : tg_l X = l) (hM : Met l y [Cond.code y bytes maxL ret] (tg_rm f2 l2) (tg_Pre D wc (.ref b :: As)) (tg_Qe v D wc' (tg_Ad wc)) 0 0 (tg_Ad wc)) (hm : Cond.methodLink own ix y ∈ tg_tbl) (ce : tg_MV Cn y bytes maxL ret np) (hF : f2 + 1 ≤ F ∧ 8 + (maxL + 11) + l2 ≤ L ∧ k ≤ kc ∧ n ≤ ns) (isC : List Nat) (hC : isC.map (fun i => ws[i]?) = wc.map some) (hnd : va_nd isC = true) (hb : wc[0]? = some (b, .inr (ci, fs))) (hcl : tg_cl[ci]? = some (Cn, T)) (hn : As.length = np) (hst : st = As.reverse ++ .ref b :: rest) (hW : (rest.map fun v => v.category).sum ≤ 8) (hlen : isC.length = wc'.length) (hw : tg_ov ws isC wc' = ws') (had : ws'.map (fun q => q.1) = ws.map (fun q => q.1)) (hdg : decode cc pc = .ok (.invokevirtual ix, 3)) (kk : tg_G X D nL k n ws' lv (pc + 3) (v.toList ++ rest)) : tg_G X D nL k n ws lv pc st := by
  subst hl0
  intro H locs ls hZ hP hD hl
  rw [V] at hZ
  have hr := va_runV (As := As) (rest := rest) (locs := locs) (cells := k) (slots := n) (e := tg_e X) (below := tg_b X) (meth := tg_h X) (g := F0 (tg_m X) pc ls st) ⟨C.1, C.2.1, C.2.2.1, C.2.2.2.1, C.2.2.2.2.1⟩ hM ⟨tg_cB C hm ce.2.2.1 ce.2.2.2.1 ce.2.2.2.2 ⟨hF.1, hF.2.1⟩, C.2.2.2.2.1 _ ce.1, C.2.2.2.2.1 _ ce.2.1⟩ ⟨tg_Pre.blind, tg_recv C hP isC hC hb hcl, tg_preV hP hD C isC hC hnd⟩ rfl hn hl.1 hst (lv_room hW) hdg ⟨Nat.le_trans hF.2.2.1 C.2.2.2.2.2.2.2.2.1, Nat.le_trans hF.2.2.2 C.2.2.2.2.2.2.2.2.2⟩
  have hsub : ∀ q, tg_Ad wc q → tg_A X q := by
    rintro q ⟨j, e, hj⟩
    obtain ⟨i, -, g2⟩ := tg_pick hC hj
    exact hD.2 i _ g2
  intro T hT Xs
  obtain ⟨v', st₀, t, T', L, h0, X', hL, e1, -, ⟨hv, hP1, hz, hk⟩, stp⟩ := hr T hT Xs
  cases hv
  rw [h0] at hz hk
  obtain ⟨t2, a1, b1⟩ := kk t.heap (locs ++ L) ls (by
      rw [V]
      refine ⟨Nat.le_trans hZ.1 hz, fun q h1 h2 => ?_, fun q hq => ?_⟩
      · rw [hk q (Nat.lt_of_lt_of_le h1 hZ.1) (fun z => h2 (hsub q z))]
        exact hZ.2.1 q h1 h2
      · rcases List.mem_append.mp hq with h | h
        · exact hZ.2.2 q h
        · exact hsub _ (hL q h)) (by rw [← hw]; exact tg_ov_P hP hD hC hlen hk hP1) (tg_D_congr had hD) hl T' e1 X'
  exact ⟨t2, stp t2 a1, b1⟩
end TGC
end
