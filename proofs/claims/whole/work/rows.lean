section
-- ===== PART A: goes FIRST, ahead of the names: the tables' words, and 'selects' of the private methods out of them =====
/-- a private method of a class that the tables say can be made, by its rows of tables_1 -/
def lw_okq (q : MethodName × Nat) : Prop := (q.1.cls ≠ "java/lang/invoke/MethodHandle" ∧ q.1.cls ≠ "java/lang/invoke/VarHandle") ∧ Cond.instantiable q.1.cls q.2 ∈ tables_1 ∧ Cond.privateMethod q.1 ∈ tables_1 ∧ Cond.instanceMethod q.1 ∈ tables_1
theorem lw_p0 : lw_okq (⟨"Pocketgloss$Sentence", "empty", "()I"⟩, 2) := ⟨⟨by decide +kernel, by decide +kernel⟩, List.mem_of_getElem? (i := 48) (by decide +kernel), List.mem_of_getElem? (i := 156) (by decide +kernel), List.mem_of_getElem? (i := 157) (by decide +kernel)⟩
theorem lw_p1 : lw_okq (⟨"Pocketgloss", "findStandings", "()V"⟩, 11) := ⟨⟨by decide +kernel, by decide +kernel⟩, List.mem_of_getElem? (i := 23) (by decide +kernel), List.mem_of_getElem? (i := 164) (by decide +kernel), List.mem_of_getElem? (i := 165) (by decide +kernel)⟩
theorem lw_p2 : lw_okq (⟨"Pocketgloss$Standings", "empty", "()V"⟩, 4) := ⟨⟨by decide +kernel, by decide +kernel⟩, List.mem_of_getElem? (i := 62) (by decide +kernel), List.mem_of_getElem? (i := 168) (by decide +kernel), List.mem_of_getElem? (i := 169) (by decide +kernel)⟩
theorem lw_p3 : lw_okq (⟨"Pocketgloss$Phrase", "placesFrom", "(ILPocketgloss$Rules;LPocketgloss$Sentence;)I"⟩, 2) := ⟨⟨by decide +kernel, by decide +kernel⟩, List.mem_of_getElem? (i := 180) (by decide +kernel), List.mem_of_getElem? (i := 178) (by decide +kernel), List.mem_of_getElem? (i := 179) (by decide +kernel)⟩
theorem lw_p4 : lw_okq (⟨"Pocketgloss$Sentence", "hasFormAt", "(IILPocketgloss$Rules;)Z"⟩, 2) := ⟨⟨by decide +kernel, by decide +kernel⟩, List.mem_of_getElem? (i := 48) (by decide +kernel), List.mem_of_getElem? (i := 183) (by decide +kernel), List.mem_of_getElem? (i := 184) (by decide +kernel)⟩
theorem lw_p5 : lw_okq (⟨"Pocketgloss$Sentence", "hasPlace", "(I)Z"⟩, 2) := ⟨⟨by decide +kernel, by decide +kernel⟩, List.mem_of_getElem? (i := 48) (by decide +kernel), List.mem_of_getElem? (i := 187) (by decide +kernel), List.mem_of_getElem? (i := 188) (by decide +kernel)⟩
theorem lw_p6 : lw_okq (⟨"Pocketgloss$Rules", "leadBack", "(II)Z"⟩, 3) := ⟨⟨by decide +kernel, by decide +kernel⟩, List.mem_of_getElem? (i := 31) (by decide +kernel), List.mem_of_getElem? (i := 191) (by decide +kernel), List.mem_of_getElem? (i := 192) (by decide +kernel)⟩
theorem lw_p7 : lw_okq (⟨"Pocketgloss$Standings", "put", "(III)V"⟩, 4) := ⟨⟨by decide +kernel, by decide +kernel⟩, List.mem_of_getElem? (i := 62) (by decide +kernel), List.mem_of_getElem? (i := 195) (by decide +kernel), List.mem_of_getElem? (i := 196) (by decide +kernel)⟩
theorem lw_p8 : lw_okq (⟨"Pocketgloss$Split", "findFrom", "(IILPocketgloss$Rules;LPocketgloss$Sentence;LPocketgloss$Standings;)V"⟩, 4) := ⟨⟨by decide +kernel, by decide +kernel⟩, List.mem_of_getElem? (i := 205) (by decide +kernel), List.mem_of_getElem? (i := 203) (by decide +kernel), List.mem_of_getElem? (i := 204) (by decide +kernel)⟩
theorem lw_p9 : lw_okq (⟨"Pocketgloss$Covers", "weigh", "(LPocketgloss$Standings;II)V"⟩, 2) := ⟨⟨by decide +kernel, by decide +kernel⟩, List.mem_of_getElem? (i := 83) (by decide +kernel), List.mem_of_getElem? (i := 213) (by decide +kernel), List.mem_of_getElem? (i := 214) (by decide +kernel)⟩
theorem lw_p10 : lw_okq (⟨"Pocketgloss$Covers", "leastFrom", "(IILPocketgloss$Standings;I)I"⟩, 2) := ⟨⟨by decide +kernel, by decide +kernel⟩, List.mem_of_getElem? (i := 83) (by decide +kernel), List.mem_of_getElem? (i := 217) (by decide +kernel), List.mem_of_getElem? (i := 218) (by decide +kernel)⟩
theorem lw_p11 : lw_okq (⟨"Pocketgloss$Standings", "fitsFrom", "(III)Z"⟩, 4) := ⟨⟨by decide +kernel, by decide +kernel⟩, List.mem_of_getElem? (i := 62) (by decide +kernel), List.mem_of_getElem? (i := 221) (by decide +kernel), List.mem_of_getElem? (i := 222) (by decide +kernel)⟩
theorem lw_p12 : lw_okq (⟨"Pocketgloss$Standings", "placesOf", "(I)I"⟩, 4) := ⟨⟨by decide +kernel, by decide +kernel⟩, List.mem_of_getElem? (i := 62) (by decide +kernel), List.mem_of_getElem? (i := 225) (by decide +kernel), List.mem_of_getElem? (i := 226) (by decide +kernel)⟩
theorem lw_p13 : lw_okq (⟨"Pocketgloss$Standings", "has", "(I)Z"⟩, 4) := ⟨⟨by decide +kernel, by decide +kernel⟩, List.mem_of_getElem? (i := 62) (by decide +kernel), List.mem_of_getElem? (i := 229) (by decide +kernel), List.mem_of_getElem? (i := 230) (by decide +kernel)⟩
theorem lw_p14 : lw_okq (⟨"Pocketgloss$Covers", "costWith", "(IIILPocketgloss$Standings;)I"⟩, 2) := ⟨⟨by decide +kernel, by decide +kernel⟩, List.mem_of_getElem? (i := 83) (by decide +kernel), List.mem_of_getElem? (i := 237) (by decide +kernel), List.mem_of_getElem? (i := 238) (by decide +kernel)⟩
theorem lw_p15 : lw_okq (⟨"Pocketgloss$Standings", "priceOf", "(I)I"⟩, 4) := ⟨⟨by decide +kernel, by decide +kernel⟩, List.mem_of_getElem? (i := 62) (by decide +kernel), List.mem_of_getElem? (i := 242) (by decide +kernel), List.mem_of_getElem? (i := 243) (by decide +kernel)⟩
def lw_privs_1 : List (MethodName × Nat) := [(⟨"Pocketgloss$Sentence", "empty", "()I"⟩, 2), (⟨"Pocketgloss", "findStandings", "()V"⟩, 11), (⟨"Pocketgloss$Standings", "empty", "()V"⟩, 4), (⟨"Pocketgloss$Phrase", "placesFrom", "(ILPocketgloss$Rules;LPocketgloss$Sentence;)I"⟩, 2), (⟨"Pocketgloss$Sentence", "hasFormAt", "(IILPocketgloss$Rules;)Z"⟩, 2), (⟨"Pocketgloss$Sentence", "hasPlace", "(I)Z"⟩, 2), (⟨"Pocketgloss$Rules", "leadBack", "(II)Z"⟩, 3), (⟨"Pocketgloss$Standings", "put", "(III)V"⟩, 4), (⟨"Pocketgloss$Split", "findFrom", "(IILPocketgloss$Rules;LPocketgloss$Sentence;LPocketgloss$Standings;)V"⟩, 4), (⟨"Pocketgloss$Covers", "weigh", "(LPocketgloss$Standings;II)V"⟩, 2), (⟨"Pocketgloss$Covers", "leastFrom", "(IILPocketgloss$Standings;I)I"⟩, 2), (⟨"Pocketgloss$Standings", "fitsFrom", "(III)Z"⟩, 4), (⟨"Pocketgloss$Standings", "placesOf", "(I)I"⟩, 4), (⟨"Pocketgloss$Standings", "has", "(I)Z"⟩, 4), (⟨"Pocketgloss$Covers", "costWith", "(IIILPocketgloss$Standings;)I"⟩, 2), (⟨"Pocketgloss$Standings", "priceOf", "(I)I"⟩, 4)]
theorem lw_r1 : ∀ q ∈ lw_privs_1, lw_okq q := List.forall_mem_cons.mpr ⟨lw_p0, List.forall_mem_cons.mpr ⟨lw_p1, List.forall_mem_cons.mpr ⟨lw_p2, List.forall_mem_cons.mpr ⟨lw_p3, List.forall_mem_cons.mpr ⟨lw_p4, List.forall_mem_cons.mpr ⟨lw_p5, List.forall_mem_cons.mpr ⟨lw_p6, List.forall_mem_cons.mpr ⟨lw_p7, List.forall_mem_cons.mpr ⟨lw_p8, List.forall_mem_cons.mpr ⟨lw_p9, List.forall_mem_cons.mpr ⟨lw_p10, List.forall_mem_cons.mpr ⟨lw_p11, List.forall_mem_cons.mpr ⟨lw_p12, List.forall_mem_cons.mpr ⟨lw_p13, List.forall_mem_cons.mpr ⟨lw_p14, List.forall_mem_cons.mpr ⟨lw_p15, fun _ h => absurd h List.not_mem_nil⟩⟩⟩⟩⟩⟩⟩⟩⟩⟩⟩⟩⟩⟩⟩⟩
theorem lw_p16 : lw_okq (⟨"Pocketgloss$Covers", "leastCost", "()I"⟩, 2) := ⟨⟨by decide +kernel, by decide +kernel⟩, List.mem_of_getElem? (i := 83) (by decide +kernel), List.mem_of_getElem? (i := 249) (by decide +kernel), List.mem_of_getElem? (i := 250) (by decide +kernel)⟩
theorem lw_p17 : lw_okq (⟨"java/lang/Throwable", "fillInStackTrace", "(I)Ljava/lang/Throwable;"⟩, 6) := ⟨⟨by decide +kernel, by decide +kernel⟩, List.mem_of_getElem? (i := 317) (by decide +kernel), List.mem_of_getElem? (i := 315) (by decide +kernel), List.mem_of_getElem? (i := 316) (by decide +kernel)⟩
theorem lw_p18 : lw_okq (⟨"Pocketgloss$Rules", "isFull", "()Z"⟩, 3) := ⟨⟨by decide +kernel, by decide +kernel⟩, List.mem_of_getElem? (i := 31) (by decide +kernel), List.mem_of_getElem? (i := 347) (by decide +kernel), List.mem_of_getElem? (i := 348) (by decide +kernel)⟩
theorem lw_p19 : lw_okq (⟨"Pocketgloss$Rules", "put", "(II)I"⟩, 3) := ⟨⟨by decide +kernel, by decide +kernel⟩, List.mem_of_getElem? (i := 31) (by decide +kernel), List.mem_of_getElem? (i := 367) (by decide +kernel), List.mem_of_getElem? (i := 368) (by decide +kernel)⟩
theorem lw_p20 : lw_okq (⟨"Pocketgloss", "needRoomForEntry", "()V"⟩, 11) := ⟨⟨by decide +kernel, by decide +kernel⟩, List.mem_of_getElem? (i := 23) (by decide +kernel), List.mem_of_getElem? (i := 428) (by decide +kernel), List.mem_of_getElem? (i := 429) (by decide +kernel)⟩
theorem lw_p21 : lw_okq (⟨"Pocketgloss", "keep", "(LPocketgloss$Entry;)I"⟩, 11) := ⟨⟨by decide +kernel, by decide +kernel⟩, List.mem_of_getElem? (i := 23) (by decide +kernel), List.mem_of_getElem? (i := 466) (by decide +kernel), List.mem_of_getElem? (i := 467) (by decide +kernel)⟩
theorem lw_p22 : lw_okq (⟨"Pocketgloss", "needEntry", "(I)V"⟩, 11) := ⟨⟨by decide +kernel, by decide +kernel⟩, List.mem_of_getElem? (i := 23) (by decide +kernel), List.mem_of_getElem? (i := 502) (by decide +kernel), List.mem_of_getElem? (i := 503) (by decide +kernel)⟩
theorem lw_p23 : lw_okq (⟨"Pocketgloss$Cards", "has", "(II)Z"⟩, 2) := ⟨⟨by decide +kernel, by decide +kernel⟩, List.mem_of_getElem? (i := 98) (by decide +kernel), List.mem_of_getElem? (i := 522) (by decide +kernel), List.mem_of_getElem? (i := 523) (by decide +kernel)⟩
theorem lw_p24 : lw_okq (⟨"Pocketgloss$Cards", "intervalOf", "(II)I"⟩, 2) := ⟨⟨by decide +kernel, by decide +kernel⟩, List.mem_of_getElem? (i := 98) (by decide +kernel), List.mem_of_getElem? (i := 526) (by decide +kernel), List.mem_of_getElem? (i := 527) (by decide +kernel)⟩
theorem lw_p25 : lw_okq (⟨"Pocketgloss$Cards", "hasRoom", "(II)Z"⟩, 2) := ⟨⟨by decide +kernel, by decide +kernel⟩, List.mem_of_getElem? (i := 98) (by decide +kernel), List.mem_of_getElem? (i := 530) (by decide +kernel), List.mem_of_getElem? (i := 531) (by decide +kernel)⟩
theorem lw_p26 : lw_okq (⟨"Pocketgloss$Cards", "drop", "(II)V"⟩, 2) := ⟨⟨by decide +kernel, by decide +kernel⟩, List.mem_of_getElem? (i := 98) (by decide +kernel), List.mem_of_getElem? (i := 534) (by decide +kernel), List.mem_of_getElem? (i := 535) (by decide +kernel)⟩
theorem lw_p27 : lw_okq (⟨"Pocketgloss$Sentence", "isFull", "()Z"⟩, 2) := ⟨⟨by decide +kernel, by decide +kernel⟩, List.mem_of_getElem? (i := 48) (by decide +kernel), List.mem_of_getElem? (i := 545) (by decide +kernel), List.mem_of_getElem? (i := 546) (by decide +kernel)⟩
theorem lw_p28 : lw_okq (⟨"Pocketgloss$Sentence", "put", "(I)I"⟩, 2) := ⟨⟨by decide +kernel, by decide +kernel⟩, List.mem_of_getElem? (i := 48) (by decide +kernel), List.mem_of_getElem? (i := 550) (by decide +kernel), List.mem_of_getElem? (i := 551) (by decide +kernel)⟩
theorem lw_p29 : lw_okq (⟨"Pocketgloss", "needPlace", "(I)V"⟩, 11) := ⟨⟨by decide +kernel, by decide +kernel⟩, List.mem_of_getElem? (i := 23) (by decide +kernel), List.mem_of_getElem? (i := 568) (by decide +kernel), List.mem_of_getElem? (i := 569) (by decide +kernel)⟩
theorem lw_p30 : lw_okq (⟨"Pocketgloss", "chooseCover", "()V"⟩, 11) := ⟨⟨by decide +kernel, by decide +kernel⟩, List.mem_of_getElem? (i := 23) (by decide +kernel), List.mem_of_getElem? (i := 574) (by decide +kernel), List.mem_of_getElem? (i := 575) (by decide +kernel)⟩
theorem lw_p31 : lw_okq (⟨"Pocketgloss$Covers", "choose", "(LPocketgloss$Standings;)V"⟩, 2) := ⟨⟨by decide +kernel, by decide +kernel⟩, List.mem_of_getElem? (i := 83) (by decide +kernel), List.mem_of_getElem? (i := 578) (by decide +kernel), List.mem_of_getElem? (i := 579) (by decide +kernel)⟩
def lw_privs_2 : List (MethodName × Nat) := [(⟨"Pocketgloss$Covers", "leastCost", "()I"⟩, 2), (⟨"java/lang/Throwable", "fillInStackTrace", "(I)Ljava/lang/Throwable;"⟩, 6), (⟨"Pocketgloss$Rules", "isFull", "()Z"⟩, 3), (⟨"Pocketgloss$Rules", "put", "(II)I"⟩, 3), (⟨"Pocketgloss", "needRoomForEntry", "()V"⟩, 11), (⟨"Pocketgloss", "keep", "(LPocketgloss$Entry;)I"⟩, 11), (⟨"Pocketgloss", "needEntry", "(I)V"⟩, 11), (⟨"Pocketgloss$Cards", "has", "(II)Z"⟩, 2), (⟨"Pocketgloss$Cards", "intervalOf", "(II)I"⟩, 2), (⟨"Pocketgloss$Cards", "hasRoom", "(II)Z"⟩, 2), (⟨"Pocketgloss$Cards", "drop", "(II)V"⟩, 2), (⟨"Pocketgloss$Sentence", "isFull", "()Z"⟩, 2), (⟨"Pocketgloss$Sentence", "put", "(I)I"⟩, 2), (⟨"Pocketgloss", "needPlace", "(I)V"⟩, 11), (⟨"Pocketgloss", "chooseCover", "()V"⟩, 11), (⟨"Pocketgloss$Covers", "choose", "(LPocketgloss$Standings;)V"⟩, 2)]
theorem lw_r2 : ∀ q ∈ lw_privs_2, lw_okq q := List.forall_mem_cons.mpr ⟨lw_p16, List.forall_mem_cons.mpr ⟨lw_p17, List.forall_mem_cons.mpr ⟨lw_p18, List.forall_mem_cons.mpr ⟨lw_p19, List.forall_mem_cons.mpr ⟨lw_p20, List.forall_mem_cons.mpr ⟨lw_p21, List.forall_mem_cons.mpr ⟨lw_p22, List.forall_mem_cons.mpr ⟨lw_p23, List.forall_mem_cons.mpr ⟨lw_p24, List.forall_mem_cons.mpr ⟨lw_p25, List.forall_mem_cons.mpr ⟨lw_p26, List.forall_mem_cons.mpr ⟨lw_p27, List.forall_mem_cons.mpr ⟨lw_p28, List.forall_mem_cons.mpr ⟨lw_p29, List.forall_mem_cons.mpr ⟨lw_p30, List.forall_mem_cons.mpr ⟨lw_p31, fun _ h => absurd h List.not_mem_nil⟩⟩⟩⟩⟩⟩⟩⟩⟩⟩⟩⟩⟩⟩⟩⟩
theorem lw_p32 : lw_okq (⟨"Pocketgloss$Covers", "bestFrom", "(IILPocketgloss$Standings;)I"⟩, 2) := ⟨⟨by decide +kernel, by decide +kernel⟩, List.mem_of_getElem? (i := 83) (by decide +kernel), List.mem_of_getElem? (i := 585) (by decide +kernel), List.mem_of_getElem? (i := 586) (by decide +kernel)⟩
theorem lw_p33 : lw_okq (⟨"Pocketgloss$Covers", "mark", "(II)V"⟩, 2) := ⟨⟨by decide +kernel, by decide +kernel⟩, List.mem_of_getElem? (i := 83) (by decide +kernel), List.mem_of_getElem? (i := 589) (by decide +kernel), List.mem_of_getElem? (i := 590) (by decide +kernel)⟩
theorem lw_p34 : lw_okq (⟨"Pocketgloss$Covers", "pickAt", "(I)I"⟩, 2) := ⟨⟨by decide +kernel, by decide +kernel⟩, List.mem_of_getElem? (i := 83) (by decide +kernel), List.mem_of_getElem? (i := 593) (by decide +kernel), List.mem_of_getElem? (i := 594) (by decide +kernel)⟩
theorem lw_p35 : lw_okq (⟨"Pocketgloss$Standings", "entryOf", "(I)I"⟩, 4) := ⟨⟨by decide +kernel, by decide +kernel⟩, List.mem_of_getElem? (i := 62) (by decide +kernel), List.mem_of_getElem? (i := 597) (by decide +kernel), List.mem_of_getElem? (i := 598) (by decide +kernel)⟩
theorem lw_p36 : lw_okq (⟨"Pocketgloss", "isInCover", "(I)Z"⟩, 11) := ⟨⟨by decide +kernel, by decide +kernel⟩, List.mem_of_getElem? (i := 23) (by decide +kernel), List.mem_of_getElem? (i := 620) (by decide +kernel), List.mem_of_getElem? (i := 621) (by decide +kernel)⟩
theorem lw_p37 : lw_okq (⟨"Pocketgloss$Cards", "put", "(IIII)V"⟩, 2) := ⟨⟨by decide +kernel, by decide +kernel⟩, List.mem_of_getElem? (i := 98) (by decide +kernel), List.mem_of_getElem? (i := 632) (by decide +kernel), List.mem_of_getElem? (i := 633) (by decide +kernel)⟩
theorem lw_p38 : lw_okq (⟨"Pocketgloss$Cards", "countOf", "(I)I"⟩, 2) := ⟨⟨by decide +kernel, by decide +kernel⟩, List.mem_of_getElem? (i := 98) (by decide +kernel), List.mem_of_getElem? (i := 636) (by decide +kernel), List.mem_of_getElem? (i := 637) (by decide +kernel)⟩
theorem lw_p39 : lw_okq (⟨"Pocketgloss$Cards", "isDue", "(III)Z"⟩, 2) := ⟨⟨by decide +kernel, by decide +kernel⟩, List.mem_of_getElem? (i := 98) (by decide +kernel), List.mem_of_getElem? (i := 648) (by decide +kernel), List.mem_of_getElem? (i := 649) (by decide +kernel)⟩
theorem lw_p40 : lw_okq (⟨"Pocketgloss$Cards", "firstOf", "(I)I"⟩, 2) := ⟨⟨by decide +kernel, by decide +kernel⟩, List.mem_of_getElem? (i := 98) (by decide +kernel), List.mem_of_getElem? (i := 676) (by decide +kernel), List.mem_of_getElem? (i := 677) (by decide +kernel)⟩
theorem lw_p41 : lw_okq (⟨"PocketglossModel", "forms", "(II)Z"⟩, 24) := ⟨⟨by decide +kernel, by decide +kernel⟩, List.mem_of_getElem? (i := 688) (by decide +kernel), List.mem_of_getElem? (i := 786) (by decide +kernel), List.mem_of_getElem? (i := 787) (by decide +kernel)⟩
theorem lw_p42 : lw_okq (⟨"PocketglossModel", "makes", "(II)I"⟩, 24) := ⟨⟨by decide +kernel, by decide +kernel⟩, List.mem_of_getElem? (i := 688) (by decide +kernel), List.mem_of_getElem? (i := 802) (by decide +kernel), List.mem_of_getElem? (i := 803) (by decide +kernel)⟩
theorem lw_p43 : lw_okq (⟨"PocketglossModel", "isEntry", "(I)Z"⟩, 24) := ⟨⟨by decide +kernel, by decide +kernel⟩, List.mem_of_getElem? (i := 688) (by decide +kernel), List.mem_of_getElem? (i := 814) (by decide +kernel), List.mem_of_getElem? (i := 815) (by decide +kernel)⟩
theorem lw_p44 : lw_okq (⟨"PocketglossModel", "finds", "()V"⟩, 24) := ⟨⟨by decide +kernel, by decide +kernel⟩, List.mem_of_getElem? (i := 688) (by decide +kernel), List.mem_of_getElem? (i := 838) (by decide +kernel), List.mem_of_getElem? (i := 839) (by decide +kernel)⟩
theorem lw_p45 : lw_okq (⟨"PocketglossModel", "stands", "(II)Z"⟩, 24) := ⟨⟨by decide +kernel, by decide +kernel⟩, List.mem_of_getElem? (i := 688) (by decide +kernel), List.mem_of_getElem? (i := 842) (by decide +kernel), List.mem_of_getElem? (i := 843) (by decide +kernel)⟩
theorem lw_p46 : lw_okq (⟨"PocketglossModel", "covers", "()I"⟩, 24) := ⟨⟨by decide +kernel, by decide +kernel⟩, List.mem_of_getElem? (i := 688) (by decide +kernel), List.mem_of_getElem? (i := 850) (by decide +kernel), List.mem_of_getElem? (i := 851) (by decide +kernel)⟩
theorem lw_p47 : lw_okq (⟨"PocketglossModel", "firstFree", "(I)I"⟩, 24) := ⟨⟨by decide +kernel, by decide +kernel⟩, List.mem_of_getElem? (i := 688) (by decide +kernel), List.mem_of_getElem? (i := 854) (by decide +kernel), List.mem_of_getElem? (i := 855) (by decide +kernel)⟩
def lw_privs_3 : List (MethodName × Nat) := [(⟨"Pocketgloss$Covers", "bestFrom", "(IILPocketgloss$Standings;)I"⟩, 2), (⟨"Pocketgloss$Covers", "mark", "(II)V"⟩, 2), (⟨"Pocketgloss$Covers", "pickAt", "(I)I"⟩, 2), (⟨"Pocketgloss$Standings", "entryOf", "(I)I"⟩, 4), (⟨"Pocketgloss", "isInCover", "(I)Z"⟩, 11), (⟨"Pocketgloss$Cards", "put", "(IIII)V"⟩, 2), (⟨"Pocketgloss$Cards", "countOf", "(I)I"⟩, 2), (⟨"Pocketgloss$Cards", "isDue", "(III)Z"⟩, 2), (⟨"Pocketgloss$Cards", "firstOf", "(I)I"⟩, 2), (⟨"PocketglossModel", "forms", "(II)Z"⟩, 24), (⟨"PocketglossModel", "makes", "(II)I"⟩, 24), (⟨"PocketglossModel", "isEntry", "(I)Z"⟩, 24), (⟨"PocketglossModel", "finds", "()V"⟩, 24), (⟨"PocketglossModel", "stands", "(II)Z"⟩, 24), (⟨"PocketglossModel", "covers", "()I"⟩, 24), (⟨"PocketglossModel", "firstFree", "(I)I"⟩, 24)]
theorem lw_r3 : ∀ q ∈ lw_privs_3, lw_okq q := List.forall_mem_cons.mpr ⟨lw_p32, List.forall_mem_cons.mpr ⟨lw_p33, List.forall_mem_cons.mpr ⟨lw_p34, List.forall_mem_cons.mpr ⟨lw_p35, List.forall_mem_cons.mpr ⟨lw_p36, List.forall_mem_cons.mpr ⟨lw_p37, List.forall_mem_cons.mpr ⟨lw_p38, List.forall_mem_cons.mpr ⟨lw_p39, List.forall_mem_cons.mpr ⟨lw_p40, List.forall_mem_cons.mpr ⟨lw_p41, List.forall_mem_cons.mpr ⟨lw_p42, List.forall_mem_cons.mpr ⟨lw_p43, List.forall_mem_cons.mpr ⟨lw_p44, List.forall_mem_cons.mpr ⟨lw_p45, List.forall_mem_cons.mpr ⟨lw_p46, List.forall_mem_cons.mpr ⟨lw_p47, fun _ h => absurd h List.not_mem_nil⟩⟩⟩⟩⟩⟩⟩⟩⟩⟩⟩⟩⟩⟩⟩⟩
theorem lw_p48 : lw_okq (⟨"PocketglossModel", "chooses", "(II)I"⟩, 24) := ⟨⟨by decide +kernel, by decide +kernel⟩, List.mem_of_getElem? (i := 688) (by decide +kernel), List.mem_of_getElem? (i := 858) (by decide +kernel), List.mem_of_getElem? (i := 859) (by decide +kernel)⟩
theorem lw_p49 : lw_okq (⟨"PocketglossModel", "told", "([II)I"⟩, 24) := ⟨⟨by decide +kernel, by decide +kernel⟩, List.mem_of_getElem? (i := 688) (by decide +kernel), List.mem_of_getElem? (i := 870) (by decide +kernel), List.mem_of_getElem? (i := 871) (by decide +kernel)⟩
theorem lw_p50 : lw_okq (⟨"PocketglossModel", "isReader", "(I)Z"⟩, 24) := ⟨⟨by decide +kernel, by decide +kernel⟩, List.mem_of_getElem? (i := 688) (by decide +kernel), List.mem_of_getElem? (i := 882) (by decide +kernel), List.mem_of_getElem? (i := 883) (by decide +kernel)⟩
theorem lw_p51 : lw_okq (⟨"PocketglossModel", "barsCard", "(II)I"⟩, 24) := ⟨⟨by decide +kernel, by decide +kernel⟩, List.mem_of_getElem? (i := 688) (by decide +kernel), List.mem_of_getElem? (i := 890) (by decide +kernel), List.mem_of_getElem? (i := 891) (by decide +kernel)⟩
theorem lw_p52 : lw_okq (⟨"PocketglossModel", "fails", "(I)I"⟩, 24) := ⟨⟨by decide +kernel, by decide +kernel⟩, List.mem_of_getElem? (i := 688) (by decide +kernel), List.mem_of_getElem? (i := 894) (by decide +kernel), List.mem_of_getElem? (i := 895) (by decide +kernel)⟩
theorem lw_p53 : lw_okq (⟨"PocketglossModel", "cards", "(I)I"⟩, 24) := ⟨⟨by decide +kernel, by decide +kernel⟩, List.mem_of_getElem? (i := 688) (by decide +kernel), List.mem_of_getElem? (i := 898) (by decide +kernel), List.mem_of_getElem? (i := 899) (by decide +kernel)⟩
def lw_privs_4 : List (MethodName × Nat) := [(⟨"PocketglossModel", "chooses", "(II)I"⟩, 24), (⟨"PocketglossModel", "told", "([II)I"⟩, 24), (⟨"PocketglossModel", "isReader", "(I)Z"⟩, 24), (⟨"PocketglossModel", "barsCard", "(II)I"⟩, 24), (⟨"PocketglossModel", "fails", "(I)I"⟩, 24), (⟨"PocketglossModel", "cards", "(I)I"⟩, 24)]
theorem lw_r4 : ∀ q ∈ lw_privs_4, lw_okq q := List.forall_mem_cons.mpr ⟨lw_p48, List.forall_mem_cons.mpr ⟨lw_p49, List.forall_mem_cons.mpr ⟨lw_p50, List.forall_mem_cons.mpr ⟨lw_p51, List.forall_mem_cons.mpr ⟨lw_p52, List.forall_mem_cons.mpr ⟨lw_p53, fun _ h => absurd h List.not_mem_nil⟩⟩⟩⟩⟩⟩
def lw_privs : List (MethodName × Nat) := lw_privs_1 ++ (lw_privs_2 ++ (lw_privs_3 ++ (lw_privs_4)))
def lw_tbl : List Cond := k2_sels lw_privs ++ tables_1
theorem lw_privs_ok : ∀ q ∈ lw_privs, lw_okq q := by
  show ∀ q ∈ lw_privs_1 ++ (lw_privs_2 ++ (lw_privs_3 ++ (lw_privs_4))), lw_okq q
  exact List.forall_mem_append.mpr ⟨lw_r1, List.forall_mem_append.mpr ⟨lw_r2, List.forall_mem_append.mpr ⟨lw_r3, lw_r4⟩⟩⟩
-- ===== end of PART A; then your names; then what follows =====
/-! ===== BEGIN words of one list among another's, by their places ===== -/
theorem goodIn_r {big : List Cond} (ws : List Cond) (ps : List Nat) (hp : ws = ps.filterMap (fun i => big[i]?)) (h : ws.all goodWord = true) : GoodIn big ws := by
  intro w hw
  have h1 := List.all_eq_true.mp h w hw
  rw [hp] at hw
  obtain ⟨i, -, hi⟩ := List.mem_filterMap.mp hw
  have hm : w ∈ big := by first | exact List.mem_of_getElem? hi | exact List.getElem?_mem hi
  exact ⟨hm, good_of_word h1⟩
theorem goodIn_app {big a b : List Cond} (ha : GoodIn big a) (hb : GoodIn big b) : GoodIn big (a ++ b) := fun w h => (List.mem_append.mp h).elim (ha w) (hb w)
theorem goodIn_ca {big a b : List Cond} {c : Cond} (ha : GoodIn big (c :: a)) (hb : GoodIn big b) : GoodIn big (c :: (a ++ b)) := fun w h => (List.mem_cons.mp h).elim (fun e => ha w (List.mem_cons.mpr (Or.inl e))) (fun h => (List.mem_append.mp h).elim (fun h => ha w (List.mem_cons.mpr (Or.inr h))) (hb w))
theorem goodIn_sub {big ws : List Cond} (hm : ∀ w ∈ ws, w ∈ big) (h : ws.all goodWord = true) : GoodIn big ws := fun w hw => ⟨hm w hw, good_of_word (List.all_eq_true.mp h w hw)⟩
/-! ===== END ===== -/

/-! ===== BEGIN new T[n][m]: the outer array a place, the inner ones among the pooled ===== -/
/-- f, but v at every address of l -/
def vr_up {α : Type} (f : Nat → α) (l : List Nat) (v : α) : Nat → α := fun a => if a ∈ l then v else f a
theorem vr_up_in {α : Type} {f : Nat → α} {l : List Nat} {v : α} {a : Nat} (h : a ∈ l) : vr_up f l v a = v := if_pos h
theorem vr_up_ne {α : Type} {f : Nat → α} {l : List Nat} {v : α} {a : Nat} (h : a ∉ l) : vr_up f l v a = f a := if_neg h
theorem vr_rows {L l : List Nat} {f : Nat → va_E} {e : va_E} (h : ∀ a, a ∈ l → a ∉ L) : va_pl L f ++ l.map (fun a => (a, e)) = va_pl (L ++ l) (vr_up f l e) := by
  unfold va_pl
  rw [List.map_append]
  congr 1
  · apply List.map_congr_left
    intro a ha
    rw [vr_up_ne (fun q => h a q ha)]
  · apply List.map_congr_left
    intro a ha
    rw [vr_up_in ha]
theorem vr_lay {X rows : va_W} {x : Nat × va_E} {pl : va_W} {D : va_G} {cl : List vw_C} {H : Heap} (hP : va_P D cl (((X ++ pl) ++ [x]) ++ rows) H) : va_P D cl ((X ++ [x]) ++ (pl ++ rows)) H := by
  rw [List.append_assoc (X ++ pl)] at hP
  have h := va_P.swap hP
  rw [← List.append_assoc X] at h
  have h2 := va_P.swap h
  rw [List.append_assoc (X ++ [x])] at h2
  exact h2
theorem vr_layD {X rows : va_W} {x : Nat × va_E} {pl : va_W} {A : Nat → Prop} (hD : va_D A (((X ++ pl) ++ [x]) ++ rows)) : va_D A ((X ++ [x]) ++ (pl ++ rows)) := by
  rw [List.append_assoc (X ++ pl)] at hD
  have h := va_D.swap hD
  rw [← List.append_assoc X] at h
  have h2 := va_D.swap h
  rw [List.append_assoc (X ++ [x])] at h2
  exact h2
theorem vr_outer (c : ClassId) (N h0 : Nat) : ∀ i : Nat, Jvm.Free.Multi.outerC c N h0 i = arrV c N (fun j => va_rf (if j < i then some (h0 + 1 + j) else none))
  | 0 => by
    show ({ cls := c, slots := Array.replicate N .null, vm := .none } : Cell) = _
    rw [arrV_new]
    refine congrArg (arrV c N) (funext fun j => ?_)
    simp [va_rf]
  | i + 1 => by
    show (Jvm.Free.Multi.outerC c N h0 i).setSlot i (.ref (h0 + 1 + i)) = _
    rw [vr_outer c N h0 i, arrV_store]
    refine congrArg (arrV c N) (funext fun j => ?_)
    by_cases e : j = i
    · subst e
      simp [updV, va_rf]
    · by_cases h : j < i
      · simp [updV, e, h, Nat.lt_succ_of_lt h]
      · simp [updV, e, h, show ¬ j < i + 1 by omega]
/-- an array class over another array type, by the tables (the printed names use it; the kit of this claim has no such row) -/
def va_AOA (ty : FieldType) (U : State) : Prop := (Cond.arrayOver (.array ty)).before #[] U = true
theorem va_AOA.of {ty : FieldType} {A : Array Value} {U : State} (h : (Cond.arrayOver (.array ty)).before A U = true) : va_AOA ty U := h
theorem va_AOA.use {ty : FieldType} {A : Array Value} {U : State} (h : va_AOA ty U) : (Cond.arrayOver (.array ty)).before A U = true := h
section VGM
variable {p : Program} {l : Launch} {e : Env} {R : Room} {s : State} {m : MethodId} {args : Array Value} {below : List Frame} {meth : Method} {c : Code} {H : Heap} {locs : List Loc} {cells slots : Nat} {Q : State → Prop}
variable {cc : ByteArray} {pc : Nat} {ls : Array Slot} {rest : List Value} {D : va_G} {cl : List vw_C} {A : Nat → Prop} {a : Nat} {tys : List (ClassId × FieldType)} {ws : va_W} {H0 : Heap}
theorem va_mna {X : va_W} {L : List Nat} {f : Nat → va_E} {cc : ByteArray} (hexec : p.tables.exec = Jvm.exec) (hb : c.code = cc) {own : String} {index : Nat} {ty : FieldType} {cy : ClassId} (hown : s.vm.findClass own = some m.cls) (hclink : (Cond.classLink own index ("[" ++ (FieldType.array ty).toString)).before args s = true) (hover : va_AOA ty s) (harr : (Cond.arrayClass ty).before args s = true) (hcy : s.vm.findClass (FieldType.array ty).toString = some cy)
    (hK : va_K D cl tys s) (hP : va_P D cl (X ++ va_pl L f) H) (hD : va_D A (X ++ va_pl L f)) (hS : va_S A H0 H locs) (hA : ∀ q, H0.size ≤ q → A q) {n k : Int32} {N' K' : Nat} {z : vp_A} (hn : ¬ n < 0) (hk : ¬ k < 0) (hN : n.toNatClampNeg = N') (hM : k.toNatClampNeg = K')
    (hb1 : N' * 4 ≤ 536870912) (hb2 : K' * componentBytes ty ≤ 536870912) (hb3 : K' ≤ 536870912) (hdf : fits ty (defaultValue ty) = true) (hdd : (defaultValue ty).isDefault = true) (hcells : cells + (1 + N') ≤ R.cells) (hslots : slots + (N' + N' * K') ≤ R.slots) (hz : ∀ c : ClassId, Jvm.Free.Multi.innerC c K' (defaultValue ty) = vp_cell c z) (hdg : decode cc pc = .ok (.multianewarray index 2, 4))
    (kk : ∀ (q : Nat) (r : Nat → Nat) (cA : ClassId) (H1 : Heap), (∀ i j : Nat, i < N' → j < N' → r i = r j → i = j) → (∀ i : Nat, i < N' → r i ∉ L) → va_K D cl (tys ++ [(cA, .array ty)]) s →
      va_P D cl ((X ++ [(q, .inl (cA, N', .inr (.inr (.inr (.inr (fun i => if i < N' then some (r i) else none))))))]) ++ va_pl (L ++ (List.range N').map r) (vr_up f ((List.range N').map r) (.inl (cy, z)))) H1 → va_D A ((X ++ [(q, .inl (cA, N', .inr (.inr (.inr (.inr (fun i => if i < N' then some (r i) else none))))))]) ++ va_pl (L ++ (List.range N').map r) (vr_up f ((List.range N').map r) (.inl (cy, z)))) → va_S A H0 H1 locs →
      W p l e R s m args below meth c H1 locs (cells + 1 + N') (slots + N' + N' * K') Q (F0 m (pc + 4) ls (.ref q :: rest))) : W p l e R s m args below meth c H locs cells slots Q (F0 m pc ls (.int k :: .int n :: rest)) := by
  subst hN
  subst hM
  intro T hT Xs
  obtain ⟨vm₁, cA, comp, -, fA, fC, hO, -, X', step⟩ := Xs.multianewarray2F hexec hown hclink (va_AOA.use hover) harr (g := F0 m pc ls (.int k :: .int n :: rest)) rfl (by rw [hb]; exact hdg) rfl hn hk hb1 hb2 hb3 hdf hdd hcells hslots
  have ec : some cy = some comp := hcy.symm.trans fC
  cases ec
  generalize hF : Jvm.Free.Multi.fill (T.setVm vm₁) cA cy n.toNatClampNeg k.toNatClampNeg (defaultValue ty) n.toNatClampNeg = F at X' step
  have hTh : (T.setVm vm₁).heap = H := hT
  obtain ⟨f1, f2, -, -⟩ := Jvm.Free.Multi.fill_facts (T.setVm vm₁) cA cy n.toNatClampNeg k.toNatClampNeg (defaultValue ty) n.toNatClampNeg
  rw [hF, hTh] at f1 f2
  have hold : ∀ x : Nat, x < H.size → F.heap[x]? = H[x]? := fun x hx => by
    have := Jvm.Free.Multi.fill_old (T.setVm vm₁) cA cy n.toNatClampNeg k.toNatClampNeg (defaultValue ty) (a := x) (by rw [hTh]; exact hx) n.toNatClampNeg
    rw [hF, hTh] at this
    exact this
  have hrow : ∀ j : Nat, j < n.toNatClampNeg → F.heap[H.size + 1 + j]? = some (vp_cell cy z) := fun j hj => by
    have := Jvm.Free.Multi.fill_inner (T.setVm vm₁) cA cy n.toNatClampNeg k.toNatClampNeg (defaultValue ty) n.toNatClampNeg j hj
    rw [hF, hTh, hz] at this
    exact this
  have hout : Jvm.Free.Multi.outerC cA n.toNatClampNeg H.size n.toNatClampNeg = vp_cell cA (n.toNatClampNeg, .inr (.inr (.inr (.inr (fun i => if i < n.toNatClampNeg then some (H.size + 1 + i) else none))))) := by
    rw [vp_cell_q]
    exact vr_outer cA n.toNatClampNeg H.size n.toNatClampNeg
  rw [hout] at f2
  have hlt : ∀ a, a ∈ L → a < H.size := fun a ha => by
    obtain ⟨k9, hk9⟩ := va_pl_get (X := X) (f := f) ha
    exact (hP k9 _ hk9).lt
  have hnl : ∀ i : Nat, i < n.toNatClampNeg → H.size + 1 + i ∉ L := fun i _ h => by
    have := hlt _ h
    omega
  have hnm : ∀ a, a ∈ (List.range n.toNatClampNeg).map (fun i => H.size + 1 + i) → a ∉ L := fun a ha h => by
    obtain ⟨i, -, rfl⟩ := List.mem_map.mp ha
    have := hlt _ h
    omega
  have hP0 : va_P D cl (X ++ va_pl L f) F.heap := hP.kept (fun k9 x hx => hold x.1 ((hP k9 x hx).lt))
  have hP1 : va_P D cl ((X ++ va_pl L f) ++ [(H.size, .inl (cA, n.toNatClampNeg, .inr (.inr (.inr (.inr (fun i => if i < n.toNatClampNeg then some (H.size + 1 + i) else none))))))]) F.heap := hP0.app (fun k9 x hx => by
    have h0 : k9 < 1 := (List.getElem?_eq_some_iff.mp hx).1
    rw [show k9 = 0 by omega] at hx
    cases hx
    exact f2)
  have hP2 : va_P D cl (((X ++ va_pl L f) ++ [(H.size, .inl (cA, n.toNatClampNeg, .inr (.inr (.inr (.inr (fun i => if i < n.toNatClampNeg then some (H.size + 1 + i) else none))))))]) ++ ((List.range n.toNatClampNeg).map (fun i => H.size + 1 + i)).map (fun a => (a, .inl (cy, z)))) F.heap := hP1.app (fun k9 x hx => by
    obtain ⟨a, ha, rfl⟩ := List.mem_map.mp (List.mem_of_getElem? hx)
    obtain ⟨i, hi, rfl⟩ := List.mem_map.mp ha
    exact hrow i (List.mem_range.mp hi))
  have hD2 : va_D A (((X ++ va_pl L f) ++ [(H.size, .inl (cA, n.toNatClampNeg, .inr (.inr (.inr (.inr (fun i => if i < n.toNatClampNeg then some (H.size + 1 + i) else none))))))]) ++ ((List.range n.toNatClampNeg).map (fun i => H.size + 1 + i)).map (fun a => (a, .inl (cy, z)))) := by
    have hD1 := hD.push (e := .inl (cA, n.toNatClampNeg, .inr (.inr (.inr (.inr (fun i => if i < n.toNatClampNeg then some (H.size + 1 + i) else none)))))) hP rfl (hA _ hS.1)
    generalize hW1 : (X ++ va_pl L f) ++ [(H.size, .inl (cA, n.toNatClampNeg, .inr (.inr (.inr (.inr (fun i => if i < n.toNatClampNeg then some (H.size + 1 + i) else none))))))] = W1 at hD1 hP1 ⊢
    have hle : ∀ (k9 : Nat) (x : Nat × va_E), W1[k9]? = some x → x.1 ≤ H.size := fun k9 x hx => by
      rw [← hW1] at hx
      by_cases hl : k9 < (X ++ va_pl L f).length
      · rw [List.getElem?_append_left hl] at hx
        exact Nat.le_of_lt ((hP k9 x hx).lt)
      · rw [List.getElem?_append_right (by omega)] at hx
        have h0 : k9 - (X ++ va_pl L f).length < 1 := (List.getElem?_eq_some_iff.mp hx).1
        rw [show k9 - (X ++ va_pl L f).length = 0 by omega] at hx
        cases hx
        exact Nat.le_refl _
    have hr : ∀ (k9 : Nat) (x : Nat × va_E), (((List.range n.toNatClampNeg).map (fun i => H.size + 1 + i)).map (fun a => ((a, .inl (cy, z)) : Nat × va_E)))[k9]? = some x → x.1 = H.size + 1 + k9 := fun k9 x hx => by
      rw [List.getElem?_map, List.getElem?_map] at hx
      by_cases h9 : k9 < n.toNatClampNeg
      · rw [List.getElem?_range h9] at hx
        cases hx
        rfl
      · have hn0 : (List.range n.toNatClampNeg)[k9]? = none := List.getElem?_eq_none (by rw [List.length_range]; omega)
        rw [hn0] at hx
        cases hx
    refine ⟨fun i j x y hi hj hxy => ?_, fun k9 x hx => ?_⟩
    · by_cases h1 : i < W1.length <;> by_cases h2 : j < W1.length
      · rw [List.getElem?_append_left h1] at hi
        rw [List.getElem?_append_left h2] at hj
        exact hD1.1 i j x y hi hj hxy
      · rw [List.getElem?_append_left h1] at hi
        rw [List.getElem?_append_right (by omega)] at hj
        have := hle _ _ hi
        have := hr _ _ hj
        omega
      · rw [List.getElem?_append_right (by omega)] at hi
        rw [List.getElem?_append_left h2] at hj
        have := hle _ _ hj
        have := hr _ _ hi
        omega
      · rw [List.getElem?_append_right (by omega)] at hi hj
        have := hr _ _ hi
        have := hr _ _ hj
        omega
    · by_cases h1 : k9 < W1.length
      · rw [List.getElem?_append_left h1] at hx
        exact hD1.2 k9 x hx
      · rw [List.getElem?_append_right (by omega)] at hx
        have := hr _ _ hx
        exact hA _ (by have := hS.1; omega)
  have hAr : ArrOfT s cA (.array ty) := fun N9 z9 => by
    obtain ⟨-, k9, hk9, cm9, hkk9⟩ := (hO 0 0 0).1
    exact ⟨(fun q hq => by cases hq), k9, hk9, cm9, hkk9⟩
  have hK2 : va_K D cl (tys ++ [(cA, .array ty)]) s := ⟨hK.1, fun k9 x hx => by
    by_cases hl : k9 < tys.length
    · rw [List.getElem?_append_left hl] at hx
      exact hK.2 k9 x hx
    · rw [List.getElem?_append_right (by omega)] at hx
      have h0 : k9 - tys.length < 1 := (List.getElem?_eq_some_iff.mp hx).1
      rw [show k9 - tys.length = 0 by omega] at hx
      cases hx
      exact ⟨hAr, fA⟩⟩
  obtain ⟨t, a1, b1⟩ := kk H.size (fun i => H.size + 1 + i) cA F.heap (fun i j _ _ h => by have h9 : H.size + 1 + i = H.size + 1 + j := h; omega) hnl hK2 (by rw [← vr_rows hnm]; exact vr_lay hP2) (by rw [← vr_rows hnm]; exact vr_layD hD2) ⟨by rw [f1]; have := hS.1; omega, fun x h1 h2 => (hold x (Nat.lt_of_lt_of_le h1 hS.1)).trans (hS.2.1 x h1 h2), hS.2.2⟩ F rfl X'
  refine ⟨t, step t ?_, b1⟩
  have e : T.heap.size = H.size := by rw [hT]
  rw [e]
  exact a1
end VGM
/-! ===== END ===== -/

/-! ===== BEGIN exceptions that leave a method, and their catching by the caller (launches without stack traces) ===== -/
section VXA
/-! The laws vx_back, vx_callV, vx_callS, vx_callSW, vx_throw0, vx_throwS follow proofs of the library, with one case more: JvmDerived/Free/Laws.lean (Back.of_free), Shelf42/LK1.lean (callV, callS), Shelf/KitTraced.lean (throwNew0V, throwNewS). -/
/-- where a method has thrown q: the class by its name, the cell, what was written, the world -/
def vx_T (XC : String → State → State → Prop) (st : State) (q : Addr) (t : State) (mc ms : Nat) (free : Addr → Prop) : Prop :=
  ∃ (E : String) (ce : Cell) (L : List Loc), XC E st t ∧ t.heap[q]? = some ce ∧ ce.vm = .none ∧ st.vm.findClass E = some ce.cls ∧ st.WarmedH t.vm ∧ st.sameButNew ({ t with vm := st.vm } : State) L mc ms ∧ ∀ z ∈ L, free z.base
def vx_Q (Qc : Array Value → State → Outcome → State → Prop) (XC : String → State → State → Prop) (mc ms : Nat) (free : Addr → Prop) : Array Value → State → Outcome → State → Prop := fun a st o t =>
  (Qc a st o t ∧ ∃ L, FrameEnd st o t L mc ms ∧ ∀ q ∈ L, free q.base) ∨ ∃ q, o = .threw q ∧ vx_T XC st q t mc ms free
/-- a callee that returns or throws -/
def vx_Met (l : Launch) (y : MethodName) (ws : List Cond) (rm : Room) (Pc : Array Value → State → Prop) (Qc : Array Value → State → Outcome → State → Prop) (XC : String → State → State → Prop) (mc ms : Nat) (free : Addr → Prop) : Prop :=
  MetFree l y (headSpec ws rm) Pc (fun _ _ _ _ _ => True) (vx_Q Qc XC mc ms free)
def vx_Post (XC : String → State → State → Prop) (mc ms : Nat) (free : Addr → Prop) : Pt → Array Value → Addr → Pt → Prop := fun A a q B =>
  ∃ (g : JFrame) (mk : MethodId) (t : State) (L : List Loc) (E : String) (ce : Cell), B.U.heap = t.heap ∧ B.U.vm = t.vm ∧ XC E (A.U.calling g mk a) t ∧ t.heap[q]? = some ce ∧ ce.vm = .none ∧ A.U.vm.findClass E = some ce.cls ∧ B.locs = A.locs ++ L ∧ (∀ z ∈ L, free z.base) ∧ B.cells = A.cells + mc ∧ B.slots = A.slots + ms
def vx_Back (l : Launch) (R : Room) (p : Program) (e : Env) (below : List Frame) (s : State) (sargs : Array Value) (y : MethodName) (len W9 : Nat)
    (Pre : Pt → Array Value → Prop) (Post : Pt → Array Value → Option Value → Pt → Prop) (PostX : Pt → Array Value → Addr → Pt → Prop) : Prop :=
  ∀ (m : MethodId) (meth : Method) (c : Code) (A : Pt) (g : JFrame) (ig : Instr) (mk : MethodId) (a : Array Value),
    Stand p l e R s m sargs below meth c A.U A.locs A.cells A.slots → g.method = m → g.locals.size = c.maxLocals → decode c.code g.pc = .ok (ig, len) →
    2 * g.monitorRoom + (g.stack.map fun v => v.category).sum ≤ W9 → A.U.methodNamed? y = some mk → Pre A a →
    (∃ (v : Option Value) (B : Pt), Stand p l e R s m sargs below meth c B.U B.locs B.cells B.slots ∧ Post A a v B ∧
      Steps p.tables e below (doInvoke e (A.U.setTop g) [] mk a).1 (B.U.setTop { g with pc := g.pc + len, stack := v.toList ++ g.stack })) ∨
    (∃ (q : Addr) (B : Pt), Stand p l e R s m sargs below meth c B.U B.locs B.cells B.slots ∧ PostX A a q B ∧
      Steps p.tables e below (doInvoke e (A.U.setTop g) [] mk a).1 ((B.U.setTop g).pushFrame (.throwing q)))
section Payer
variable {l : Launch} {R : Room} {p : Program} {e : Env} {below : List Frame} {s : State} {sargs : Array Value} {y : MethodName} {len W9 : Nat}
theorem vx_back {ws : List Cond} {rm : Room} {Pc : Array Value → State → Prop} {Qc : Array Value → State → Outcome → State → Prop} {XC : String → State → State → Prop} {mc ms : Nat} {free : Addr → Prop} {bytes : ByteArray} {maxL : Nat} {ret : Option FieldType}
    (hM : vx_Met l y ws rm Pc Qc XC mc ms free) (hblind : FrameBlind Pc) (hrc : rm.cells = mc) (hrs : rm.slots = ms)
    (hframes : rm.frames + 1 ≤ R.frames) (hlocals : W9 + (maxL + 11) + rm.locals ≤ R.locals)
    (hws : ∀ w ∈ ws, ∀ a' U, s.WarmedH U.vm → w.before a' U = true) (hcode : Cond.code y bytes maxL ret ∈ ws) (hinit : ∀ a' U, s.WarmedH U.vm → (Cond.initialized y.cls).before a' U = true) :
    vx_Back l R p e below s sargs y len W9 (PreOf R mc ms Pc) (PostOf Qc mc ms free) (vx_Post XC mc ms free) := by
  intro m meth c A g ig mk a X hg hsize hdg hW hn hp
  have h1 : (headSpec ws rm).pre.before a A.U = true := atoms_intro fun w hw => hws w hw _ _ X.warmed
  have h2 : (Cond.code y bytes maxL ret).before a A.U = true := hws _ hcode _ _ X.warmed
  have h3 : (Cond.initialized y.cls).before a A.U = true := hinit _ _ X.warmed
  have h4 : A.cells + (headSpec ws rm).room.cells ≤ R.cells := by rw [show (headSpec ws rm).room.cells = mc from hrc]; exact hp.1
  have h5 : A.slots + (headSpec ws rm).room.slots ≤ R.slots := by rw [show (headSpec ws rm).room.slots = ms from hrs]; exact hp.2.1
  have hPc : Pc a (A.U.calling g mk a) := hblind _ _ _ _ hp.2.2
  obtain ⟨U, Ls, c0, s0⟩ := A
  dsimp only [Pt.U, Pt.locs, Pt.cells, Pt.slots] at h1 h2 h3 h4 h5 X hn hPc ⊢
  obtain ⟨methY, cY, hmY, hcY, -, hlY, -, -, -, -⟩ := Cond.code_spec hn h2
  obtain ⟨kY, hkY, -⟩ := className_of_methodNamed hn
  have hinitY : kY.init = .initialized := Cond.initialized_spec (findClass_of_methodNamed hn) hkY h3
  have h : At U g.method c below := by rw [hg]; exact X.here
  have hlocals9 : W9 + (maxL + 11) + (headSpec ws rm).room.locals ≤ R.locals := hlocals
  have happ : (headSpec ws rm).appliesLoose y e.platform (U.calling g mk a) = true :=
    Spec.appliesLoose_calling (g := g) h hdg hn hkY hinitY
      (X.room_calling (g := g) (R' := (headSpec ws rm).room) hsize hmY hcY hframes (by rw [hlY]; omega) h4 h5) h1
  obtain ⟨mid, hmid⟩ := h.above
  have hfr : (U.setTop g).frames = (.java g :: mid) ++ below := by rw [State.frames_setTop' g h.top, hmid]; rfl
  obtain ⟨o, s₂, hsteps, -, hend, hq⟩ := Steps.callFree hM p X.admits X.cas X.clock (acts := []) hfr happ hPc trivial
  have hq' : vx_Q Qc XC mc ms free a (U.calling g mk a) o s₂ := hq
  rw [State.frames_setTop' g h.top] at hend
  obtain ⟨g₀, hg0⟩ := Option.isSome_iff_exists.mp h.top
  obtain ⟨r, hr⟩ := State.topJava?_eq_some.mp hg0
  have hr' : (({ U with heap := s₂.heap, slotsUsed := s₂.slotsUsed } : State).setVm s₂.vm).frames = .java g₀ :: r := hr
  rcases hq' with ⟨hqc, L, hfe, hL⟩ | ⟨q, rfl, E, ce, L, hx, hce, hcv, hcl, hW₂, hsm, hL⟩
  · obtain ⟨⟨v, rfl⟩, hW₂, e2, q2, q3, q4, q5, q6⟩ := id hfe
    have e3 : s₂ = ({ (U.calling g mk a).setFrames s₂.frames with heap := s₂.heap, slotsUsed := s₂.slotsUsed } : State).setVm s₂.vm := by
      have : s₂ = ({ s₂ with vm := (U.calling g mk a).vm } : State).setVm s₂.vm := rfl
      rw [e2] at this
      exact this
    obtain ⟨c₂, i₂, len₂, hc₂, hd₂, hf₂⟩ := hend
    have hW' : U.WarmedH s₂.vm := hW₂
    have hcc : c₂ = c := by
      have h1 : s₂.code? g.method = U.code? g.method := by
        rw [State.code?_eq, State.code?_eq, hW'.alike.method?]
      exact Option.some.inj (hc₂.symm.trans (h1.trans h.code))
    subst hcc
    have hlen : len₂ = len := by rw [hdg] at hd₂; cases hd₂; rfl
    subst hlen
    have hs₂ : s₂ = (({ U with heap := s₂.heap, slotsUsed := s₂.slotsUsed } : State).setVm s₂.vm).setTop { g with pc := g.pc + len₂, stack := v.toList ++ g.stack } := by
      refine e3.trans ?_
      rw [hf₂, State.calling_eq h.top, State.setFrames_setFrames, State.setTop_of_frames _ hr', hr]
      rfl
    have hsame : U.sameButNew ({ U with heap := s₂.heap, slotsUsed := s₂.slotsUsed } : State) L mc ms := by
      refine ⟨?_, q2, q3, q4, q5, q6⟩
      obtain ⟨t, ht, -⟩ := State.frames_cons hr
      show ({ U with heap := s₂.heap, slotsUsed := s₂.slotsUsed } : State) = { U.setFrames U.frames with heap := s₂.heap, slotsUsed := s₂.slotsUsed }
      rw [State.setFrames_self ht]
    subst hg
    refine Or.inl ⟨v, ⟨(({ U with heap := s₂.heap, slotsUsed := s₂.slotsUsed } : State).setVm s₂.vm), Ls ++ L, c0 + mc, s0 + ms⟩,
      ⟨X.admits, X.cas, X.clock, X.frames, X.room, X.hears, X.method, X.code, (X.here.setHeapUsed s₂.heap s₂.slotsUsed).setVm hW'.alike, X.tail, State.WarmedH.trans X.warmed hW', X.limits, X.bytes, X.same.trans (hsame.setVm s.vm)⟩,
      ⟨g, mk, s₂, L, rfl, rfl, hqc, rfl, hL, rfl, rfl⟩, ?_⟩
    show Steps p.tables e below _ ((({ U with heap := s₂.heap, slotsUsed := s₂.slotsUsed } : State).setVm s₂.vm).setTop { g with pc := g.pc + len₂, stack := v.toList ++ g.stack })
    rw [← hs₂]
    exact hsteps
  · obtain ⟨e2, q2, q3, q4, q5, q6⟩ := id hsm
    have e3 : s₂ = ({ (U.calling g mk a).setFrames s₂.frames with heap := s₂.heap, slotsUsed := s₂.slotsUsed } : State).setVm s₂.vm := by
      have : s₂ = ({ s₂ with vm := (U.calling g mk a).vm } : State).setVm s₂.vm := rfl
      rw [e2] at this
      exact this
    have hf₂ : s₂.frames = .throwing q :: .java g :: U.frames.tail := hend
    have hW' : U.WarmedH s₂.vm := hW₂
    have hs₂ : s₂ = ((({ U with heap := s₂.heap, slotsUsed := s₂.slotsUsed } : State).setVm s₂.vm).setTop g).pushFrame (.throwing q) := by
      refine e3.trans ?_
      rw [hf₂, State.calling_eq h.top, State.setFrames_setFrames, State.pushFrame, State.frames_setTop _ hr', State.setTop_of_frames _ hr', State.setFrames_setFrames, hr]
      rfl
    have hsame : U.sameButNew ({ U with heap := s₂.heap, slotsUsed := s₂.slotsUsed } : State) L mc ms := by
      refine ⟨?_, q2, q3, q4, q5, q6⟩
      obtain ⟨t, ht, -⟩ := State.frames_cons hr
      show ({ U with heap := s₂.heap, slotsUsed := s₂.slotsUsed } : State) = { U.setFrames U.frames with heap := s₂.heap, slotsUsed := s₂.slotsUsed }
      rw [State.setFrames_self ht]
    subst hg
    refine Or.inr ⟨q, ⟨(({ U with heap := s₂.heap, slotsUsed := s₂.slotsUsed } : State).setVm s₂.vm), Ls ++ L, c0 + mc, s0 + ms⟩,
      ⟨X.admits, X.cas, X.clock, X.frames, X.room, X.hears, X.method, X.code, (X.here.setHeapUsed s₂.heap s₂.slotsUsed).setVm hW'.alike, X.tail, State.WarmedH.trans X.warmed hW', X.limits, X.bytes, X.same.trans (hsame.setVm s.vm)⟩,
      ⟨g, mk, s₂, L, E, ce, rfl, rfl, hx, hce, hcv, hcl, rfl, hL, rfl, rfl⟩, ?_⟩
    show Steps p.tables e below _ (((({ U with heap := s₂.heap, slotsUsed := s₂.slotsUsed } : State).setVm s₂.vm).setTop g).pushFrame (.throwing q))
    rw [← hs₂]
    exact hsteps
end Payer
section Calls
variable {p : Program} {l : Launch} {e : Env} {R : Room} {s : State} {m : MethodId} {args : Array Value} {below : List Frame} {meth : Method} {c : Code} {T : State} {locs : List Loc} {cells slots : Nat}
theorem vx_callV (X : Stand p l e R s m args below meth c T locs cells slots) (hexec : p.tables.exec = Jvm.exec) {own C : String} {index : Nat} {y : MethodName} {bytes : ByteArray} {maxL : Nat} {ret : Option FieldType}
    (hown : s.vm.findClass own = some m.cls) (hlink : (Cond.methodLink own index y).before args s = true) (hinst : (Cond.instanceMethod y).before args s = true) (hsel : (Cond.selects C y y).before args s = true)
    (hcode : (Cond.code y bytes maxL ret).before args s = true) (hy : y.cls ≠ "java/lang/invoke/MethodHandle" ∧ y.cls ≠ "java/lang/invoke/VarHandle")
    {W9 : Nat} {Pre : Pt → Array Value → Prop} {Post : Pt → Array Value → Option Value → Pt → Prop} {PostX : Pt → Array Value → Addr → Pt → Prop} (hK : vx_Back l R p e below s args y 3 W9 Pre Post PostX)
    {b : Addr} {cellB : Cell} (hcell : T.heap[b]? = some cellB) (hobj : cellB.vm.isStatics = false) (hcls : s.vm.findClass C = some cellB.cls)
    {g : JFrame} (hg : g.method = m) (hsize : g.locals.size = c.maxLocals) {argsL rest : List Value} (hlen : ∀ sig, parseMethodDescriptor y.desc = some sig → argsL.length = sig.parameters.length)
    (hstack : g.stack = argsL.reverse ++ .ref b :: rest) (hW : 2 * g.monitorRoom + (rest.map fun v => v.category).sum ≤ W9) (hdg : decode c.code g.pc = .ok (.invokevirtual index, 3))
    (hpre : ∀ vm₁, s.WarmedH vm₁ → Pre ⟨T.setVm vm₁, locs, cells, slots⟩ (Value.ref b :: argsL).toArray) :
    (∃ (v : Option Value) (vm₁ : Vm) (B : Pt), s.WarmedH vm₁ ∧ Stand p l e R s m args below meth c B.U B.locs B.cells B.slots ∧ Post ⟨T.setVm vm₁, locs, cells, slots⟩ (Value.ref b :: argsL).toArray v B ∧
      ∀ target, Steps p.tables e below (B.U.setTop { g with pc := g.pc + 3, stack := v.toList ++ rest }) target → Steps p.tables e below (T.setTop g) target) ∨
    (∃ (q : Addr) (vm₁ : Vm) (B : Pt), s.WarmedH vm₁ ∧ Stand p l e R s m args below meth c B.U B.locs B.cells B.slots ∧ PostX ⟨T.setVm vm₁, locs, cells, slots⟩ (Value.ref b :: argsL).toArray q B ∧
      Steps p.tables e below (T.setTop g) ((B.U.setTop { g with stack := rest }).pushFrame (.throwing q))) := by
  obtain ⟨mk, methM, hnamed, hmethM, hstM, habM⟩ := Cond.instanceMethod_spec hinst
  obtain ⟨methM', cM, hmethM', -, -, -, -, -, -, hsigM⟩ := Cond.code_spec hnamed hcode
  cases hmethM.symm.trans hmethM'
  obtain ⟨c2, r2, m2, q1, q2, q3, q4, kP, hkP, hkPi⟩ := Cond.selects_spec hsel
  cases hcls.symm.trans q1
  cases (State.methodFound?_of_named hnamed hy).symm.trans q2
  cases hnamed.symm.trans q3
  have hselP : selectMethod e.platform s.vm cellB.cls mk = .method mk := by rw [Launch.admits_selectMethod X.admits]; exact q4
  obtain ⟨vm₁, X₁, hstep₁⟩ := X.invokevirtual hexec hown hlink hnamed hmethM hstM hkP hkPi hy (a := b) (cell := cellB) hcell
    (fun z h => by rw [h] at hobj; cases hobj) hselP hmethM habM hkP hkPi (g := g) hg (argsL := argsL) (rest := rest) (hlen _ hsigM) hstack hdg
  rcases hK m meth c ⟨T.setVm vm₁, locs, cells, slots⟩ { g with stack := rest } (.invokevirtual index) mk (Value.ref b :: argsL).toArray X₁ hg hsize hdg hW (X₁.named hnamed) (hpre vm₁ X₁.warmed) with ⟨v, B, X', hpost, hsteps⟩ | ⟨q, B, X', hpost, hsteps⟩
  · exact Or.inl ⟨v, vm₁, B, X₁.warmed, X', hpost, fun target h => hstep₁ _ fun acts => by rw [doInvoke_state]; exact hsteps.trans h⟩
  · exact Or.inr ⟨q, vm₁, B, X₁.warmed, X', hpost, hstep₁ _ fun acts => by rw [doInvoke_state]; exact hsteps⟩
theorem vx_callS (X : Stand p l e R s m args below meth c T locs cells slots) (hexec : p.tables.exec = Jvm.exec) {own : String} {index : Nat} {y : MethodName} {bytes : ByteArray} {maxL : Nat} {ret : Option FieldType}
    (hown : s.vm.findClass own = some m.cls) (hlink : (Cond.methodLink own index y).before args s = true) (hstat : (Cond.static y).before args s = true) (hinit : (Cond.initialized y.cls).before args s = true)
    (hcode : (Cond.code y bytes maxL ret).before args s = true) (hy : y.cls ≠ "java/lang/invoke/MethodHandle" ∧ y.cls ≠ "java/lang/invoke/VarHandle")
    {W9 : Nat} {Pre : Pt → Array Value → Prop} {Post : Pt → Array Value → Option Value → Pt → Prop} {PostX : Pt → Array Value → Addr → Pt → Prop} (hK : vx_Back l R p e below s args y 3 W9 Pre Post PostX)
    {g : JFrame} (hg : g.method = m) (hsize : g.locals.size = c.maxLocals) {argsL rest : List Value} (hlen : ∀ sig, parseMethodDescriptor y.desc = some sig → argsL.length = sig.parameters.length)
    (hstack : g.stack = argsL.reverse ++ rest) (hW : 2 * g.monitorRoom + (rest.map fun v => v.category).sum ≤ W9) (hdg : decode c.code g.pc = .ok (.invokestatic index, 3))
    (hpre : ∀ vm₁, s.WarmedH vm₁ → Pre ⟨T.setVm vm₁, locs, cells, slots⟩ argsL.toArray) :
    (∃ (v : Option Value) (vm₁ : Vm) (B : Pt), s.WarmedH vm₁ ∧ Stand p l e R s m args below meth c B.U B.locs B.cells B.slots ∧ Post ⟨T.setVm vm₁, locs, cells, slots⟩ argsL.toArray v B ∧
      ∀ target, Steps p.tables e below (B.U.setTop { g with pc := g.pc + 3, stack := v.toList ++ rest }) target → Steps p.tables e below (T.setTop g) target) ∨
    (∃ (q : Addr) (vm₁ : Vm) (B : Pt), s.WarmedH vm₁ ∧ Stand p l e R s m args below meth c B.U B.locs B.cells B.slots ∧ PostX ⟨T.setVm vm₁, locs, cells, slots⟩ argsL.toArray q B ∧
      Steps p.tables e below (T.setTop g) ((B.U.setTop { g with stack := rest }).pushFrame (.throwing q))) := by
  obtain ⟨mk, hnamed⟩ := Cond.code_named hcode
  obtain ⟨methM, cM, hmethM, -, -, -, -, -, -, hsigM⟩ := Cond.code_spec hnamed hcode
  have hstatic : methM.isStatic = true := Cond.static_spec hnamed hmethM hstat
  obtain ⟨kP, hkP, -⟩ := className_of_methodNamed hnamed
  have hinitP : kP.init = .initialized := Cond.initialized_spec (findClass_of_methodNamed hnamed) hkP hinit
  obtain ⟨vm₁, X₁, hstep₁⟩ := X.invokestatic hexec hown hlink hnamed hmethM hstatic hkP hinitP hy (g := g) hg (argsL := argsL) (rest := rest) (hlen _ hsigM) hstack hdg
  rcases hK m meth c ⟨T.setVm vm₁, locs, cells, slots⟩ { g with stack := rest } (.invokestatic index) mk argsL.toArray X₁ hg hsize hdg hW (X₁.named hnamed) (hpre vm₁ X₁.warmed) with ⟨v, B, X', hpost, hsteps⟩ | ⟨q, B, X', hpost, hsteps⟩
  · exact Or.inl ⟨v, vm₁, B, X₁.warmed, X', hpost, fun target h => hstep₁ _ fun acts => by rw [doInvoke_state]; exact hsteps.trans h⟩
  · exact Or.inr ⟨q, vm₁, B, X₁.warmed, X', hpost, hstep₁ _ fun acts => by rw [doInvoke_state]; exact hsteps⟩
end Calls
theorem vx_cls {s : State} {T : State} {vm₁ : Vm} {E : String} {k : ClassId} (hW : s.WarmedH vm₁) (h : (T.setVm vm₁).vm.findClass E = some k) : s.vm.findClass E = some k := by
  have h1 : vm₁.findClass E = some k := h
  rw [hW.alike.findClass] at h1
  exact h1
/-- the method's frame g, with q thrown over it -/
def vx_W (p : Program) (l : Launch) (e : Env) (R : Room) (s : State) (m : MethodId) (args : Array Value) (below : List Frame) (meth : Method) (c : Code) (H : Heap) (locs : List Loc) (cells slots : Nat) (Q : State → Prop) (g : JFrame) (q : Addr) : Prop :=
  ∀ T : State, T.heap = H → Stand p l e R s m args below meth c T locs cells slots → ∃ t, Steps p.tables e below ((T.setTop g).pushFrame (.throwing q)) t ∧ Q t
def vx_Run (p : Program) (l : Launch) (e : Env) (R : Room) (s : State) (m : MethodId) (args : Array Value) (below : List Frame) (meth : Method) (c : Code) (H : Heap) (locs : List Loc) (cells slots mc ms : Nat) (g : JFrame) (rest : List Value) (Qa : State → Outcome → State → Prop) (XC : String → State → State → Prop) (free : Addr → Prop) : Prop :=
  ∀ T : State, T.heap = H → Stand p l e R s m args below meth c T locs cells slots →
    (∃ (v : Option Value) (st₀ t T' : State) (L : List Loc), st₀.heap = H ∧ Stand p l e R s m args below meth c T' (locs ++ L) (cells + mc) (slots + ms) ∧ (∀ q ∈ L, free q.base) ∧ T'.heap = t.heap ∧ T'.vm = t.vm ∧ Qa st₀ (.returned v) t ∧
      Goes p e below T g T' { g with pc := g.pc + 3, stack := v.toList ++ rest }) ∨
    (∃ (q : Addr) (st₀ t T' : State) (L : List Loc) (E : String) (ce : Cell), st₀.heap = H ∧ Stand p l e R s m args below meth c T' (locs ++ L) (cells + mc) (slots + ms) ∧ (∀ z ∈ L, free z.base) ∧ T'.heap = t.heap ∧ T'.vm = t.vm ∧ XC E st₀ t ∧ t.heap[q]? = some ce ∧ ce.vm = .none ∧ s.vm.findClass E = some ce.cls ∧
      Steps p.tables e below (T.setTop g) ((T'.setTop { g with stack := rest }).pushFrame (.throwing q)))
def vx_X {S : Type} (px : S → Prop) (B : String → S → State → Prop) (A : Nat → Prop) : String → State → State → Prop := fun E st t => ∃ u : S, px u ∧ B E u t ∧ va_F A st t
section Runs
variable {p : Program} {l : Launch} {e : Env} {R : Room} {s : State} {m : MethodId} {args : Array Value} {below : List Frame} {meth : Method} {c : Code} {H : Heap} {locs : List Loc} {cells slots : Nat}
variable {y : MethodName} {bytes cc : ByteArray} {maxL nL mc ms n index : Nat} {ret : Option FieldType} {ws : List Cond} {rm : Room} {Pc : Array Value → State → Prop} {Qc : Array Value → State → Outcome → State → Prop} {XC : String → State → State → Prop} {free : Addr → Prop} {Ts : List Cond} {own C : String} {b : Addr} {As rest : List Value} {g : JFrame}
theorem vx_callBack (cb : CallB R s args own index y bytes maxL ret ws rm mc ms n) (hM : vx_Met l y ws rm Pc Qc XC mc ms free) (hbl : FrameBlind Pc) : vx_Back l R p e below s args y 3 8 (PreOf R mc ms Pc) (PostOf Qc mc ms free) (vx_Post XC mc ms free) := by
  obtain ⟨hrc, hrs, hfr, hlo, hws, hcw, -, hini, -⟩ := cb
  exact vx_back (bytes := bytes) (maxL := maxL) (ret := ret) hM hbl hrc hrs hfr hlo hws hcw (fun a' U hW => word_at hW (Or.inl (by first | rfl | simp [Cond.onTables, Cond.keeps, Cond.steady])) hini)
theorem vx_runV (S : CallFix p m c cc nL s args Ts own) (hM : vx_Met l y ws rm Pc Qc XC mc ms free) (cw : CallW R s args own C index y bytes maxL ret ws rm mc ms n) (hp : PreV s H C b Pc As)
    (hg : g.method = m) (hn : As.length = n) (hsize : g.locals.size = nL) (hstack : g.stack = As.reverse ++ .ref b :: rest) (hW : 2 * g.monitorRoom + (rest.map fun v => v.category).sum ≤ 8) (hdg : decode cc g.pc = .ok (.invokevirtual index, 3)) (hf : cells + mc ≤ R.cells ∧ slots + ms ≤ R.slots) :
    vx_Run p l e R s m args below meth c H locs cells slots mc ms g rest (Qc (Value.ref b :: As).toArray) XC free := by
  have hK : vx_Back l R p e below s args y 3 8 (PreOf R mc ms Pc) (PostOf Qc mc ms free) (vx_Post XC mc ms free) := vx_callBack cw.1 hM hp.1
  obtain ⟨⟨-, -, -, -, -, -, hcode, -, hy, hlen, hl⟩, hin, hse⟩ := cw
  obtain ⟨hx, hb, hml, ho, -⟩ := S
  obtain ⟨-, ⟨cellB, hcB, hoB, hclB⟩, hPc⟩ := hp
  intro T hT X
  rcases vx_callV X hx (C := C) (bytes := bytes) (maxL := maxL) (ret := ret) ho hl hin hse hcode hy hK (by rw [hT]; exact hcB) hoB hclB hg (hsize.trans hml.symm) (argsL := As) (rest := rest) (fun sig h => hn.trans (hlen sig h)) hstack hW (by rw [hb]; exact hdg)
    (fun vm₁ hW₁ => ⟨hf.1, hf.2, hPc (T.setVm vm₁) hT hW₁⟩) with ⟨v, vm₁, ⟨U', l2, c2, s2⟩, hW₁, X', ⟨g', mk, t, L, e1, e2, hq, h1, hL, h2, h3⟩, st⟩ | ⟨q, vm₁, ⟨U', l2, c2, s2⟩, hW₁, X', ⟨g', mk, t, L, E, ce, e1, e2, hq, hce, hcv, hcl, h1, hL, h2, h3⟩, st⟩
  · dsimp only [Pt.U, Pt.locs, Pt.cells, Pt.slots] at X' e1 e2 h1 h2 h3 st
    subst h1; subst h2; subst h3
    exact Or.inl ⟨v, (T.setVm vm₁).calling g' mk (Value.ref b :: As).toArray, t, U', L, hT, X', hL, e1, e2, hq, st⟩
  · dsimp only [Pt.U, Pt.locs, Pt.cells, Pt.slots] at X' e1 e2 h1 h2 h3 st hcl
    subst h1; subst h2; subst h3
    exact Or.inr ⟨q, (T.setVm vm₁).calling g' mk (Value.ref b :: As).toArray, t, U', L, E, ce, hT, X', hL, e1, e2, hq, hce, hcv, vx_cls hW₁ hcl, st⟩
theorem vx_runS (S : CallFix p m c cc nL s args Ts own) (hM : vx_Met l y ws rm Pc Qc XC mc ms free) (cw : CallB R s args own index y bytes maxL ret ws rm mc ms n ∧ (Cond.static y).before args s = true) (hp : PreS s H Pc As)
    (hg : g.method = m) (hn : As.length = n) (hsize : g.locals.size = nL) (hstack : g.stack = As.reverse ++ rest) (hW : 2 * g.monitorRoom + (rest.map fun v => v.category).sum ≤ 8) (hdg : decode cc g.pc = .ok (.invokestatic index, 3)) (hf : cells + mc ≤ R.cells ∧ slots + ms ≤ R.slots) :
    vx_Run p l e R s m args below meth c H locs cells slots mc ms g rest (Qc As.toArray) XC free := by
  have hK : vx_Back l R p e below s args y 3 8 (PreOf R mc ms Pc) (PostOf Qc mc ms free) (vx_Post XC mc ms free) := vx_callBack cw.1 hM hp.1
  obtain ⟨⟨-, -, -, -, -, -, hcode, hini, hy, hlen, hl⟩, hstt⟩ := cw
  obtain ⟨hx, hb, hml, ho, -⟩ := S
  intro T hT X
  rcases vx_callS X hx (bytes := bytes) (maxL := maxL) (ret := ret) ho hl hstt hini hcode hy hK hg (hsize.trans hml.symm) (argsL := As) (rest := rest) (fun sig h => hn.trans (hlen sig h)) hstack hW (by rw [hb]; exact hdg)
    (fun vm₁ hW₁ => ⟨hf.1, hf.2, hp.2 (T.setVm vm₁) hT hW₁⟩) with ⟨v, vm₁, ⟨U', l2, c2, s2⟩, hW₁, X', ⟨g', mk, t, L, e1, e2, hq, h1, hL, h2, h3⟩, st⟩ | ⟨q, vm₁, ⟨U', l2, c2, s2⟩, hW₁, X', ⟨g', mk, t, L, E, ce, e1, e2, hq, hce, hcv, hcl, h1, hL, h2, h3⟩, st⟩
  · dsimp only [Pt.U, Pt.locs, Pt.cells, Pt.slots] at X' e1 e2 h1 h2 h3 st
    subst h1; subst h2; subst h3
    exact Or.inl ⟨v, (T.setVm vm₁).calling g' mk As.toArray, t, U', L, hT, X', hL, e1, e2, hq, st⟩
  · dsimp only [Pt.U, Pt.locs, Pt.cells, Pt.slots] at X' e1 e2 h1 h2 h3 st hcl
    subst h1; subst h2; subst h3
    exact Or.inr ⟨q, (T.setVm vm₁).calling g' mk As.toArray, t, U', L, E, ce, hT, X', hL, e1, e2, hq, hce, hcv, vx_cls hW₁ hcl, st⟩
end Runs
section Rows
variable {p : Program} {l : Launch} {e : Env} {R : Room} {s : State} {m : MethodId} {args : Array Value} {below : List Frame} {meth : Method} {c : Code} {H : Heap} {locs : List Loc} {cells slots : Nat} {Q : State → Prop}
variable {mc ms : Nat} {free : Addr → Prop} {A0 A1 : Nat → Prop} {H0 : Heap} {a : Array Value} {pc : Nat} {ls : Array Slot} {st0 rest : List Value}
theorem vx_keep {st₀ t T' : State} {L : List Loc} (h0 : st₀.heap = H) (e1 : T'.heap = t.heap) (hS : va_S A0 H0 H locs) (hA : ∀ q, q < H.size → A1 q → A0 q) (hf : ∀ q, free q → A0 q) (hL : ∀ q ∈ L, free q.base) (hF : va_F A1 st₀ t) :
    H.size ≤ T'.heap.size ∧ (∀ q : Nat, q < H.size → ¬ A1 q → T'.heap[q]? = H[q]?) ∧ va_S A0 H0 T'.heap (locs ++ L) := by
  obtain ⟨hz, hk⟩ := hF
  rw [h0] at hz hk
  exact ⟨by rw [e1]; exact hz, fun q h1 h2 => by rw [e1]; exact hk q h1 h2,
    ⟨Nat.le_trans hS.1 (by rw [e1]; exact hz), fun q h1 h2 => by rw [e1, hk q (Nat.lt_of_lt_of_le h1 hS.1) (fun z => h2 (hA q (Nat.lt_of_lt_of_le h1 hS.1) z))]; exact hS.2.1 q h1 h2, fun q hq => by
      rcases List.mem_append.mp hq with h | h
      · exact hS.2.2 q h
      · exact hf _ (hL q h)⟩⟩
theorem vx_calli {S SX : Type} {post : Int32 → S → Prop} {px : SX → Prop} {B : S → State → Prop} {BX : String → SX → State → Prop} {AX : Nat → Prop} (hr : vx_Run p l e R s m args below meth c H locs cells slots mc ms (F0 m pc ls st0) rest (va_Qi post B A1 a) (vx_X px BX AX) free) (hS : va_S A0 H0 H locs) (hA : ∀ q, q < H.size → A1 q → A0 q) (hf : ∀ q, free q → A0 q) (hAX : ∀ q, q < H.size → AX q → A0 q)
    (kx : ∀ (E : String) (ce : Cell) (q9 : Addr) (u : SX) (t : State) (H1 : Heap) (locs1 : List Loc), t.heap = H1 → s.vm.Alike t.vm → px u → BX E u t → H.size ≤ H1.size → (∀ q : Nat, q < H.size → ¬ AX q → H1[q]? = H[q]?) → va_S A0 H0 H1 locs1 → H1[q9]? = some ce → ce.vm = .none → s.vm.findClass E = some ce.cls → vx_W p l e R s m args below meth c H1 locs1 (cells + mc) (slots + ms) Q (F0 m pc ls rest) q9)
    (kk : ∀ (r : Int32) (u : S) (t : State) (H1 : Heap) (locs1 : List Loc), t.heap = H1 → s.vm.Alike t.vm → post r u → B u t → H.size ≤ H1.size → (∀ q : Nat, q < H.size → ¬ A1 q → H1[q]? = H[q]?) → va_S A0 H0 H1 locs1 → W p l e R s m args below meth c H1 locs1 (cells + mc) (slots + ms) Q (F0 m (pc + 3) ls (.int r :: rest))) : W p l e R s m args below meth c H locs cells slots Q (F0 m pc ls st0) := by
  intro T hT X
  rcases hr T hT X with ⟨v, st₀, t, T', L, h0, X', hL, e1, e2, ⟨⟨r, u, hv, hp, hb⟩, hF⟩, st⟩ | ⟨q, st₀, t, T', L, E, ce, h0, X', hL, e1, e2, ⟨u, hp, hb, hF⟩, hce, hcv, hcl, st⟩
  · cases hv
    obtain ⟨k1, k2, k3⟩ := vx_keep h0 e1 hS hA hf hL hF
    obtain ⟨t2, a1, b1⟩ := kk r u t T'.heap (locs ++ L) e1.symm (by rw [← e2]; exact X'.warmed.alike) hp hb k1 k2 k3 T' rfl X'
    exact ⟨t2, st t2 a1, b1⟩
  · obtain ⟨k1, k2, k3⟩ := vx_keep h0 e1 hS hAX hf hL hF
    obtain ⟨t2, a1, b1⟩ := kx E ce q u t T'.heap (locs ++ L) e1.symm (by rw [← e2]; exact X'.warmed.alike) hp hb k1 k2 k3 (by rw [e1]; exact hce) hcv hcl T' rfl X'
    exact ⟨t2, st.trans a1, b1⟩
theorem vx_calll {S SX : Type} {post : Int64 → S → Prop} {px : SX → Prop} {B : S → State → Prop} {BX : String → SX → State → Prop} {AX : Nat → Prop} (hr : vx_Run p l e R s m args below meth c H locs cells slots mc ms (F0 m pc ls st0) rest (va_Ql post B A1 a) (vx_X px BX AX) free) (hS : va_S A0 H0 H locs) (hA : ∀ q, q < H.size → A1 q → A0 q) (hf : ∀ q, free q → A0 q) (hAX : ∀ q, q < H.size → AX q → A0 q)
    (kx : ∀ (E : String) (ce : Cell) (q9 : Addr) (u : SX) (t : State) (H1 : Heap) (locs1 : List Loc), t.heap = H1 → s.vm.Alike t.vm → px u → BX E u t → H.size ≤ H1.size → (∀ q : Nat, q < H.size → ¬ AX q → H1[q]? = H[q]?) → va_S A0 H0 H1 locs1 → H1[q9]? = some ce → ce.vm = .none → s.vm.findClass E = some ce.cls → vx_W p l e R s m args below meth c H1 locs1 (cells + mc) (slots + ms) Q (F0 m pc ls rest) q9)
    (kk : ∀ (r : Int64) (u : S) (t : State) (H1 : Heap) (locs1 : List Loc), t.heap = H1 → s.vm.Alike t.vm → post r u → B u t → H.size ≤ H1.size → (∀ q : Nat, q < H.size → ¬ A1 q → H1[q]? = H[q]?) → va_S A0 H0 H1 locs1 → W p l e R s m args below meth c H1 locs1 (cells + mc) (slots + ms) Q (F0 m (pc + 3) ls (.long r :: rest))) : W p l e R s m args below meth c H locs cells slots Q (F0 m pc ls st0) := by
  intro T hT X
  rcases hr T hT X with ⟨v, st₀, t, T', L, h0, X', hL, e1, e2, ⟨⟨r, u, hv, hp, hb⟩, hF⟩, st⟩ | ⟨q, st₀, t, T', L, E, ce, h0, X', hL, e1, e2, ⟨u, hp, hb, hF⟩, hce, hcv, hcl, st⟩
  · cases hv
    obtain ⟨k1, k2, k3⟩ := vx_keep h0 e1 hS hA hf hL hF
    obtain ⟨t2, a1, b1⟩ := kk r u t T'.heap (locs ++ L) e1.symm (by rw [← e2]; exact X'.warmed.alike) hp hb k1 k2 k3 T' rfl X'
    exact ⟨t2, st t2 a1, b1⟩
  · obtain ⟨k1, k2, k3⟩ := vx_keep h0 e1 hS hAX hf hL hF
    obtain ⟨t2, a1, b1⟩ := kx E ce q u t T'.heap (locs ++ L) e1.symm (by rw [← e2]; exact X'.warmed.alike) hp hb k1 k2 k3 (by rw [e1]; exact hce) hcv hcl T' rfl X'
    exact ⟨t2, st.trans a1, b1⟩
theorem vx_callf {S SX : Type} {post : UInt32 → S → Prop} {px : SX → Prop} {B : S → State → Prop} {BX : String → SX → State → Prop} {AX : Nat → Prop} (hr : vx_Run p l e R s m args below meth c H locs cells slots mc ms (F0 m pc ls st0) rest (va_Qf post B A1 a) (vx_X px BX AX) free) (hS : va_S A0 H0 H locs) (hA : ∀ q, q < H.size → A1 q → A0 q) (hf : ∀ q, free q → A0 q) (hAX : ∀ q, q < H.size → AX q → A0 q)
    (kx : ∀ (E : String) (ce : Cell) (q9 : Addr) (u : SX) (t : State) (H1 : Heap) (locs1 : List Loc), t.heap = H1 → s.vm.Alike t.vm → px u → BX E u t → H.size ≤ H1.size → (∀ q : Nat, q < H.size → ¬ AX q → H1[q]? = H[q]?) → va_S A0 H0 H1 locs1 → H1[q9]? = some ce → ce.vm = .none → s.vm.findClass E = some ce.cls → vx_W p l e R s m args below meth c H1 locs1 (cells + mc) (slots + ms) Q (F0 m pc ls rest) q9)
    (kk : ∀ (r : UInt32) (u : S) (t : State) (H1 : Heap) (locs1 : List Loc), t.heap = H1 → s.vm.Alike t.vm → post r u → B u t → H.size ≤ H1.size → (∀ q : Nat, q < H.size → ¬ A1 q → H1[q]? = H[q]?) → va_S A0 H0 H1 locs1 → W p l e R s m args below meth c H1 locs1 (cells + mc) (slots + ms) Q (F0 m (pc + 3) ls (.float r :: rest))) : W p l e R s m args below meth c H locs cells slots Q (F0 m pc ls st0) := by
  intro T hT X
  rcases hr T hT X with ⟨v, st₀, t, T', L, h0, X', hL, e1, e2, ⟨⟨r, u, hv, hp, hb⟩, hF⟩, st⟩ | ⟨q, st₀, t, T', L, E, ce, h0, X', hL, e1, e2, ⟨u, hp, hb, hF⟩, hce, hcv, hcl, st⟩
  · cases hv
    obtain ⟨k1, k2, k3⟩ := vx_keep h0 e1 hS hA hf hL hF
    obtain ⟨t2, a1, b1⟩ := kk r u t T'.heap (locs ++ L) e1.symm (by rw [← e2]; exact X'.warmed.alike) hp hb k1 k2 k3 T' rfl X'
    exact ⟨t2, st t2 a1, b1⟩
  · obtain ⟨k1, k2, k3⟩ := vx_keep h0 e1 hS hAX hf hL hF
    obtain ⟨t2, a1, b1⟩ := kx E ce q u t T'.heap (locs ++ L) e1.symm (by rw [← e2]; exact X'.warmed.alike) hp hb k1 k2 k3 (by rw [e1]; exact hce) hcv hcl T' rfl X'
    exact ⟨t2, st.trans a1, b1⟩
theorem vx_calld {S SX : Type} {post : UInt64 → S → Prop} {px : SX → Prop} {B : S → State → Prop} {BX : String → SX → State → Prop} {AX : Nat → Prop} (hr : vx_Run p l e R s m args below meth c H locs cells slots mc ms (F0 m pc ls st0) rest (va_Qd post B A1 a) (vx_X px BX AX) free) (hS : va_S A0 H0 H locs) (hA : ∀ q, q < H.size → A1 q → A0 q) (hf : ∀ q, free q → A0 q) (hAX : ∀ q, q < H.size → AX q → A0 q)
    (kx : ∀ (E : String) (ce : Cell) (q9 : Addr) (u : SX) (t : State) (H1 : Heap) (locs1 : List Loc), t.heap = H1 → s.vm.Alike t.vm → px u → BX E u t → H.size ≤ H1.size → (∀ q : Nat, q < H.size → ¬ AX q → H1[q]? = H[q]?) → va_S A0 H0 H1 locs1 → H1[q9]? = some ce → ce.vm = .none → s.vm.findClass E = some ce.cls → vx_W p l e R s m args below meth c H1 locs1 (cells + mc) (slots + ms) Q (F0 m pc ls rest) q9)
    (kk : ∀ (r : UInt64) (u : S) (t : State) (H1 : Heap) (locs1 : List Loc), t.heap = H1 → s.vm.Alike t.vm → post r u → B u t → H.size ≤ H1.size → (∀ q : Nat, q < H.size → ¬ A1 q → H1[q]? = H[q]?) → va_S A0 H0 H1 locs1 → W p l e R s m args below meth c H1 locs1 (cells + mc) (slots + ms) Q (F0 m (pc + 3) ls (.double r :: rest))) : W p l e R s m args below meth c H locs cells slots Q (F0 m pc ls st0) := by
  intro T hT X
  rcases hr T hT X with ⟨v, st₀, t, T', L, h0, X', hL, e1, e2, ⟨⟨r, u, hv, hp, hb⟩, hF⟩, st⟩ | ⟨q, st₀, t, T', L, E, ce, h0, X', hL, e1, e2, ⟨u, hp, hb, hF⟩, hce, hcv, hcl, st⟩
  · cases hv
    obtain ⟨k1, k2, k3⟩ := vx_keep h0 e1 hS hA hf hL hF
    obtain ⟨t2, a1, b1⟩ := kk r u t T'.heap (locs ++ L) e1.symm (by rw [← e2]; exact X'.warmed.alike) hp hb k1 k2 k3 T' rfl X'
    exact ⟨t2, st t2 a1, b1⟩
  · obtain ⟨k1, k2, k3⟩ := vx_keep h0 e1 hS hAX hf hL hF
    obtain ⟨t2, a1, b1⟩ := kx E ce q u t T'.heap (locs ++ L) e1.symm (by rw [← e2]; exact X'.warmed.alike) hp hb k1 k2 k3 (by rw [e1]; exact hce) hcv hcl T' rfl X'
    exact ⟨t2, st.trans a1, b1⟩
theorem vx_callv {S SX : Type} {post : S → Prop} {px : SX → Prop} {B : S → State → Prop} {BX : String → SX → State → Prop} {AX : Nat → Prop} (hr : vx_Run p l e R s m args below meth c H locs cells slots mc ms (F0 m pc ls st0) rest (va_Qv post B A1 a) (vx_X px BX AX) free) (hS : va_S A0 H0 H locs) (hA : ∀ q, q < H.size → A1 q → A0 q) (hf : ∀ q, free q → A0 q) (hAX : ∀ q, q < H.size → AX q → A0 q)
    (kx : ∀ (E : String) (ce : Cell) (q9 : Addr) (u : SX) (t : State) (H1 : Heap) (locs1 : List Loc), t.heap = H1 → s.vm.Alike t.vm → px u → BX E u t → H.size ≤ H1.size → (∀ q : Nat, q < H.size → ¬ AX q → H1[q]? = H[q]?) → va_S A0 H0 H1 locs1 → H1[q9]? = some ce → ce.vm = .none → s.vm.findClass E = some ce.cls → vx_W p l e R s m args below meth c H1 locs1 (cells + mc) (slots + ms) Q (F0 m pc ls rest) q9)
    (kk : ∀ (u : S) (t : State) (H1 : Heap) (locs1 : List Loc), t.heap = H1 → s.vm.Alike t.vm → post u → B u t → H.size ≤ H1.size → (∀ q : Nat, q < H.size → ¬ A1 q → H1[q]? = H[q]?) → va_S A0 H0 H1 locs1 → W p l e R s m args below meth c H1 locs1 (cells + mc) (slots + ms) Q (F0 m (pc + 3) ls (rest))) : W p l e R s m args below meth c H locs cells slots Q (F0 m pc ls st0) := by
  intro T hT X
  rcases hr T hT X with ⟨v, st₀, t, T', L, h0, X', hL, e1, e2, ⟨⟨u, hv, hp, hb⟩, hF⟩, st⟩ | ⟨q, st₀, t, T', L, E, ce, h0, X', hL, e1, e2, ⟨u, hp, hb, hF⟩, hce, hcv, hcl, st⟩
  · cases hv
    obtain ⟨k1, k2, k3⟩ := vx_keep h0 e1 hS hA hf hL hF
    obtain ⟨t2, a1, b1⟩ := kk u t T'.heap (locs ++ L) e1.symm (by rw [← e2]; exact X'.warmed.alike) hp hb k1 k2 k3 T' rfl X'
    exact ⟨t2, st t2 a1, b1⟩
  · obtain ⟨k1, k2, k3⟩ := vx_keep h0 e1 hS hAX hf hL hF
    obtain ⟨t2, a1, b1⟩ := kx E ce q u t T'.heap (locs ++ L) e1.symm (by rw [← e2]; exact X'.warmed.alike) hp hb k1 k2 k3 (by rw [e1]; exact hce) hcv hcl T' rfl X'
    exact ⟨t2, st.trans a1, b1⟩
/-- caught by the row x of this method's table; the rows ahead don't take it -/
theorem vx_catch {own name : String} {E : String} {ce : Cell} {q : Addr} (hown : s.vm.findClass own = some m.cls) (pre : List ExceptionTableEntry) (x : ExceptionTableEntry) (suf : List ExceptionTableEntry) (hsplit : c.exceptionTable.toList = pre ++ x :: suf)
    (hpass : ∀ z ∈ pre, covers z pc = false ∨ (z.catchType ≠ 0 ∧ ∃ nm : String, (Cond.classLink own z.catchType nm).before args s = true ∧ va_Nc E nm s)) (hx : covers x pc = true) (h0 : x.catchType ≠ 0)
    (hlink : (Cond.classLink own x.catchType name).before args s = true) (hcast : (Cond.castable E name).before args s = true) (hcell : H[q]? = some ce) (hv : ce.vm = .none) (hcl : s.vm.findClass E = some ce.cls)
    (kk : W p l e R s m args below meth c H locs cells slots Q (F0 m x.handlerPc ls [.ref q])) : vx_W p l e R s m args below meth c H locs cells slots Q (F0 m pc ls rest) q := by
  intro T hT X
  have hpl : e.platform.magicAccessors = ({} : Platform).magicAccessors := by rw [X.admits.platform]
  obtain ⟨c3, c4, hc3, hc4, hasg⟩ := Cond.castable_spec hcast
  cases Option.some.inj (hc3.symm.trans hcl)
  obtain ⟨c5, hc5, hcl5⟩ := Cond.classLink_spec hown hlink e.platform hpl
  cases Option.some.inj (hc4.symm.trans hc5)
  obtain ⟨vm', X', st⟩ := X.thenCaughtThrough q (g := F0 m pc ls rest) rfl (Steps.refl _) (by rw [hT]; exact hcell) (by rw [hv]; rfl) (by obtain ⟨k9, h9, -⟩ := Vm.findClass_spec hcl; exact ⟨k9, h9⟩) pre x suf hsplit
    (fun z hz => by
      rcases hpass z hz with h | ⟨hz0, nm, hl1, hn1⟩
      · exact Or.inl h
      · obtain ⟨c6, hc6, hcl6⟩ := Cond.classLink_spec hown hl1 e.platform hpl
        obtain ⟨a8, b8, h1, h2, h3⟩ := hn1
        cases Option.some.inj (h1.symm.trans hcl)
        cases Option.some.inj (h2.symm.trans hc6)
        exact Or.inr ⟨hz0, _, hcl6, h3⟩) hx (Or.inr ⟨h0, c4, hcl5, hasg⟩)
  obtain ⟨t, a1, b1⟩ := kk (T.setVm vm') hT X'
  exact ⟨t, st.trans a1, b1⟩
end Rows
section Ends
variable {p : Program} {l : Launch} {e : Env} {R : Room} {s : State} {m : MethodId} {args : Array Value} {below : List Frame} {meth : Method} {c : Code} {H : Heap} {locs : List Loc} {cells slots : Nat} {Q : State → Prop}
variable {mc ms : Nat} {free : Addr → Prop} {A0 A1 : Nat → Prop} {H0 : Heap} {a : Array Value} {ls : Array Slot} {st0 rest : List Value}
variable {Qc : Array Value → State → Outcome → State → Prop} {XC : String → State → State → Prop}
/-- what a body that may throw owes at its end -/
def vx_MQ (below : List Frame) (Qc : Array Value → State → Outcome → State → Prop) (XC : String → State → State → Prop) (a : Array Value) (s : State) (mc ms : Nat) (free : Addr → Prop) : State → Prop := fun t =>
  ∃ o, t.status = .running ∧ Ended t below o ∧ vx_Q Qc XC mc ms free a s o t
theorem vx_ret {g : JFrame} {mc ms : Nat} (k : W p l e R s m args below meth c H locs cells slots (MQ below Qc args s mc ms free) g) : W p l e R s m args below meth c H locs cells slots (vx_MQ below Qc XC args s mc ms free) g := by
  intro T hT X
  obtain ⟨t, a1, o, b1, b2, b3, b4⟩ := k T hT X
  exact ⟨t, a1, o, b1, b2, Or.inl ⟨b3, b4⟩⟩
/-- not caught here: it goes on to the caller -/
theorem vx_widen {g : JFrame} {q : Addr} {k n : Nat} (h1 : cells ≤ k) (h2 : slots ≤ n) (kk : vx_W p l e R s m args below meth c H locs k n Q g q) : vx_W p l e R s m args below meth c H locs cells slots Q g q := fun T hT X => kk T hT (stand_widen X h1 h2)
theorem vx_out {pc : Nat} {E : String} {ce : Cell} {q : Addr} {mc ms : Nat} (hout : ∀ x ∈ c.exceptionTable.toList, covers x pc = false) (hlocks : meth.locks = false) (hcell : H[q]? = some ce) (hv : ce.vm = .none) (hcl : s.vm.findClass E = some ce.cls)
    (hx : ∀ t : State, t.heap = H → s.vm.Alike t.vm → XC E s t) (hf : ∀ z ∈ locs, free z.base) (hc : cells ≤ mc) (hs : slots ≤ ms) :
    vx_W p l e R s m args below meth c H locs cells slots (vx_MQ below Qc XC args s mc ms free) (F0 m pc ls rest) q := by
  intro T hT X
  obtain ⟨st1, hrun, hend, hW, hsm⟩ := X.leaveThrown q (g := F0 m pc ls rest) rfl rfl rfl hout hlocks
  have hcell9 : (T.setFrames (.throwing q :: below)).heap[q]? = some ce := by
    show T.heap[q]? = some ce
    rw [hT]; exact hcell
  exact ⟨_, st1, .threw q, hrun, hend, Or.inr ⟨q, rfl, E, ce, locs, hx _ hT hW.alike, hcell9, hv, hcl, hW, hsm.mono hc hs, hf⟩⟩
theorem vx_frame {U : State} {k n : Nat} (h : s.sameButNew ({ U with vm := s.vm } : State) locs k n) : s.heap.size ≤ U.heap.size ∧ ∀ q : Nat, q < s.heap.size → (∀ z ∈ locs, z.base ≠ q) → U.heap[q]? = s.heap[q]? := by
  obtain ⟨-, h2, -, -, -, h6⟩ := h
  refine ⟨h2, fun q hq hz => ?_⟩
  obtain ⟨c9, e1, e2, e3, e4⟩ := h6 q _ (Array.getElem?_eq_getElem hq)
  have hs : c9.slots = (s.heap[q]).slots := Array.ext_getElem? fun i => e4 i fun hm => hz _ hm rfl
  have h9 : c9 = s.heap[q] := by
    rw [hs] at e2
    exact e2
  have e5 : U.heap[q]? = some c9 := e1
  rw [e5, h9, Array.getElem?_eq_getElem hq]
/-- the words of a throw but the four that speak of the heap -/
def vx_no (w : Cond) : Bool := decide (w ≠ .isRef (.static Bundle.tN "UNASSIGNED_STACK" Bundle.steD)) && decide (w ≠ .isRef (.static Bundle.tN "SUPPRESSED_SENTINEL" Bundle.listD)) && decide (w ≠ .laysStatic Bundle.tN "UNASSIGNED_STACK" Bundle.steD) && decide (w ≠ .laysStatic Bundle.tN "SUPPRESSED_SENTINEL" Bundle.listD)
def vx_at0 (own : String) (ic : Nat) (X : String) (names : List String) : List Cond := (Bundle.ownAtoms0 own ic X names).filter vx_no
def vx_atS (own : String) (ic : Nat) (X : String) (names : List String) : List Cond := (Bundle.ownAtoms own ic X names).filter vx_no
/-- a word that the tables alone decide, or a good one -/
def vx_ot (w : Cond) : Bool := w.onTables || goodWord w
theorem vx_ot_at {args a' : Array Value} {s U : State} {w : Cond} (hW : s.WarmedH U.vm) (hvm : s.vm = U.vm) (hg : vx_ot w = true) (h : w.before args s = true) : w.before a' U = true := by
  simp only [vx_ot, Bool.or_eq_true] at hg
  rcases hg with hg | hg
  · exact va_tabs hg hvm h
  · exact word_at hW (good_of_word hg) h
/-- a list's words: the good ones out of the method's own list, the others by premises of their own -/
theorem vx_hat {args : Array Value} {s : State} {L B : List Cond} (h1 : ∀ w ∈ L.filter goodWord, w.before args s = true) (h2 : ∀ w ∈ L.filter (fun w => !goodWord w), w ∈ B) (h3 : ∀ w ∈ B, w.before args s = true) : ∀ w ∈ L, w.before args s = true := by
  intro w hw
  by_cases g : goodWord w = true
  · exact h1 w (List.mem_filter.mpr ⟨hw, g⟩)
  · refine h3 w (h2 w (List.mem_filter.mpr ⟨hw, ?_⟩))
    show (!goodWord w) = true
    cases hgw : goodWord w
    · rfl
    · exact absurd hgw g
theorem vx_c {args : Array Value} {s : State} {w : Cond} {B : List Cond} (h : w.before args s = true) (t : ∀ w ∈ B, w.before args s = true) : ∀ w' ∈ w :: B, w'.before args s = true := fun w' h' => (List.mem_cons.mp h').elim (fun e => by rw [e]; exact h) (t w')
theorem vx_n {args : Array Value} {s : State} : ∀ w ∈ ([] : List Cond), w.before args s = true := fun _ h => nomatch h
theorem vx_own {args : Array Value} {s : State} {L : List Cond} (h1 : ∀ w ∈ L.filter vx_no, w.before args s = true)
    (hU : (Cond.isRef (.static Bundle.tN "UNASSIGNED_STACK" Bundle.steD)).before args s = true) (hN : (Cond.isRef (.static Bundle.tN "SUPPRESSED_SENTINEL" Bundle.listD)).before args s = true)
    (lU : (Cond.laysStatic Bundle.tN "UNASSIGNED_STACK" Bundle.steD).before args s = true) (lN : (Cond.laysStatic Bundle.tN "SUPPRESSED_SENTINEL" Bundle.listD).before args s = true) : ∀ w ∈ L, w.before args s = true := by
  intro w hw
  by_cases e1 : w = .isRef (.static Bundle.tN "UNASSIGNED_STACK" Bundle.steD)
  · rw [e1]; exact hU
  · by_cases e2 : w = .isRef (.static Bundle.tN "SUPPRESSED_SENTINEL" Bundle.listD)
    · rw [e2]; exact hN
    · by_cases e3 : w = .laysStatic Bundle.tN "UNASSIGNED_STACK" Bundle.steD
      · rw [e3]; exact lU
      · by_cases e4 : w = .laysStatic Bundle.tN "SUPPRESSED_SENTINEL" Bundle.listD
        · rw [e4]; exact lN
        · exact h1 w (List.mem_filter.mpr ⟨hw, by unfold vx_no; rw [decide_eq_true e1, decide_eq_true e2, decide_eq_true e3, decide_eq_true e4]; rfl⟩)
/-- where a static field lies, its class's statics cell in H -/
def vx_L (C n d : String) (A : Nat → Prop) (U : State) (H : Heap) : Prop := ∃ (c : ClassId) (k : Class) (i : Nat) (f : Field) (a : Nat) (cell : Cell), U.vm.findClass C = some c ∧ U.fieldFound? C n d = some (c, k, i, f) ∧ f.isStatic = true ∧ k.statics = some a ∧ H[a]? = some cell ∧ cell.vm.isStatics = true ∧ cell.cls = c ∧ f.slot < cell.slots.size ∧ k.staticTypes[f.slot]? = some f.type ∧ ¬ A a
theorem vx_L.moved {C n d : String} {A : Nat → Prop} {u U : State} {H : Heap} (hvm : u.vm.Alike U.vm) (h : vx_L C n d A u H) : vx_L C n d A U H := by
  obtain ⟨c, k, i, f, a, cell, h1, h2, h3, h4, h5, h6, h7, h8, h9, h10⟩ := h
  obtain ⟨k', hi', he⟩ := State.fieldFound?_setVm hvm h2
  exact ⟨c, k', i, f, a, cell, by rw [hvm.findClass]; exact h1, hi', h3, by rw [he]; exact h4, h5, h6, h7, h8, by rw [he]; exact h9, h10⟩
theorem vx_L.kept {C n d : String} {A : Nat → Prop} {U : State} {H H1 : Heap} (h : vx_L C n d A U H) (hq : ∀ a : Nat, a < H.size → ¬ A a → H1[a]? = H[a]?) : vx_L C n d A U H1 := by
  obtain ⟨c, k, i, f, a, cell, h1, h2, h3, h4, h5, h6, h7, h8, h9, h10⟩ := h
  exact ⟨c, k, i, f, a, cell, h1, h2, h3, h4, by rw [hq a (Array.getElem?_eq_some_iff.mp h5).1 h10]; exact h5, h6, h7, h8, h9, h10⟩
theorem vx_L.narrow {C n d : String} {A B : Nat → Prop} {U : State} {H : Heap} (h : vx_L C n d A U H) (hAB : ∀ q, B q → A q) : vx_L C n d B U H := by
  obtain ⟨c, k, i, f, a, cell, h1, h2, h3, h4, h5, h6, h7, h8, h9, h10⟩ := h
  exact ⟨c, k, i, f, a, cell, h1, h2, h3, h4, h5, h6, h7, h8, h9, fun z => h10 (hAB _ z)⟩
theorem vx_L.word {C n d : String} {A : Nat → Prop} {s : State} {args : Array Value} (h : vx_L C n d A s s.heap) : (Cond.laysStatic C n d).before args s = true := by
  obtain ⟨c, k, i, f, a, cell, h1, h2, h3, h4, h5, h6, h7, h8, h9, -⟩ := h
  show (Cond.laysStatic C n d).holds args s none s [] = true
  exact Cond.laysStatic_of h1 h2 h3 h4 h5 h6 h7 h8 h9
/-- .. and what it holds: null or some reference -/
def vx_Zq (C n d : String) (A : Nat → Prop) (U : State) (H : Heap) : Prop := va_Zq C n d A U H ∧ vx_L C n d A U H
theorem vx_Zq.moved {C n d : String} {A : Nat → Prop} {u U : State} {H : Heap} (hvm : u.vm.Alike U.vm) (h : vx_Zq C n d A u H) : vx_Zq C n d A U H := ⟨va_Zq.moved hvm h.1, vx_L.moved hvm h.2⟩
theorem vx_Zq.kept {C n d : String} {A : Nat → Prop} {U : State} {H H1 : Heap} (h : vx_Zq C n d A U H) (hq : ∀ a : Nat, a < H.size → ¬ A a → H1[a]? = H[a]?) : vx_Zq C n d A U H1 := ⟨va_Zq.kept h.1 hq, vx_L.kept h.2 hq⟩
theorem vx_Zq.narrow {C n d : String} {A B : Nat → Prop} {U : State} {H : Heap} (h : vx_Zq C n d A U H) (hAB : ∀ q, B q → A q) : vx_Zq C n d B U H := ⟨va_Zq.narrow h.1 hAB, vx_L.narrow h.2 hAB⟩
theorem vx_Zqof {args : Array Value} {s : State} {C n d : String} {A : Nat → Prop} (hl : (Cond.laysStatic C n d).before args s = true) (hini : (Cond.initialized C).before args s = true) (h : (Cond.isRef (.static C n d)).before args s = true) (hA : ∀ a : Nat, a < s.heap.size → ¬ A a) : vx_Zq C n d A s s.heap := by
  refine ⟨va_Zqof hl hini h hA, ?_⟩
  obtain ⟨c, k, i, f, a, cell, h1, h2, h3, h4, h5, h6, h7, h8, h9⟩ := Cond.laysStatic_spec hl
  exact ⟨c, k, i, f, a, cell, h1, h2, h3, h4, h5, h6, h7, h8, h9, hA a (Array.getElem?_eq_some_iff.mp h5).1⟩
theorem vx_isRef {C n d : String} {v : Value} {A : Nat → Prop} {s : State} {args : Array Value} (h : va_Z C n d v A s s.heap) (hv : v.isRef = true) : (Cond.isRef (.static C n d)).before args s = true := by
  obtain ⟨cf, kf, fi, f, a, cell, h1, h2, h3, h4, h5, h6, h7, -⟩ := h
  have he : (Term.static C n d).eval args s none [] s = some v := by
    simp [Term.eval, State.fieldNamed?, h1, h2, h4, h5, h6, h7]
  simp only [Cond.before, Cond.holds, Cond.value, he]
  cases v <;> simp_all [Value.isRef]
theorem vx_isRefq {C n d : String} {A : Nat → Prop} {s : State} {args : Array Value} (h : va_Zq C n d A s s.heap) : (Cond.isRef (.static C n d)).before args s = true := by
  rcases h with h | ⟨t, h⟩
  · exact vx_isRef h rfl
  · exact vx_isRef h rfl
/-- the same frame, seen from here: as if the method were called anew in this heap -/
theorem vx_rebase {T : State} (X : Stand p l e R s m args below meth c T locs cells slots) {R' : Room} (hf : R'.frames ≤ R.frames) (hl : R'.locals ≤ R.locals) (hc : cells + R'.cells ≤ R.cells) (hs : slots + R'.slots ≤ R.slots) :
    Stand p l e R' ((T.setVm s.vm).setFrames (.invoking m args :: below)) m args below meth c T [] 0 0 := by
  have htop : (T.setVm s.vm).topJava?.isSome := X.here.top
  have hF : ((T.setVm s.vm).setFrames (.invoking m args :: below)).frames = .invoking m args :: below := State.frames_setFrames _ (State.cur_lt_of_top htop)
  obtain ⟨g₀, hg0⟩ := Option.isSome_iff_exists.mp htop
  obtain ⟨r, hr⟩ := State.topJava?_eq_some.mp hg0
  have hl9 : e.platform.stackLimits (T.setVm s.vm).me = e.platform.stackLimits s.me := X.limits
  have hb9 : (T.setVm s.vm).me.stackBytes = s.me.stackBytes := X.bytes
  refine ⟨X.admits, X.cas, X.clock, hF, ?_, X.hears, X.method, X.code, X.here, X.tail, X.warmed, ?_, ?_, ?_⟩
  · have h := X.room
    have hU : ((T.setVm s.vm).setFrames (.invoking m args :: below)).localsInUse = s.localsInUse := by
      rw [State.localsInUse_invoking hF (meth := meth) (c := c) X.method X.code, State.localsInUse_invoking X.frames X.method X.code]
    simp only [State.hasRoom, Bool.and_eq_true, decide_eq_true_eq] at h ⊢
    obtain ⟨⟨⟨⟨h1, h2, h3, h4, h5, h6⟩, h7⟩, h8⟩, h9⟩ := h
    rw [X.frames, List.length_cons] at h2 h3
    have q1 := X.heapSize
    have q2 := X.used
    simp only [hF, hU, List.length_cons, State.stackLimits_setFrames, State.stackBytes_setFrames, hl9, hb9]
    refine ⟨⟨⟨⟨by omega, by omega, by omega, by omega, by omega, h6⟩, ?_⟩, ?_⟩, X.book⟩
    · show T.heap.size + R'.cells ≤ e.platform.maxCells
      omega
    · show T.slotsUsed + R'.slots ≤ e.platform.maxSlots
      omega
  · rw [State.stackLimits_setFrames]; rfl
  · rw [State.stackBytes_setFrames]; rfl
  · refine ⟨?_, Nat.le_refl _, Nat.le_refl _, ?_, ?_, fun a c9 h9 => ⟨c9, h9, rfl, rfl, fun _ _ => rfl⟩⟩
    · obtain ⟨t, ht, -⟩ := State.frames_cons hr
      show T.setVm s.vm = { ((T.setVm s.vm).setFrames (.invoking m args :: below)).setFrames (T.setVm s.vm).frames with heap := T.heap, slotsUsed := T.slotsUsed }
      rw [State.setFrames_setFrames, State.setFrames_self ht]
      rfl
    · show T.slotsUsed = T.slotsUsed + ((T.heap.toList.drop T.heap.size).map (·.slots.size)).sum
      rw [List.drop_eq_nil_of_le (Nat.le_of_eq Array.length_toList)]
      rfl
    · show ((T.heap.toList.drop T.heap.size).map (·.slots.size)).sum ≤ 0
      rw [List.drop_eq_nil_of_le (Nat.le_of_eq Array.length_toList)]
      exact Nat.le_refl _
/-- 'throw new E()': new; dup; invokespecial; athrow -/
theorem vx_throw0 {cc : ByteArray} {pc : Nat} (hexec : p.tables.exec = Jvm.exec) (hb : c.code = cc) (hl : l.stackTraces = false) {own cls : String} {names : List String} {ik ic mc ms : Nat} {A : Nat → Prop}
    (hown : s.vm.findClass own = some m.cls) (hcls : Bundle.fit cls = true) (hnames : ∀ n ∈ names, Bundle.fit n = true)
    (hk : (Cond.classLink own ik cls).before args s = true) (hini : (Cond.initialized cls).before args s = true) (hat : ∀ w ∈ vx_at0 own ic cls names, w.before args s = true)
    (hgood : ∀ w ∈ Cond.classLink own ik cls :: Cond.initialized cls :: vx_at0 own ic cls names, vx_ot w = true)
    (hU : vx_Zq Bundle.tN "UNASSIGNED_STACK" Bundle.steD A s s.heap) (hN : vx_Zq Bundle.tN "SUPPRESSED_SENTINEL" Bundle.listD A s s.heap) (hS : va_S A s.heap H locs) (hsize : ls.size = c.maxLocals)
    (d0 : decode cc pc = .ok (.new ik, 3)) (d3 : decode cc (pc + 3) = .ok (.dup, 1)) (d4 : decode cc (pc + 4) = .ok (.invokespecial ic, 3)) (d7 : decode cc (pc + 7) = .ok (.athrow, 1))
    (hout : ∀ x ∈ c.exceptionTable.toList, covers x (pc + 7) = false)
    (hRframes : names.length + 3 < R.frames) (hRlocals : (rest.map fun v => v.category).sum + (13 * (names.length + 1) + 42) ≤ R.locals) (hRcells : cells + 1 ≤ R.cells) (hRslots : slots + 6 ≤ R.slots) (hlocks : meth.locks = false)
    (hx : ∀ t : State, s.vm.Alike t.vm → H.size ≤ t.heap.size → (∀ q : Nat, q < H.size → t.heap[q]? = H[q]?) → XC cls s t)
    (hf : ∀ z ∈ locs, free z.base) (hc : cells + 1 ≤ mc) (hs : slots + 6 ≤ ms) :
    W p l e R s m args below meth c H locs cells slots (vx_MQ below Qc XC args s mc ms free) (F0 m pc ls rest) := by
  intro T hT X
  have htr : e.platform.stackTraces = false := (show e.platform.stackTraces = l.stackTraces by rw [X.admits.platform]).trans hl
  have Y := vx_rebase X (R' := { frames := R.frames, locals := R.locals, cells := 1, slots := 6 }) (Nat.le_refl _) (Nat.le_refl _) hRcells hRslots
  obtain ⟨s', hA⟩ : ∃ z, z = (T.setVm s.vm).setFrames (.invoking m args :: below) := ⟨_, rfl⟩
  rw [← hA] at Y
  have hvm : s'.vm = s.vm := by rw [hA]; rfl
  have hhp : s'.heap = H := by rw [hA]; exact hT
  have hW0 : s.WarmedH s'.vm := by rw [hvm]; exact State.WarmedH.refl s
  have hat' : ∀ w ∈ vx_at0 own ic cls names, w.before args s' = true := fun w hw => vx_ot_at hW0 hvm.symm (hgood w (List.mem_cons_of_mem _ (List.mem_cons_of_mem _ hw))) (hat w hw)
  have hk' : (Cond.classLink own ik cls).before args s' = true := vx_ot_at hW0 hvm.symm (hgood _ List.mem_cons_self) hk
  have hini' : (Cond.initialized cls).before args s' = true := vx_ot_at hW0 hvm.symm (hgood _ (List.mem_cons_of_mem _ List.mem_cons_self)) hini
  have hU' : vx_Zq Bundle.tN "UNASSIGNED_STACK" Bundle.steD A s' s'.heap := by rw [hhp]; exact vx_Zq.moved hW0.alike (hU.kept hS.2.1)
  have hN' : vx_Zq Bundle.tN "SUPPRESSED_SENTINEL" Bundle.listD A s' s'.heap := by rw [hhp]; exact vx_Zq.moved hW0.alike (hN.kept hS.2.1)
  have h : ∀ w ∈ Bundle.ownAtoms0 own ic cls names, w.before args s' = true := vx_own hat' (vx_isRefq hU'.1) (vx_isRefq hN'.1) hU'.2.word hN'.2.word
  have hown' : s'.vm.findClass own = some m.cls := by rw [hvm]; exact hown
  have hins : (Cond.instantiable cls 6).before args s' = true := h _ (by simp [Bundle.ownAtoms0])
  obtain ⟨vm₁, cX, kX, hfX, hkX, -, -, X₁, st1⟩ := Y.newCold hexec (own := own) (C := cls) (index := ik) (n := 6) hown' hk' hins hini'
    (g := F0 m pc ls rest) rfl (by rw [hb]; exact d0) (Nat.le_refl _) (Nat.le_refl _)
  generalize hT1 : (T.setVm vm₁).pushCell { cls := cX, slots := kX.instanceTypes.map defaultValue, vm := .none } = T1 at X₁ st1
  have hcat : (Value.ref T.heap.size).category = 1 := rfl
  have hcellA : T1.heap[T.heap.size]? = some (freshCell cX kX) := by rw [← hT1]; exact State.heap_pushCell_size _ _
  have d3' : decode c.code (pc + 3) = .ok (.dup, 1) := by rw [hb]; exact d3
  obtain ⟨U, hsteps, hrun, hend, hW, hsame, ce, hce, hO⟩ := X₁.ctorThrow0 hexec htr (own := own) (cls := cls) (names := names) (ic := ic) hown' hcls hnames h (fun x hx => nomatch hx) hfX hkX hcellA (by rw [hhp, hT]; exact Nat.le_refl _)
    (g := { method := m, pc := pc + 4, locals := ls, stack := .ref T.heap.size :: .ref T.heap.size :: rest, locked := none }) rfl hsize rfl rfl (rest := rest) rfl
    (by rw [hb]; exact d4) (by rw [hb]; exact d7) hout hRframes (by simp only [List.map_cons, List.sum_cons, hcat]; omega) hlocks
  obtain ⟨f1, f2⟩ := vx_frame hsame
  rw [hhp] at f1 f2
  have hWs : s.WarmedH U.vm := State.WarmedH.trans hW0 hW
  have hcl : s.vm.findClass cls = some ce.cls := by
    have h9 := hO.cls
    rw [hvm] at h9
    exact h9
  have hall : s.sameButNew ({ U with vm := s.vm } : State) locs mc ms := by
    subst hA
    obtain ⟨e1, e2⟩ := hsame
    rw [State.setFrames_setFrames] at e1
    have h2 : (T.setVm s.vm).sameButNew ({ U with vm := s.vm } : State) [] (0 + 1) (0 + 6) := ⟨e1, e2⟩
    have h3 := X.same.trans h2
    rw [List.append_nil] at h3
    exact h3.mono hc hs
  refine ⟨U, ?_, .threw T.heap.size, hrun, hend, Or.inr ⟨T.heap.size, rfl, cls, ce, locs, hx U hWs.alike f1 (fun q hq => f2 q hq (fun z hz => nomatch hz)), hce, hO.vm, hcl, hWs, hall, hf⟩⟩
  refine st1 _ ?_
  show Steps p.tables e below (T1.setTop { method := m, pc := pc + 3, locals := ls, stack := .ref T.heap.size :: rest, locked := none }) _
  jvm_step X₁.here [X₁.here.top, hexec, d3', Value.category]
  exact hsteps
/-- 'throw new E("text")': new; dup; ldc; invokespecial; athrow -/
theorem vx_throwS {cc : ByteArray} {pc : Nat} (hexec : p.tables.exec = Jvm.exec) (hb : c.code = cc) (hl : l.stackTraces = false) {own cls text : String} {names : List String} {ik is ic mc ms sa : Nat} {A : Nat → Prop}
    (hown : s.vm.findClass own = some m.cls) (hcls : Bundle.fit cls = true) (hnames : ∀ n ∈ names, Bundle.fit n = true)
    (hk : (Cond.classLink own ik cls).before args s = true) (hini : (Cond.initialized cls).before args s = true) (hstr : vk_R own is text sa s) (hat : ∀ w ∈ vx_atS own ic cls names, w.before args s = true)
    (hgood : ∀ w ∈ Cond.classLink own ik cls :: Cond.initialized cls :: vx_atS own ic cls names, vx_ot w = true)
    (hU : vx_Zq Bundle.tN "UNASSIGNED_STACK" Bundle.steD A s s.heap) (hN : vx_Zq Bundle.tN "SUPPRESSED_SENTINEL" Bundle.listD A s s.heap) (hS : va_S A s.heap H locs) (hsize : ls.size = c.maxLocals)
    (d0 : decode cc pc = .ok (.new ik, 3)) (d3 : decode cc (pc + 3) = .ok (.dup, 1)) (d4 : decode cc (pc + 4) = .ok (.ldc is, 2)) (d6 : decode cc (pc + 6) = .ok (.invokespecial ic, 3)) (d9 : decode cc (pc + 9) = .ok (.athrow, 1))
    (hout : ∀ x ∈ c.exceptionTable.toList, covers x (pc + 9) = false)
    (hRframes : names.length + 3 < R.frames) (hRlocals : (rest.map fun v => v.category).sum + (13 * (names.length + 1) + 43) ≤ R.locals) (hRcells : cells + 1 ≤ R.cells) (hRslots : slots + 6 ≤ R.slots) (hlocks : meth.locks = false)
    (hx : ∀ t : State, s.vm.Alike t.vm → H.size ≤ t.heap.size → (∀ q : Nat, q < H.size → t.heap[q]? = H[q]?) → XC cls s t)
    (hf : ∀ z ∈ locs, free z.base) (hc : cells + 1 ≤ mc) (hs : slots + 6 ≤ ms) :
    W p l e R s m args below meth c H locs cells slots (vx_MQ below Qc XC args s mc ms free) (F0 m pc ls rest) := by
  intro T hT X
  have htr : e.platform.stackTraces = false := (show e.platform.stackTraces = l.stackTraces by rw [X.admits.platform]).trans hl
  have Y := vx_rebase X (R' := { frames := R.frames, locals := R.locals, cells := 1, slots := 6 }) (Nat.le_refl _) (Nat.le_refl _) hRcells hRslots
  obtain ⟨s', hA⟩ : ∃ z, z = (T.setVm s.vm).setFrames (.invoking m args :: below) := ⟨_, rfl⟩
  rw [← hA] at Y
  have hvm : s'.vm = s.vm := by rw [hA]; rfl
  have hhp : s'.heap = H := by rw [hA]; exact hT
  have hW0 : s.WarmedH s'.vm := by rw [hvm]; exact State.WarmedH.refl s
  have hat' : ∀ w ∈ vx_atS own ic cls names, w.before args s' = true := fun w hw => vx_ot_at hW0 hvm.symm (hgood w (List.mem_cons_of_mem _ (List.mem_cons_of_mem _ hw))) (hat w hw)
  have hk' : (Cond.classLink own ik cls).before args s' = true := vx_ot_at hW0 hvm.symm (hgood _ List.mem_cons_self) hk
  have hini' : (Cond.initialized cls).before args s' = true := vx_ot_at hW0 hvm.symm (hgood _ (List.mem_cons_of_mem _ List.mem_cons_self)) hini
  have hU' : vx_Zq Bundle.tN "UNASSIGNED_STACK" Bundle.steD A s' s'.heap := by rw [hhp]; exact vx_Zq.moved hW0.alike (hU.kept hS.2.1)
  have hN' : vx_Zq Bundle.tN "SUPPRESSED_SENTINEL" Bundle.listD A s' s'.heap := by rw [hhp]; exact vx_Zq.moved hW0.alike (hN.kept hS.2.1)
  have h : ∀ w ∈ Bundle.ownAtoms own ic cls names, w.before args s' = true := vx_own hat' (vx_isRefq hU'.1) (vx_isRefq hN'.1) hU'.2.word hN'.2.word
  have hown' : s'.vm.findClass own = some m.cls := by rw [hvm]; exact hown
  have hins : (Cond.instantiable cls 6).before args s' = true := h _ (by simp [Bundle.ownAtoms])
  obtain ⟨vm₁, cX, kX, hfX, hkX, -, -, X₁, st1⟩ := Y.newCold hexec (own := own) (C := cls) (index := ik) (n := 6) hown' hk' hins hini'
    (g := F0 m pc ls rest) rfl (by rw [hb]; exact d0) (Nat.le_refl _) (Nat.le_refl _)
  generalize hT1 : (T.setVm vm₁).pushCell { cls := cX, slots := kX.instanceTypes.map defaultValue, vm := .none } = T1 at X₁ st1
  have hcat : (Value.ref T.heap.size).category = 1 := rfl
  have hcellA : T1.heap[T.heap.size]? = some (freshCell cX kX) := by rw [← hT1]; exact State.heap_pushCell_size _ _
  have d3' : decode c.code (pc + 3) = .ok (.dup, 1) := by rw [hb]; exact d3
  have d4' : decode c.code (pc + 4) = .ok (.ldc is, 2) := by rw [hb]; exact d4
  have hstr' : vk_R own is text sa s' := vk_R.warm hW0 hstr
  obtain ⟨U, hsteps, hrun, hend, hW, hsame, ce, hce, hO⟩ := X₁.ctorThrowS hexec htr (own := own) (cls := cls) (names := names) (ic := ic) hown' hcls hnames h (fun x hx => nomatch hx) hfX hkX hcellA (by rw [hhp, hT]; exact Nat.le_refl _) (msg := .ref sa) rfl
    (g := { method := m, pc := pc + 6, locals := ls, stack := .ref sa :: .ref T.heap.size :: .ref T.heap.size :: rest, locked := none }) rfl hsize rfl rfl (rest := rest) rfl
    (by rw [hb]; exact d6) (by rw [hb]; exact d9) hout hRframes (by simp only [List.map_cons, List.sum_cons, hcat]; omega) hlocks
  obtain ⟨f1, f2⟩ := vx_frame hsame
  rw [hhp] at f1 f2
  have hWs : s.WarmedH U.vm := State.WarmedH.trans hW0 hW
  have hcl : s.vm.findClass cls = some ce.cls := by
    have h9 := hO.cls
    rw [hvm] at h9
    exact h9
  have hall : s.sameButNew ({ U with vm := s.vm } : State) locs mc ms := by
    subst hA
    obtain ⟨e1, e2⟩ := hsame
    rw [State.setFrames_setFrames] at e1
    have h2 : (T.setVm s.vm).sameButNew ({ U with vm := s.vm } : State) [] (0 + 1) (0 + 6) := ⟨e1, e2⟩
    have h3 := X.same.trans h2
    rw [List.append_nil] at h3
    exact h3.mono hc hs
  refine ⟨U, ?_, .threw T.heap.size, hrun, hend, Or.inr ⟨T.heap.size, rfl, cls, ce, locs, hx U hWs.alike f1 (fun q hq => f2 q hq (fun z hz => nomatch hz)), hce, hO.vm, hcl, hWs, hall, hf⟩⟩
  refine st1 _ ?_
  show Steps p.tables e below (T1.setTop { method := m, pc := pc + 3, locals := ls, stack := .ref T.heap.size :: rest, locked := none }) _
  jvm_step X₁.here [X₁.here.top, hexec, d3', Value.category]
  exact X₁.ldcString hexec (own := own) (text := text) (index := is) (a := sa) hown' hstr'.1 hstr'.2
    (g := { method := m, pc := pc + 4, locals := ls, stack := .ref T.heap.size :: .ref T.heap.size :: rest, locked := none }) rfl d4' _ hsteps
/-- 'throw new E("text")', the text by a wide index -/
theorem vx_throwSW {cc : ByteArray} {pc : Nat} (hexec : p.tables.exec = Jvm.exec) (hb : c.code = cc) (hl : l.stackTraces = false) {own cls text : String} {names : List String} {ik is ic mc ms sa : Nat} {A : Nat → Prop}
    (hown : s.vm.findClass own = some m.cls) (hcls : Bundle.fit cls = true) (hnames : ∀ n ∈ names, Bundle.fit n = true)
    (hk : (Cond.classLink own ik cls).before args s = true) (hini : (Cond.initialized cls).before args s = true) (hstr : vk_R own is text sa s) (hat : ∀ w ∈ vx_atS own ic cls names, w.before args s = true)
    (hgood : ∀ w ∈ Cond.classLink own ik cls :: Cond.initialized cls :: vx_atS own ic cls names, vx_ot w = true)
    (hU : vx_Zq Bundle.tN "UNASSIGNED_STACK" Bundle.steD A s s.heap) (hN : vx_Zq Bundle.tN "SUPPRESSED_SENTINEL" Bundle.listD A s s.heap) (hS : va_S A s.heap H locs) (hsize : ls.size = c.maxLocals)
    (d0 : decode cc pc = .ok (.new ik, 3)) (d3 : decode cc (pc + 3) = .ok (.dup, 1)) (d4 : decode cc (pc + 4) = .ok (.ldc_w is, 3)) (d7 : decode cc (pc + 7) = .ok (.invokespecial ic, 3)) (d10 : decode cc (pc + 10) = .ok (.athrow, 1))
    (hout : ∀ x ∈ c.exceptionTable.toList, covers x (pc + 10) = false)
    (hRframes : names.length + 3 < R.frames) (hRlocals : (rest.map fun v => v.category).sum + (13 * (names.length + 1) + 43) ≤ R.locals) (hRcells : cells + 1 ≤ R.cells) (hRslots : slots + 6 ≤ R.slots) (hlocks : meth.locks = false)
    (hx : ∀ t : State, s.vm.Alike t.vm → H.size ≤ t.heap.size → (∀ q : Nat, q < H.size → t.heap[q]? = H[q]?) → XC cls s t)
    (hf : ∀ z ∈ locs, free z.base) (hc : cells + 1 ≤ mc) (hs : slots + 6 ≤ ms) :
    W p l e R s m args below meth c H locs cells slots (vx_MQ below Qc XC args s mc ms free) (F0 m pc ls rest) := by
  intro T hT X
  have htr : e.platform.stackTraces = false := (show e.platform.stackTraces = l.stackTraces by rw [X.admits.platform]).trans hl
  have Y := vx_rebase X (R' := { frames := R.frames, locals := R.locals, cells := 1, slots := 6 }) (Nat.le_refl _) (Nat.le_refl _) hRcells hRslots
  obtain ⟨s', hA⟩ : ∃ z, z = (T.setVm s.vm).setFrames (.invoking m args :: below) := ⟨_, rfl⟩
  rw [← hA] at Y
  have hvm : s'.vm = s.vm := by rw [hA]; rfl
  have hhp : s'.heap = H := by rw [hA]; exact hT
  have hW0 : s.WarmedH s'.vm := by rw [hvm]; exact State.WarmedH.refl s
  have hat' : ∀ w ∈ vx_atS own ic cls names, w.before args s' = true := fun w hw => vx_ot_at hW0 hvm.symm (hgood w (List.mem_cons_of_mem _ (List.mem_cons_of_mem _ hw))) (hat w hw)
  have hk' : (Cond.classLink own ik cls).before args s' = true := vx_ot_at hW0 hvm.symm (hgood _ List.mem_cons_self) hk
  have hini' : (Cond.initialized cls).before args s' = true := vx_ot_at hW0 hvm.symm (hgood _ (List.mem_cons_of_mem _ List.mem_cons_self)) hini
  have hU' : vx_Zq Bundle.tN "UNASSIGNED_STACK" Bundle.steD A s' s'.heap := by rw [hhp]; exact vx_Zq.moved hW0.alike (hU.kept hS.2.1)
  have hN' : vx_Zq Bundle.tN "SUPPRESSED_SENTINEL" Bundle.listD A s' s'.heap := by rw [hhp]; exact vx_Zq.moved hW0.alike (hN.kept hS.2.1)
  have h : ∀ w ∈ Bundle.ownAtoms own ic cls names, w.before args s' = true := vx_own hat' (vx_isRefq hU'.1) (vx_isRefq hN'.1) hU'.2.word hN'.2.word
  have hown' : s'.vm.findClass own = some m.cls := by rw [hvm]; exact hown
  have hins : (Cond.instantiable cls 6).before args s' = true := h _ (by simp [Bundle.ownAtoms])
  obtain ⟨vm₁, cX, kX, hfX, hkX, -, -, X₁, st1⟩ := Y.newCold hexec (own := own) (C := cls) (index := ik) (n := 6) hown' hk' hins hini'
    (g := F0 m pc ls rest) rfl (by rw [hb]; exact d0) (Nat.le_refl _) (Nat.le_refl _)
  generalize hT1 : (T.setVm vm₁).pushCell { cls := cX, slots := kX.instanceTypes.map defaultValue, vm := .none } = T1 at X₁ st1
  have hcat : (Value.ref T.heap.size).category = 1 := rfl
  have hcellA : T1.heap[T.heap.size]? = some (freshCell cX kX) := by rw [← hT1]; exact State.heap_pushCell_size _ _
  have d3' : decode c.code (pc + 3) = .ok (.dup, 1) := by rw [hb]; exact d3
  have d4' : decode c.code (pc + 4) = .ok (.ldc_w is, 3) := by rw [hb]; exact d4
  have hstr' : vk_R own is text sa s' := vk_R.warm hW0 hstr
  obtain ⟨U, hsteps, hrun, hend, hW, hsame, ce, hce, hO⟩ := X₁.ctorThrowS hexec htr (own := own) (cls := cls) (names := names) (ic := ic) hown' hcls hnames h (fun x hx => nomatch hx) hfX hkX hcellA (by rw [hhp, hT]; exact Nat.le_refl _) (msg := .ref sa) rfl
    (g := { method := m, pc := pc + 7, locals := ls, stack := .ref sa :: .ref T.heap.size :: .ref T.heap.size :: rest, locked := none }) rfl hsize rfl rfl (rest := rest) rfl
    (by rw [hb]; exact d7) (by rw [hb]; exact d10) hout hRframes (by simp only [List.map_cons, List.sum_cons, hcat]; omega) hlocks
  obtain ⟨f1, f2⟩ := vx_frame hsame
  rw [hhp] at f1 f2
  have hWs : s.WarmedH U.vm := State.WarmedH.trans hW0 hW
  have hcl : s.vm.findClass cls = some ce.cls := by
    have h9 := hO.cls
    rw [hvm] at h9
    exact h9
  have hall : s.sameButNew ({ U with vm := s.vm } : State) locs mc ms := by
    subst hA
    obtain ⟨e1, e2⟩ := hsame
    rw [State.setFrames_setFrames] at e1
    have h2 : (T.setVm s.vm).sameButNew ({ U with vm := s.vm } : State) [] (0 + 1) (0 + 6) := ⟨e1, e2⟩
    have h3 := X.same.trans h2
    rw [List.append_nil] at h3
    exact h3.mono hc hs
  refine ⟨U, ?_, .threw T.heap.size, hrun, hend, Or.inr ⟨T.heap.size, rfl, cls, ce, locs, hx U hWs.alike f1 (fun q hq => f2 q hq (fun z hz => nomatch hz)), hce, hO.vm, hcl, hWs, hall, hf⟩⟩
  refine st1 _ ?_
  show Steps p.tables e below (T1.setTop { method := m, pc := pc + 3, locals := ls, stack := .ref T.heap.size :: rest, locked := none }) _
  jvm_step X₁.here [X₁.here.top, hexec, d3', Value.category]
  exact X₁.ldcStringW hexec (own := own) (text := text) (index := is) (a := sa) hown' hstr'.1 hstr'.2
    (g := { method := m, pc := pc + 4, locals := ls, stack := .ref T.heap.size :: .ref T.heap.size :: rest, locked := none }) rfl d4' _ hsteps
end Ends
section Bodies
variable {l : Launch}
theorem vx_ofW {y : MethodName} {ws ws' : List Cond} {rm : Room} {Pc : Array Value → State → Prop} {Qc : Array Value → State → Outcome → State → Prop} {XC : String → State → State → Prop} {mc ms : Nat} {free : Addr → Prop} {cc : ByteArray} {maxL : Nat} {ret : Option FieldType}
    (hy : plainName y.cls = true) (hw : ws = Cond.code y cc maxL ret :: ws')
    (body : ∀ p e s m args below meth c s₁, BodyLoose p l y (headSpec ws rm) cc maxL ret e s m args below meth c s₁ → c.maxLocals = maxL → (∀ x ∈ c.exceptionTable.toList, False) → Pc args s →
      W p l e (headSpec ws rm).room s m args below meth c s.heap [] 0 0 (vx_MQ below Qc XC args s mc ms free) (entryFrame m args maxL)) : vx_Met l y ws rm Pc Qc XC mc ms free := by
  refine MetFree.of_bodyS (code := cc) (maxLocals := maxL) (ret := ret) hy ?_ ?_
  · intro args s m h hn
    obtain ⟨meth, c, h1, h2, h3, h4, h5, h6, -, -⟩ := Cond.code_spec hn (atoms_spec (ws := ws) h _ (by rw [hw]; exact List.mem_cons_self))
    exact ⟨meth, c, h1, h2, h3, h4, h5, h6⟩
  · intro p e s m args below meth c s₁ B hml hP _
    have hh0 : s₁.heap = s.heap := by rw [B.state]; rfl
    have ht : ∀ x ∈ c.exceptionTable.toList, False := by
      obtain ⟨meth9, c9, h1, h2, -, -, -, -, h7, -⟩ := Cond.code_spec B.named (atoms_spec (ws := ws) B.pre _ (by rw [hw]; exact List.mem_cons_self))
      cases Option.some.inj (h1.symm.trans B.method)
      cases Option.some.inj (h2.symm.trans (Stand.of_body B).code)
      intro x hx
      rw [Array.isEmpty_iff.mp h7] at hx
      cases hx
    obtain ⟨t, a1, o, b1, b2, b3⟩ := body p e s m args below meth c s₁ B hml ht hP s₁ hh0 (Stand.of_body B)
    exact ⟨t, o, a1, b1, b2, b3⟩
/-- the table of a body with handlers -/
theorem vx_table {p : Program} {x y : MethodName} {S : Spec} {cc bytes : ByteArray} {maxL maxL' : Nat} {ret ret' : Option FieldType} {e : Env} {s s₁ : State} {m : MethodId} {args : Array Value} {below : List Frame} {meth : Method} {c : Code} {hh : List (Nat × Nat × Nat × Nat)}
    (B : BodyLoose p l y S cc maxL ret e s m args below meth c s₁) (h : (Cond.codeWith y bytes maxL' ret' hh).before args s = true) : c.exceptionTable.toList = tableOf hh := by
  obtain ⟨m9, meth9, c9, hn9, h1, h2, -, -, h6, -⟩ := Cond.codeWith_spec h
  cases Option.some.inj (hn9.symm.trans B.named)
  cases Option.some.inj (h1.symm.trans B.method)
  cases Option.some.inj (h2.symm.trans (Stand.of_body B).code)
  rw [← h6, table_eq]
end Bodies
end VXA
/-! ===== END ===== -/
/-! ===== BEGIN a static call of a method with an exception table ===== -/
section VXS
variable {p : Program} {l : Launch} {e : Env} {R : Room} {s : State} {m : MethodId} {args : Array Value} {below : List Frame} {meth : Method} {c : Code} {T : State} {H : Heap} {locs : List Loc} {cells slots : Nat}
abbrev vx_CSW (R : Room) (s : State) (args : Array Value) (own : String) (index : Nat) (y : MethodName) (bytes : ByteArray) (maxL : Nat) (ret : Option FieldType) (hh : List (Nat × Nat × Nat × Nat)) (ws : List Cond) (rm : Room) (mc ms n : Nat) : Prop :=
  (rm.cells = mc ∧ rm.slots = ms ∧ rm.frames + 1 ≤ R.frames ∧ 8 + (maxL + 11) + rm.locals ≤ R.locals ∧ (∀ w ∈ ws, ∀ (a' : Array Value) (U : State), s.WarmedH U.vm → w.before a' U = true) ∧ Cond.codeWith y bytes maxL ret hh ∈ ws) ∧
  (Cond.codeWith y bytes maxL ret hh).before args s = true ∧ (Cond.initialized y.cls).before args s = true ∧ (y.cls ≠ "java/lang/invoke/MethodHandle" ∧ y.cls ≠ "java/lang/invoke/VarHandle") ∧
  (∀ sig, parseMethodDescriptor y.desc = some sig → n = sig.parameters.length) ∧ (Cond.methodLink own index y).before args s = true ∧ (Cond.static y).before args s = true
theorem vx_cwSW {own : String} {index maxL mc ms : Nat} {y : MethodName} {bytes : ByteArray} {ret : Option FieldType} {hh : List (Nat × Nat × Nat × Nat)} {Ts ws ws' : List Cond} {rm : Room} (n : Nat) (ht : ∀ w ∈ Ts, w.before args s = true) (hT : GoodIn Ts (va_wsS own index y ws)) (hw : ws = Cond.codeWith y bytes maxL ret hh :: ws') (hrc : rm.cells = mc) (hrs : rm.slots = ms)
    (hd : y.cls ≠ "java/lang/invoke/MethodHandle" ∧ y.cls ≠ "java/lang/invoke/VarHandle" ∧ (parseMethodDescriptor y.desc).map (fun d => d.parameters.length) = some n) (hR : rm.frames + 1 ≤ R.frames ∧ 8 + (maxL + 11) + rm.locals ≤ R.locals) :
    vx_CSW R s args own index y bytes maxL ret hh ws rm mc ms n := by
  have ok : ∀ w ∈ va_wsS own index y ws, w.before args s = true := fun w h => ht w (hT w h).1
  have hG : GoodIn Ts ws := fun w h => hT w (by unfold va_wsS; exact List.mem_append_right _ h)
  have hc : Cond.codeWith y bytes maxL ret hh ∈ ws := by rw [hw]; exact List.mem_cons_self
  refine ⟨⟨hrc, hrs, hR.1, hR.2, pay_in ht hG, hc⟩, ht _ (hG _ hc).1, ok _ (by simp [va_wsS]), ⟨hd.1, hd.2.1⟩, fun sig h => ?_, ok _ (by simp [va_wsS]), ok _ (by simp [va_wsS])⟩
  have h2 := hd.2.2
  rw [h] at h2
  exact (Option.some.inj h2).symm
theorem vx_callSW (X : Stand p l e R s m args below meth c T locs cells slots) (hexec : p.tables.exec = Jvm.exec) {own : String} {index : Nat} {y : MethodName} {bytes : ByteArray} {maxL : Nat} {ret : Option FieldType} {hh : List (Nat × Nat × Nat × Nat)}
    (hown : s.vm.findClass own = some m.cls) (hlink : (Cond.methodLink own index y).before args s = true) (hstat : (Cond.static y).before args s = true) (hinit : (Cond.initialized y.cls).before args s = true)
    (hcode : (Cond.codeWith y bytes maxL ret hh).before args s = true) (hy : y.cls ≠ "java/lang/invoke/MethodHandle" ∧ y.cls ≠ "java/lang/invoke/VarHandle")
    {W9 : Nat} {Pre : Pt → Array Value → Prop} {Post : Pt → Array Value → Option Value → Pt → Prop} (hK : Back l R p e below s args y 3 W9 Pre Post)
    {g : JFrame} (hg : g.method = m) (hsize : g.locals.size = c.maxLocals) {argsL rest : List Value} (hlen : ∀ sig, parseMethodDescriptor y.desc = some sig → argsL.length = sig.parameters.length)
    (hstack : g.stack = argsL.reverse ++ rest) (hW : 2 * g.monitorRoom + (rest.map fun v => v.category).sum ≤ W9) (hdg : decode c.code g.pc = .ok (.invokestatic index, 3))
    (hpre : ∀ vm₁, s.WarmedH vm₁ → Pre ⟨T.setVm vm₁, locs, cells, slots⟩ argsL.toArray) :
    ∃ (v : Option Value) (vm₁ : Vm) (B : Pt), s.WarmedH vm₁ ∧ Stand p l e R s m args below meth c B.U B.locs B.cells B.slots ∧ Post ⟨T.setVm vm₁, locs, cells, slots⟩ argsL.toArray v B ∧
      ∀ target, Steps p.tables e below (B.U.setTop { g with pc := g.pc + 3, stack := v.toList ++ rest }) target → Steps p.tables e below (T.setTop g) target := by
  obtain ⟨mk, methM, cM, hnamed, hmethM, -, -, -, -, -, -, hsigM⟩ := Cond.codeWith_spec hcode
  have hstatic : methM.isStatic = true := Cond.static_spec hnamed hmethM hstat
  obtain ⟨kP, hkP, -⟩ := className_of_methodNamed hnamed
  have hinitP : kP.init = .initialized := Cond.initialized_spec (findClass_of_methodNamed hnamed) hkP hinit
  obtain ⟨vm₁, X₁, hstep₁⟩ := X.invokestatic hexec hown hlink hnamed hmethM hstatic hkP hinitP hy (g := g) hg (argsL := argsL) (rest := rest) (hlen _ hsigM) hstack hdg
  obtain ⟨v, B, X', hpost, hsteps⟩ := hK m meth c ⟨T.setVm vm₁, locs, cells, slots⟩ { g with stack := rest } (.invokestatic index) mk argsL.toArray X₁ hg hsize hdg hW (X₁.named hnamed) (hpre vm₁ X₁.warmed)
  exact ⟨v, vm₁, B, X₁.warmed, X', hpost, fun target h => hstep₁ _ fun acts => by rw [doInvoke_state]; exact hsteps.trans h⟩
theorem vx_runSW {y : MethodName} {bytes cc : ByteArray} {maxL nL mc ms n index : Nat} {ret : Option FieldType} {hh : List (Nat × Nat × Nat × Nat)} {ws : List Cond} {rm : Room} {Pc : Array Value → State → Prop} {Qc : Array Value → State → Outcome → State → Prop} {free : Addr → Prop} {Ts : List Cond} {own : String} {As rest : List Value} {g : JFrame}
    (S : CallFix p m c cc nL s args Ts own) (hM : Met l y ws rm Pc Qc mc ms free) (cw : vx_CSW R s args own index y bytes maxL ret hh ws rm mc ms n) (hp : PreS s H Pc As)
    (hg : g.method = m) (hn : As.length = n) (hsize : g.locals.size = nL) (hstack : g.stack = As.reverse ++ rest) (hW : 2 * g.monitorRoom + (rest.map fun v => v.category).sum ≤ 8) (hdg : decode cc g.pc = .ok (.invokestatic index, 3)) (hf : cells + mc ≤ R.cells ∧ slots + ms ≤ R.slots) :
    va_Run p l e R s m args below meth c H locs cells slots mc ms g rest (Qc As.toArray) (free) := by
  obtain ⟨⟨hrc, hrs, hfr, hlo, hws, hcw⟩, hcode, hini, hy, hlen, hl, hstt⟩ := cw
  have hK : Back l R p e below s args y 3 8 (PreOf R mc ms Pc) (PostOf Qc mc ms free) := va_backW (hh := hh) (bytes := bytes) (maxL := maxL) (ret := ret) hM hp.1 hrc hrs hfr hlo hws hcw (fun a' U hW => word_at hW (Or.inl (by first | rfl | simp [Cond.onTables, Cond.keeps, Cond.steady])) hini)
  obtain ⟨hx, hb, hml, ho, -⟩ := S
  intro T hT X
  obtain ⟨v, vm₁, ⟨U', l2, c2, s2⟩, hW₁, X', ⟨g', mk, t, L, e1, e2, hq, h1, hL, h2, h3⟩, st⟩ := vx_callSW X hx (hh := hh) (bytes := bytes) (maxL := maxL) (ret := ret) ho hl hstt hini hcode hy hK hg (hsize.trans hml.symm) (argsL := As) (rest := rest) (fun sig h => hn.trans (hlen sig h)) hstack hW (by rw [hb]; exact hdg)
    (fun vm₁ hW₁ => ⟨hf.1, hf.2, hp.2 (T.setVm vm₁) hT hW₁⟩)
  dsimp only [Pt.U, Pt.locs, Pt.cells, Pt.slots] at X' e1 e2 h1 h2 h3 st
  subst h1; subst h2; subst h3
  exact ⟨v, (T.setVm vm₁).calling g' mk As.toArray, t, U', L, hT, X', hL, e1, e2, hq, st⟩
/-- not caught here, past rows that name other classes: it goes on to the caller -/
theorem vx_outP {p : Program} {l : Launch} {e : Env} {R : Room} {s : State} {m : MethodId} {args : Array Value} {below : List Frame} {meth : Method} {c : Code} {H : Heap} {locs : List Loc} {cells slots : Nat} {free : Addr → Prop} {ls : Array Slot} {rest : List Value} {Qc : Array Value → State → Outcome → State → Prop} {XC : String → State → State → Prop}
    {pc : Nat} {own E : String} {ce : Cell} {q : Addr} {mc ms : Nat} (hown : s.vm.findClass own = some m.cls) (hlocks : meth.locks = false)
    (hpass : ∀ z ∈ c.exceptionTable.toList, covers z pc = false ∨ (z.catchType ≠ 0 ∧ ∃ nm : String, (Cond.classLink own z.catchType nm).before args s = true ∧ va_Nc E nm s)) (hcell : H[q]? = some ce) (hv : ce.vm = .none) (hcl : s.vm.findClass E = some ce.cls)
    (hx : ∀ t : State, t.heap = H → s.vm.Alike t.vm → XC E s t) (hf : ∀ z ∈ locs, free z.base) (hc : cells ≤ mc) (hs : slots ≤ ms) :
    vx_W p l e R s m args below meth c H locs cells slots (vx_MQ below Qc XC args s mc ms free) (F0 m pc ls rest) q := by
  intro T hT X
  have hpl : e.platform.magicAccessors = ({} : Platform).magicAccessors := by rw [X.admits.platform]
  obtain ⟨vm', hW', X', st⟩ := X.outThrough hlocks q (g := F0 m pc ls rest) rfl rfl rfl (cell := ce) (by rw [hT]; exact hcell) (by rw [hv]; rfl)
    (by obtain ⟨k9, h9, -⟩ := Vm.findClass_spec hcl; exact ⟨k9, h9⟩) (fun z hz => by
      rcases hpass z hz with h | ⟨hz0, nm, hl1, hn1⟩
      · exact Or.inl h
      · obtain ⟨c6, hc6, hcl6⟩ := Cond.classLink_spec hown hl1 e.platform hpl
        obtain ⟨a8, b8, h1, h2, h3⟩ := hn1
        cases Option.some.inj (h1.symm.trans hcl)
        cases Option.some.inj (h2.symm.trans hc6)
        exact Or.inr ⟨hz0, _, hcl6, h3⟩)
  obtain ⟨g₀, hfr⟩ := X'.frames_eq
  have hcell9 : ((T.setVm vm').setFrames (.throwing q :: below)).heap[q]? = some ce := by
    show T.heap[q]? = some ce
    rw [hT]; exact hcell
  have hend : Ended ((T.setVm vm').setFrames (.throwing q :: below)) below (.threw q) := State.frames_setFrames _ (State.cur_lt_of_frames hfr)
  refine ⟨(T.setVm vm').setFrames (.throwing q :: below), ?_, .threw q, X'.here.running, hend, Or.inr ⟨q, rfl, E, ce, locs, hx _ hT (X'.ends _).1.alike, hcell9, hv, hcl, (X'.ends _).1, (X'.ends _).2.mono hc hs, hf⟩⟩
  rw [X.pushThrowing_eq]
  exact st
/-- a thing of a world lies in the heap -/
theorem vx_lt {D : va_G} {cl : List vw_C} {ws : va_W} {H1 : Heap} (h : va_P D cl ws H1) {k : Nat} {q : Nat × va_E} (hk : ws[k]? = some q) : q.1 < H1.size := (h k q hk).lt
end VXS
/-! ===== END ===== -/
/-! ===== BEGIN methods with a table of their own: called by a name, returning or throwing ===== -/
section VXH
/-! vx_backW, vx_callVX, vx_callSX, vx_callVW, vx_runVW, vx_runVX, vx_runSX, vx_ofWH follow the same proofs as their sisters above (Free/Laws.lean, Shelf42/LK1.lean); vx_outP calls Shelf42/NT130.lean (outThrough). -/
section
variable {l : Launch} {R : Room} {p : Program} {e : Env} {below : List Frame} {s : State} {sargs : Array Value} {y : MethodName} {len W9 : Nat}
theorem vx_backW {ws : List Cond} {rm : Room} {Pc : Array Value → State → Prop} {Qc : Array Value → State → Outcome → State → Prop} {XC : String → State → State → Prop} {mc ms : Nat} {free : Addr → Prop} {bytes : ByteArray} {maxL : Nat} {ret : Option FieldType} {hh : List (Nat × Nat × Nat × Nat)}
    (hM : vx_Met l y ws rm Pc Qc XC mc ms free) (hblind : FrameBlind Pc) (hrc : rm.cells = mc) (hrs : rm.slots = ms)
    (hframes : rm.frames + 1 ≤ R.frames) (hlocals : W9 + (maxL + 11) + rm.locals ≤ R.locals)
    (hws : ∀ w ∈ ws, ∀ a' U, s.WarmedH U.vm → w.before a' U = true) (hcode : Cond.codeWith y bytes maxL ret hh ∈ ws) (hinit : ∀ a' U, s.WarmedH U.vm → (Cond.initialized y.cls).before a' U = true) :
    vx_Back l R p e below s sargs y len W9 (PreOf R mc ms Pc) (PostOf Qc mc ms free) (vx_Post XC mc ms free) := by
  intro m meth c A g ig mk a X hg hsize hdg hW hn hp
  have h1 : (headSpec ws rm).pre.before a A.U = true := atoms_intro fun w hw => hws w hw _ _ X.warmed
  have h2 : (Cond.codeWith y bytes maxL ret hh).before a A.U = true := hws _ hcode _ _ X.warmed
  have h3 : (Cond.initialized y.cls).before a A.U = true := hinit _ _ X.warmed
  have h4 : A.cells + (headSpec ws rm).room.cells ≤ R.cells := by rw [show (headSpec ws rm).room.cells = mc from hrc]; exact hp.1
  have h5 : A.slots + (headSpec ws rm).room.slots ≤ R.slots := by rw [show (headSpec ws rm).room.slots = ms from hrs]; exact hp.2.1
  have hPc : Pc a (A.U.calling g mk a) := hblind _ _ _ _ hp.2.2
  obtain ⟨U, Ls, c0, s0⟩ := A
  dsimp only [Pt.U, Pt.locs, Pt.cells, Pt.slots] at h1 h2 h3 h4 h5 X hn hPc ⊢
  obtain ⟨m9, methY, cY, hn9, hmY, hcY, -, hlY, -⟩ := Cond.codeWith_spec h2
  cases Option.some.inj (hn9.symm.trans hn)
  obtain ⟨kY, hkY, -⟩ := className_of_methodNamed hn
  have hinitY : kY.init = .initialized := Cond.initialized_spec (findClass_of_methodNamed hn) hkY h3
  have h : At U g.method c below := by rw [hg]; exact X.here
  have hlocals9 : W9 + (maxL + 11) + (headSpec ws rm).room.locals ≤ R.locals := hlocals
  have happ : (headSpec ws rm).appliesLoose y e.platform (U.calling g mk a) = true :=
    Spec.appliesLoose_calling (g := g) h hdg hn hkY hinitY
      (X.room_calling (g := g) (R' := (headSpec ws rm).room) hsize hmY hcY hframes (by rw [hlY]; omega) h4 h5) h1
  obtain ⟨mid, hmid⟩ := h.above
  have hfr : (U.setTop g).frames = (.java g :: mid) ++ below := by rw [State.frames_setTop' g h.top, hmid]; rfl
  obtain ⟨o, s₂, hsteps, -, hend, hq⟩ := Steps.callFree hM p X.admits X.cas X.clock (acts := []) hfr happ hPc trivial
  have hq' : vx_Q Qc XC mc ms free a (U.calling g mk a) o s₂ := hq
  rw [State.frames_setTop' g h.top] at hend
  obtain ⟨g₀, hg0⟩ := Option.isSome_iff_exists.mp h.top
  obtain ⟨r, hr⟩ := State.topJava?_eq_some.mp hg0
  have hr' : (({ U with heap := s₂.heap, slotsUsed := s₂.slotsUsed } : State).setVm s₂.vm).frames = .java g₀ :: r := hr
  rcases hq' with ⟨hqc, L, hfe, hL⟩ | ⟨q, rfl, E, ce, L, hx, hce, hcv, hcl, hW₂, hsm, hL⟩
  · obtain ⟨⟨v, rfl⟩, hW₂, e2, q2, q3, q4, q5, q6⟩ := id hfe
    have e3 : s₂ = ({ (U.calling g mk a).setFrames s₂.frames with heap := s₂.heap, slotsUsed := s₂.slotsUsed } : State).setVm s₂.vm := by
      have : s₂ = ({ s₂ with vm := (U.calling g mk a).vm } : State).setVm s₂.vm := rfl
      rw [e2] at this
      exact this
    obtain ⟨c₂, i₂, len₂, hc₂, hd₂, hf₂⟩ := hend
    have hW' : U.WarmedH s₂.vm := hW₂
    have hcc : c₂ = c := by
      have h1 : s₂.code? g.method = U.code? g.method := by
        rw [State.code?_eq, State.code?_eq, hW'.alike.method?]
      exact Option.some.inj (hc₂.symm.trans (h1.trans h.code))
    subst hcc
    have hlen : len₂ = len := by rw [hdg] at hd₂; cases hd₂; rfl
    subst hlen
    have hs₂ : s₂ = (({ U with heap := s₂.heap, slotsUsed := s₂.slotsUsed } : State).setVm s₂.vm).setTop { g with pc := g.pc + len₂, stack := v.toList ++ g.stack } := by
      refine e3.trans ?_
      rw [hf₂, State.calling_eq h.top, State.setFrames_setFrames, State.setTop_of_frames _ hr', hr]
      rfl
    have hsame : U.sameButNew ({ U with heap := s₂.heap, slotsUsed := s₂.slotsUsed } : State) L mc ms := by
      refine ⟨?_, q2, q3, q4, q5, q6⟩
      obtain ⟨t, ht, -⟩ := State.frames_cons hr
      show ({ U with heap := s₂.heap, slotsUsed := s₂.slotsUsed } : State) = { U.setFrames U.frames with heap := s₂.heap, slotsUsed := s₂.slotsUsed }
      rw [State.setFrames_self ht]
    subst hg
    refine Or.inl ⟨v, ⟨(({ U with heap := s₂.heap, slotsUsed := s₂.slotsUsed } : State).setVm s₂.vm), Ls ++ L, c0 + mc, s0 + ms⟩,
      ⟨X.admits, X.cas, X.clock, X.frames, X.room, X.hears, X.method, X.code, (X.here.setHeapUsed s₂.heap s₂.slotsUsed).setVm hW'.alike, X.tail, State.WarmedH.trans X.warmed hW', X.limits, X.bytes, X.same.trans (hsame.setVm s.vm)⟩,
      ⟨g, mk, s₂, L, rfl, rfl, hqc, rfl, hL, rfl, rfl⟩, ?_⟩
    show Steps p.tables e below _ ((({ U with heap := s₂.heap, slotsUsed := s₂.slotsUsed } : State).setVm s₂.vm).setTop { g with pc := g.pc + len₂, stack := v.toList ++ g.stack })
    rw [← hs₂]
    exact hsteps
  · obtain ⟨e2, q2, q3, q4, q5, q6⟩ := id hsm
    have e3 : s₂ = ({ (U.calling g mk a).setFrames s₂.frames with heap := s₂.heap, slotsUsed := s₂.slotsUsed } : State).setVm s₂.vm := by
      have : s₂ = ({ s₂ with vm := (U.calling g mk a).vm } : State).setVm s₂.vm := rfl
      rw [e2] at this
      exact this
    have hf₂ : s₂.frames = .throwing q :: .java g :: U.frames.tail := hend
    have hW' : U.WarmedH s₂.vm := hW₂
    have hs₂ : s₂ = ((({ U with heap := s₂.heap, slotsUsed := s₂.slotsUsed } : State).setVm s₂.vm).setTop g).pushFrame (.throwing q) := by
      refine e3.trans ?_
      rw [hf₂, State.calling_eq h.top, State.setFrames_setFrames, State.pushFrame, State.frames_setTop _ hr', State.setTop_of_frames _ hr', State.setFrames_setFrames, hr]
      rfl
    have hsame : U.sameButNew ({ U with heap := s₂.heap, slotsUsed := s₂.slotsUsed } : State) L mc ms := by
      refine ⟨?_, q2, q3, q4, q5, q6⟩
      obtain ⟨t, ht, -⟩ := State.frames_cons hr
      show ({ U with heap := s₂.heap, slotsUsed := s₂.slotsUsed } : State) = { U.setFrames U.frames with heap := s₂.heap, slotsUsed := s₂.slotsUsed }
      rw [State.setFrames_self ht]
    subst hg
    refine Or.inr ⟨q, ⟨(({ U with heap := s₂.heap, slotsUsed := s₂.slotsUsed } : State).setVm s₂.vm), Ls ++ L, c0 + mc, s0 + ms⟩,
      ⟨X.admits, X.cas, X.clock, X.frames, X.room, X.hears, X.method, X.code, (X.here.setHeapUsed s₂.heap s₂.slotsUsed).setVm hW'.alike, X.tail, State.WarmedH.trans X.warmed hW', X.limits, X.bytes, X.same.trans (hsame.setVm s.vm)⟩,
      ⟨g, mk, s₂, L, E, ce, rfl, rfl, hx, hce, hcv, hcl, rfl, hL, rfl, rfl⟩, ?_⟩
    show Steps p.tables e below _ (((({ U with heap := s₂.heap, slotsUsed := s₂.slotsUsed } : State).setVm s₂.vm).setTop g).pushFrame (.throwing q))
    rw [← hs₂]
    exact hsteps
end
variable {p : Program} {l : Launch} {e : Env} {R : Room} {s : State} {m : MethodId} {args : Array Value} {below : List Frame} {meth : Method} {c : Code} {T : State} {H : Heap} {locs : List Loc} {cells slots : Nat}
theorem vx_callVX (X : Stand p l e R s m args below meth c T locs cells slots) (hexec : p.tables.exec = Jvm.exec) {own C : String} {index : Nat} {y : MethodName} {bytes : ByteArray} {maxL : Nat} {ret : Option FieldType} {hh : List (Nat × Nat × Nat × Nat)}
    (hown : s.vm.findClass own = some m.cls) (hlink : (Cond.methodLink own index y).before args s = true) (hinst : (Cond.instanceMethod y).before args s = true) (hsel : (Cond.selects C y y).before args s = true)
    (hcode : (Cond.codeWith y bytes maxL ret hh).before args s = true) (hy : y.cls ≠ "java/lang/invoke/MethodHandle" ∧ y.cls ≠ "java/lang/invoke/VarHandle")
    {W9 : Nat} {Pre : Pt → Array Value → Prop} {Post : Pt → Array Value → Option Value → Pt → Prop} {PostX : Pt → Array Value → Addr → Pt → Prop} (hK : vx_Back l R p e below s args y 3 W9 Pre Post PostX)
    {b : Addr} {cellB : Cell} (hcell : T.heap[b]? = some cellB) (hobj : cellB.vm.isStatics = false) (hcls : s.vm.findClass C = some cellB.cls)
    {g : JFrame} (hg : g.method = m) (hsize : g.locals.size = c.maxLocals) {argsL rest : List Value} (hlen : ∀ sig, parseMethodDescriptor y.desc = some sig → argsL.length = sig.parameters.length)
    (hstack : g.stack = argsL.reverse ++ .ref b :: rest) (hW : 2 * g.monitorRoom + (rest.map fun v => v.category).sum ≤ W9) (hdg : decode c.code g.pc = .ok (.invokevirtual index, 3))
    (hpre : ∀ vm₁, s.WarmedH vm₁ → Pre ⟨T.setVm vm₁, locs, cells, slots⟩ (Value.ref b :: argsL).toArray) :
    (∃ (v : Option Value) (vm₁ : Vm) (B : Pt), s.WarmedH vm₁ ∧ Stand p l e R s m args below meth c B.U B.locs B.cells B.slots ∧ Post ⟨T.setVm vm₁, locs, cells, slots⟩ (Value.ref b :: argsL).toArray v B ∧
      ∀ target, Steps p.tables e below (B.U.setTop { g with pc := g.pc + 3, stack := v.toList ++ rest }) target → Steps p.tables e below (T.setTop g) target) ∨
    (∃ (q : Addr) (vm₁ : Vm) (B : Pt), s.WarmedH vm₁ ∧ Stand p l e R s m args below meth c B.U B.locs B.cells B.slots ∧ PostX ⟨T.setVm vm₁, locs, cells, slots⟩ (Value.ref b :: argsL).toArray q B ∧
      Steps p.tables e below (T.setTop g) ((B.U.setTop { g with stack := rest }).pushFrame (.throwing q))) := by
  obtain ⟨mk, methM, hnamed, hmethM, hstM, habM⟩ := Cond.instanceMethod_spec hinst
  obtain ⟨m8, methM', cM, hn8, hmethM', -, -, -, -, -, -, hsigM⟩ := Cond.codeWith_spec hcode
  cases Option.some.inj (hn8.symm.trans hnamed)
  cases hmethM.symm.trans hmethM'
  obtain ⟨c2, r2, m2, q1, q2, q3, q4, kP, hkP, hkPi⟩ := Cond.selects_spec hsel
  cases hcls.symm.trans q1
  cases (State.methodFound?_of_named hnamed hy).symm.trans q2
  cases hnamed.symm.trans q3
  have hselP : selectMethod e.platform s.vm cellB.cls mk = .method mk := by rw [Launch.admits_selectMethod X.admits]; exact q4
  obtain ⟨vm₁, X₁, hstep₁⟩ := X.invokevirtual hexec hown hlink hnamed hmethM hstM hkP hkPi hy (a := b) (cell := cellB) hcell
    (fun z h => by rw [h] at hobj; cases hobj) hselP hmethM habM hkP hkPi (g := g) hg (argsL := argsL) (rest := rest) (hlen _ hsigM) hstack hdg
  rcases hK m meth c ⟨T.setVm vm₁, locs, cells, slots⟩ { g with stack := rest } (.invokevirtual index) mk (Value.ref b :: argsL).toArray X₁ hg hsize hdg hW (X₁.named hnamed) (hpre vm₁ X₁.warmed) with ⟨v, B, X', hpost, hsteps⟩ | ⟨q, B, X', hpost, hsteps⟩
  · exact Or.inl ⟨v, vm₁, B, X₁.warmed, X', hpost, fun target h => hstep₁ _ fun acts => by rw [doInvoke_state]; exact hsteps.trans h⟩
  · exact Or.inr ⟨q, vm₁, B, X₁.warmed, X', hpost, hstep₁ _ fun acts => by rw [doInvoke_state]; exact hsteps⟩
theorem vx_callSX (X : Stand p l e R s m args below meth c T locs cells slots) (hexec : p.tables.exec = Jvm.exec) {own : String} {index : Nat} {y : MethodName} {bytes : ByteArray} {maxL : Nat} {ret : Option FieldType} {hh : List (Nat × Nat × Nat × Nat)}
    (hown : s.vm.findClass own = some m.cls) (hlink : (Cond.methodLink own index y).before args s = true) (hstat : (Cond.static y).before args s = true) (hinit : (Cond.initialized y.cls).before args s = true)
    (hcode : (Cond.codeWith y bytes maxL ret hh).before args s = true) (hy : y.cls ≠ "java/lang/invoke/MethodHandle" ∧ y.cls ≠ "java/lang/invoke/VarHandle")
    {W9 : Nat} {Pre : Pt → Array Value → Prop} {Post : Pt → Array Value → Option Value → Pt → Prop} {PostX : Pt → Array Value → Addr → Pt → Prop} (hK : vx_Back l R p e below s args y 3 W9 Pre Post PostX)
    {g : JFrame} (hg : g.method = m) (hsize : g.locals.size = c.maxLocals) {argsL rest : List Value} (hlen : ∀ sig, parseMethodDescriptor y.desc = some sig → argsL.length = sig.parameters.length)
    (hstack : g.stack = argsL.reverse ++ rest) (hW : 2 * g.monitorRoom + (rest.map fun v => v.category).sum ≤ W9) (hdg : decode c.code g.pc = .ok (.invokestatic index, 3))
    (hpre : ∀ vm₁, s.WarmedH vm₁ → Pre ⟨T.setVm vm₁, locs, cells, slots⟩ argsL.toArray) :
    (∃ (v : Option Value) (vm₁ : Vm) (B : Pt), s.WarmedH vm₁ ∧ Stand p l e R s m args below meth c B.U B.locs B.cells B.slots ∧ Post ⟨T.setVm vm₁, locs, cells, slots⟩ argsL.toArray v B ∧
      ∀ target, Steps p.tables e below (B.U.setTop { g with pc := g.pc + 3, stack := v.toList ++ rest }) target → Steps p.tables e below (T.setTop g) target) ∨
    (∃ (q : Addr) (vm₁ : Vm) (B : Pt), s.WarmedH vm₁ ∧ Stand p l e R s m args below meth c B.U B.locs B.cells B.slots ∧ PostX ⟨T.setVm vm₁, locs, cells, slots⟩ argsL.toArray q B ∧
      Steps p.tables e below (T.setTop g) ((B.U.setTop { g with stack := rest }).pushFrame (.throwing q))) := by
  obtain ⟨mk, methM, cM, hnamed, hmethM, -, -, -, -, -, -, hsigM⟩ := Cond.codeWith_spec hcode
  have hstatic : methM.isStatic = true := Cond.static_spec hnamed hmethM hstat
  obtain ⟨kP, hkP, -⟩ := className_of_methodNamed hnamed
  have hinitP : kP.init = .initialized := Cond.initialized_spec (findClass_of_methodNamed hnamed) hkP hinit
  obtain ⟨vm₁, X₁, hstep₁⟩ := X.invokestatic hexec hown hlink hnamed hmethM hstatic hkP hinitP hy (g := g) hg (argsL := argsL) (rest := rest) (hlen _ hsigM) hstack hdg
  rcases hK m meth c ⟨T.setVm vm₁, locs, cells, slots⟩ { g with stack := rest } (.invokestatic index) mk argsL.toArray X₁ hg hsize hdg hW (X₁.named hnamed) (hpre vm₁ X₁.warmed) with ⟨v, B, X', hpost, hsteps⟩ | ⟨q, B, X', hpost, hsteps⟩
  · exact Or.inl ⟨v, vm₁, B, X₁.warmed, X', hpost, fun target h => hstep₁ _ fun acts => by rw [doInvoke_state]; exact hsteps.trans h⟩
  · exact Or.inr ⟨q, vm₁, B, X₁.warmed, X', hpost, hstep₁ _ fun acts => by rw [doInvoke_state]; exact hsteps⟩
theorem vx_callVW (X : Stand p l e R s m args below meth c T locs cells slots) (hexec : p.tables.exec = Jvm.exec) {own C : String} {index : Nat} {y : MethodName} {bytes : ByteArray} {maxL : Nat} {ret : Option FieldType} {hh : List (Nat × Nat × Nat × Nat)}
    (hown : s.vm.findClass own = some m.cls) (hlink : (Cond.methodLink own index y).before args s = true) (hinst : (Cond.instanceMethod y).before args s = true) (hsel : (Cond.selects C y y).before args s = true)
    (hcode : (Cond.codeWith y bytes maxL ret hh).before args s = true) (hy : y.cls ≠ "java/lang/invoke/MethodHandle" ∧ y.cls ≠ "java/lang/invoke/VarHandle")
    {W9 : Nat} {Pre : Pt → Array Value → Prop} {Post : Pt → Array Value → Option Value → Pt → Prop} (hK : Back l R p e below s args y 3 W9 Pre Post)
    {b : Addr} {cellB : Cell} (hcell : T.heap[b]? = some cellB) (hobj : cellB.vm.isStatics = false) (hcls : s.vm.findClass C = some cellB.cls)
    {g : JFrame} (hg : g.method = m) (hsize : g.locals.size = c.maxLocals) {argsL rest : List Value} (hlen : ∀ sig, parseMethodDescriptor y.desc = some sig → argsL.length = sig.parameters.length)
    (hstack : g.stack = argsL.reverse ++ .ref b :: rest) (hW : 2 * g.monitorRoom + (rest.map fun v => v.category).sum ≤ W9) (hdg : decode c.code g.pc = .ok (.invokevirtual index, 3))
    (hpre : ∀ vm₁, s.WarmedH vm₁ → Pre ⟨T.setVm vm₁, locs, cells, slots⟩ (Value.ref b :: argsL).toArray) :
    ∃ (v : Option Value) (vm₁ : Vm) (B : Pt), s.WarmedH vm₁ ∧ Stand p l e R s m args below meth c B.U B.locs B.cells B.slots ∧ Post ⟨T.setVm vm₁, locs, cells, slots⟩ (Value.ref b :: argsL).toArray v B ∧
      ∀ target, Steps p.tables e below (B.U.setTop { g with pc := g.pc + 3, stack := v.toList ++ rest }) target → Steps p.tables e below (T.setTop g) target := by
  obtain ⟨mk, methM, hnamed, hmethM, hstM, habM⟩ := Cond.instanceMethod_spec hinst
  obtain ⟨m8, methM', cM, hn8, hmethM', -, -, -, -, -, -, hsigM⟩ := Cond.codeWith_spec hcode
  cases Option.some.inj (hn8.symm.trans hnamed)
  cases hmethM.symm.trans hmethM'
  obtain ⟨c2, r2, m2, q1, q2, q3, q4, kP, hkP, hkPi⟩ := Cond.selects_spec hsel
  cases hcls.symm.trans q1
  cases (State.methodFound?_of_named hnamed hy).symm.trans q2
  cases hnamed.symm.trans q3
  have hselP : selectMethod e.platform s.vm cellB.cls mk = .method mk := by rw [Launch.admits_selectMethod X.admits]; exact q4
  obtain ⟨vm₁, X₁, hstep₁⟩ := X.invokevirtual hexec hown hlink hnamed hmethM hstM hkP hkPi hy (a := b) (cell := cellB) hcell
    (fun z h => by rw [h] at hobj; cases hobj) hselP hmethM habM hkP hkPi (g := g) hg (argsL := argsL) (rest := rest) (hlen _ hsigM) hstack hdg
  obtain ⟨v, B, X', hpost, hsteps⟩ := hK m meth c ⟨T.setVm vm₁, locs, cells, slots⟩ { g with stack := rest } (.invokevirtual index) mk (Value.ref b :: argsL).toArray X₁ hg hsize hdg hW (X₁.named hnamed) (hpre vm₁ X₁.warmed)
  exact ⟨v, vm₁, B, X₁.warmed, X', hpost, fun target h => hstep₁ _ fun acts => by rw [doInvoke_state]; exact hsteps.trans h⟩
abbrev vx_CVW (R : Room) (s : State) (args : Array Value) (own C : String) (index : Nat) (y : MethodName) (bytes : ByteArray) (maxL : Nat) (ret : Option FieldType) (hh : List (Nat × Nat × Nat × Nat)) (ws : List Cond) (rm : Room) (mc ms n : Nat) : Prop :=
  (rm.cells = mc ∧ rm.slots = ms ∧ rm.frames + 1 ≤ R.frames ∧ 8 + (maxL + 11) + rm.locals ≤ R.locals ∧ (∀ w ∈ ws, ∀ (a' : Array Value) (U : State), s.WarmedH U.vm → w.before a' U = true) ∧ Cond.codeWith y bytes maxL ret hh ∈ ws) ∧
  (Cond.codeWith y bytes maxL ret hh).before args s = true ∧ (Cond.initialized y.cls).before args s = true ∧ (y.cls ≠ "java/lang/invoke/MethodHandle" ∧ y.cls ≠ "java/lang/invoke/VarHandle") ∧
  (∀ sig, parseMethodDescriptor y.desc = some sig → n = sig.parameters.length) ∧ (Cond.methodLink own index y).before args s = true ∧ (Cond.instanceMethod y).before args s = true ∧ (Cond.selects C y y).before args s = true
theorem vx_cwVW {own C : String} {index maxL mc ms : Nat} {y : MethodName} {bytes : ByteArray} {ret : Option FieldType} {hh : List (Nat × Nat × Nat × Nat)} {Ts ws ws' : List Cond} {rm : Room} (n : Nat) (ht : ∀ w ∈ Ts, w.before args s = true) (hT : GoodIn Ts (wsV own index C y ws)) (hw : ws = Cond.codeWith y bytes maxL ret hh :: ws') (hrc : rm.cells = mc) (hrs : rm.slots = ms)
    (hd : y.cls = C ∧ y.cls ≠ "java/lang/invoke/MethodHandle" ∧ y.cls ≠ "java/lang/invoke/VarHandle" ∧ (parseMethodDescriptor y.desc).map (fun d => d.parameters.length) = some n) (hR : rm.frames + 1 ≤ R.frames ∧ 8 + (maxL + 11) + rm.locals ≤ R.locals) :
    vx_CVW R s args own C index y bytes maxL ret hh ws rm mc ms n := by
  obtain ⟨hC, hd⟩ := hd
  subst hC
  have ok : ∀ w ∈ wsV own index y.cls y ws, w.before args s = true := fun w h => ht w (hT w h).1
  have hG : GoodIn Ts ws := fun w h => hT w (by unfold wsV; exact List.mem_append_right _ h)
  have hc : Cond.codeWith y bytes maxL ret hh ∈ ws := by rw [hw]; exact List.mem_cons_self
  refine ⟨⟨hrc, hrs, hR.1, hR.2, pay_in ht hG, hc⟩, ht _ (hG _ hc).1, ok _ (by simp [wsV]), ⟨hd.1, hd.2.1⟩, fun sig h => ?_, ok _ (by simp [wsV]), ok _ (by simp [wsV]), ok _ (by simp [wsV])⟩
  have h2 := hd.2.2
  rw [h] at h2
  exact (Option.some.inj h2).symm
theorem vx_runVW {y : MethodName} {bytes cc : ByteArray} {maxL nL mc ms n index : Nat} {ret : Option FieldType} {hh : List (Nat × Nat × Nat × Nat)} {ws : List Cond} {rm : Room} {Pc : Array Value → State → Prop} {Qc : Array Value → State → Outcome → State → Prop} {free : Addr → Prop} {Ts : List Cond} {own C : String} {b : Addr} {As rest : List Value} {g : JFrame}
    (S : CallFix p m c cc nL s args Ts own) (hM : Met l y ws rm Pc Qc mc ms free) (cw : vx_CVW R s args own C index y bytes maxL ret hh ws rm mc ms n) (hp : PreV s H C b Pc As)
    (hg : g.method = m) (hn : As.length = n) (hsize : g.locals.size = nL) (hstack : g.stack = As.reverse ++ .ref b :: rest) (hW : 2 * g.monitorRoom + (rest.map fun v => v.category).sum ≤ 8) (hdg : decode cc g.pc = .ok (.invokevirtual index, 3)) (hf : cells + mc ≤ R.cells ∧ slots + ms ≤ R.slots) :
    va_Run p l e R s m args below meth c H locs cells slots mc ms g rest (Qc (Value.ref b :: As).toArray) free := by
  obtain ⟨⟨hrc, hrs, hfr, hlo, hws, hcw⟩, hcode, hini, hy, hlen, hl, hin, hse⟩ := cw
  have hK : Back l R p e below s args y 3 8 (PreOf R mc ms Pc) (PostOf Qc mc ms free) := va_backW (hh := hh) (bytes := bytes) (maxL := maxL) (ret := ret) hM hp.1 hrc hrs hfr hlo hws hcw (fun a' U hW => word_at hW (Or.inl (by first | rfl | simp [Cond.onTables, Cond.keeps, Cond.steady])) hini)
  obtain ⟨hx, hb, hml, ho, -⟩ := S
  obtain ⟨-, ⟨cellB, hcB, hoB, hclB⟩, hPc⟩ := hp
  intro T hT X
  obtain ⟨v, vm₁, ⟨U', l2, c2, s2⟩, hW₁, X', ⟨g', mk, t, L, e1, e2, hq, h1, hL, h2, h3⟩, st⟩ := vx_callVW X hx (C := C) (hh := hh) (bytes := bytes) (maxL := maxL) (ret := ret) ho hl hin hse hcode hy hK (by rw [hT]; exact hcB) hoB hclB hg (hsize.trans hml.symm) (argsL := As) (rest := rest) (fun sig h => hn.trans (hlen sig h)) hstack hW (by rw [hb]; exact hdg)
    (fun vm₁ hW₁ => ⟨hf.1, hf.2, hPc (T.setVm vm₁) hT hW₁⟩)
  dsimp only [Pt.U, Pt.locs, Pt.cells, Pt.slots] at X' e1 e2 h1 h2 h3 st
  subst h1; subst h2; subst h3
  exact ⟨v, (T.setVm vm₁).calling g' mk (Value.ref b :: As).toArray, t, U', L, hT, X', hL, e1, e2, hq, st⟩
section
variable {y : MethodName} {bytes cc : ByteArray} {maxL nL mc ms n index : Nat} {ret : Option FieldType} {ws : List Cond} {rm : Room} {Pc : Array Value → State → Prop} {Qc : Array Value → State → Outcome → State → Prop} {XC : String → State → State → Prop} {free : Addr → Prop} {Ts : List Cond} {own C : String} {b : Addr} {As rest : List Value} {g : JFrame}
theorem vx_runVX {hh : List (Nat × Nat × Nat × Nat)} (S : CallFix p m c cc nL s args Ts own) (hM : vx_Met l y ws rm Pc Qc XC mc ms free) (cw : vx_CVW R s args own C index y bytes maxL ret hh ws rm mc ms n) (hp : PreV s H C b Pc As)
    (hg : g.method = m) (hn : As.length = n) (hsize : g.locals.size = nL) (hstack : g.stack = As.reverse ++ .ref b :: rest) (hW : 2 * g.monitorRoom + (rest.map fun v => v.category).sum ≤ 8) (hdg : decode cc g.pc = .ok (.invokevirtual index, 3)) (hf : cells + mc ≤ R.cells ∧ slots + ms ≤ R.slots) :
    vx_Run p l e R s m args below meth c H locs cells slots mc ms g rest (Qc (Value.ref b :: As).toArray) XC free := by
  obtain ⟨⟨hrc, hrs, hfr, hlo, hws, hcw⟩, hcode, hini, hy, hlen, hl, hin, hse⟩ := cw
  have hK : vx_Back l R p e below s args y 3 8 (PreOf R mc ms Pc) (PostOf Qc mc ms free) (vx_Post XC mc ms free) := vx_backW (hh := hh) (bytes := bytes) (maxL := maxL) (ret := ret) hM hp.1 hrc hrs hfr hlo hws hcw (fun a' U hW => word_at hW (Or.inl (by first | rfl | simp [Cond.onTables, Cond.keeps, Cond.steady])) hini)
  obtain ⟨hx, hb, hml, ho, -⟩ := S
  obtain ⟨-, ⟨cellB, hcB, hoB, hclB⟩, hPc⟩ := hp
  intro T hT X
  rcases vx_callVX X hx (C := C) (hh := hh) (bytes := bytes) (maxL := maxL) (ret := ret) ho hl hin hse hcode hy hK (by rw [hT]; exact hcB) hoB hclB hg (hsize.trans hml.symm) (argsL := As) (rest := rest) (fun sig h => hn.trans (hlen sig h)) hstack hW (by rw [hb]; exact hdg)
    (fun vm₁ hW₁ => ⟨hf.1, hf.2, hPc (T.setVm vm₁) hT hW₁⟩) with ⟨v, vm₁, ⟨U', l2, c2, s2⟩, hW₁, X', ⟨g', mk, t, L, e1, e2, hq, h1, hL, h2, h3⟩, st⟩ | ⟨q, vm₁, ⟨U', l2, c2, s2⟩, hW₁, X', ⟨g', mk, t, L, E, ce, e1, e2, hq, hce, hcv, hcl, h1, hL, h2, h3⟩, st⟩
  · dsimp only [Pt.U, Pt.locs, Pt.cells, Pt.slots] at X' e1 e2 h1 h2 h3 st
    subst h1; subst h2; subst h3
    exact Or.inl ⟨v, (T.setVm vm₁).calling g' mk (Value.ref b :: As).toArray, t, U', L, hT, X', hL, e1, e2, hq, st⟩
  · dsimp only [Pt.U, Pt.locs, Pt.cells, Pt.slots] at X' e1 e2 h1 h2 h3 st hcl
    subst h1; subst h2; subst h3
    exact Or.inr ⟨q, (T.setVm vm₁).calling g' mk (Value.ref b :: As).toArray, t, U', L, E, ce, hT, X', hL, e1, e2, hq, hce, hcv, vx_cls hW₁ hcl, st⟩
theorem vx_runSX {hh : List (Nat × Nat × Nat × Nat)} (S : CallFix p m c cc nL s args Ts own) (hM : vx_Met l y ws rm Pc Qc XC mc ms free) (cw : vx_CSW R s args own index y bytes maxL ret hh ws rm mc ms n) (hp : PreS s H Pc As)
    (hg : g.method = m) (hn : As.length = n) (hsize : g.locals.size = nL) (hstack : g.stack = As.reverse ++ rest) (hW : 2 * g.monitorRoom + (rest.map fun v => v.category).sum ≤ 8) (hdg : decode cc g.pc = .ok (.invokestatic index, 3)) (hf : cells + mc ≤ R.cells ∧ slots + ms ≤ R.slots) :
    vx_Run p l e R s m args below meth c H locs cells slots mc ms g rest (Qc As.toArray) XC free := by
  obtain ⟨⟨hrc, hrs, hfr, hlo, hws, hcw⟩, hcode, hini, hy, hlen, hl, hstt⟩ := cw
  have hK : vx_Back l R p e below s args y 3 8 (PreOf R mc ms Pc) (PostOf Qc mc ms free) (vx_Post XC mc ms free) := vx_backW (hh := hh) (bytes := bytes) (maxL := maxL) (ret := ret) hM hp.1 hrc hrs hfr hlo hws hcw (fun a' U hW => word_at hW (Or.inl (by first | rfl | simp [Cond.onTables, Cond.keeps, Cond.steady])) hini)
  obtain ⟨hx, hb, hml, ho, -⟩ := S
  intro T hT X
  rcases vx_callSX X hx (hh := hh) (bytes := bytes) (maxL := maxL) (ret := ret) ho hl hstt hini hcode hy hK hg (hsize.trans hml.symm) (argsL := As) (rest := rest) (fun sig h => hn.trans (hlen sig h)) hstack hW (by rw [hb]; exact hdg)
    (fun vm₁ hW₁ => ⟨hf.1, hf.2, hp.2 (T.setVm vm₁) hT hW₁⟩) with ⟨v, vm₁, ⟨U', l2, c2, s2⟩, hW₁, X', ⟨g', mk, t, L, e1, e2, hq, h1, hL, h2, h3⟩, st⟩ | ⟨q, vm₁, ⟨U', l2, c2, s2⟩, hW₁, X', ⟨g', mk, t, L, E, ce, e1, e2, hq, hce, hcv, hcl, h1, hL, h2, h3⟩, st⟩
  · dsimp only [Pt.U, Pt.locs, Pt.cells, Pt.slots] at X' e1 e2 h1 h2 h3 st
    subst h1; subst h2; subst h3
    exact Or.inl ⟨v, (T.setVm vm₁).calling g' mk As.toArray, t, U', L, hT, X', hL, e1, e2, hq, st⟩
  · dsimp only [Pt.U, Pt.locs, Pt.cells, Pt.slots] at X' e1 e2 h1 h2 h3 st hcl
    subst h1; subst h2; subst h3
    exact Or.inr ⟨q, (T.setVm vm₁).calling g' mk As.toArray, t, U', L, E, ce, hT, X', hL, e1, e2, hq, hce, hcv, vx_cls hW₁ hcl, st⟩
end
end VXH
theorem vx_ofWH {l : Launch} {y : MethodName} {ws ws' : List Cond} {rm : Room} {Pc : Array Value → State → Prop} {Qc : Array Value → State → Outcome → State → Prop} {XC : String → State → State → Prop} {mc ms : Nat} {free : Addr → Prop} {cc : ByteArray} {maxL : Nat} {ret : Option FieldType} {hh : List (Nat × Nat × Nat × Nat)}
    (hy : plainName y.cls = true) (hw : ws = Cond.codeWith y cc maxL ret hh :: ws')
    (body : ∀ p e s m args below meth c s₁, BodyLoose p l y (headSpec ws rm) cc maxL ret e s m args below meth c s₁ → c.maxLocals = maxL → Pc args s →
      W p l e (headSpec ws rm).room s m args below meth c s.heap [] 0 0 (vx_MQ below Qc XC args s mc ms free) (entryFrame m args maxL)) : vx_Met l y ws rm Pc Qc XC mc ms free := by
  refine MetFree.of_bodyS (code := cc) (maxLocals := maxL) (ret := ret) hy ?_ ?_
  · intro args s m h hn
    obtain ⟨m9, meth, c, hn9, h1, h2, h3, h4, -, h5, h6, -⟩ := Cond.codeWith_spec (atoms_spec (ws := ws) h _ (by rw [hw]; exact List.mem_cons_self))
    cases hn.symm.trans hn9
    exact ⟨meth, c, h1, h2, h3, h4, h5, h6⟩
  · intro p e s m args below meth c s₁ B hml hP _
    have hh0 : s₁.heap = s.heap := by rw [B.state]; rfl
    obtain ⟨t, a1, o, b1, b2, b3⟩ := body p e s m args below meth c s₁ B hml hP s₁ hh0 (Stand.of_body B)
    exact ⟨t, o, a1, b1, b2, b3⟩
/-! ===== END ===== -/
end
section
/-! ===== BEGIN printed: names, fields, word lists, decode rows ===== -/
def RX0 : String := "Pocketgloss$Cards"
def TX0 : u_T := fun k => match k with
  | 0 => ("Pocketgloss$Cards", "intervals", "[[I", true)
  | _ => ("Pocketgloss$Cards", "days", "[[I", true)
def tyX0 : Nat → FieldType := fun k => match k with
  | 0 => .array (.array .int)
  | _ => .array (.array .int)
abbrev wsX00 : List Cond := u_ws RX0 TX0 2
theorem nmX0 : ∀ a, a < 2 → ∀ b, b < 2 → a ≠ b → (TX0 a).2.1 ≠ (TX0 b).2.1 := by decide +kernel
theorem tyX0_ok : ∀ k, k < 2 → parseFieldDescriptor (TX0 k).2.2.1 = some (tyX0 k) := by decide +kernel
abbrev cX0_init : ByteArray := prog_2_method_1_code
def yX0_init : MethodName := ⟨RX0, "<init>", "()V"⟩
abbrev cX0_hasRoom : ByteArray := prog_2_method_2_code
def yX0_hasRoom : MethodName := ⟨RX0, "hasRoom", "(II)Z"⟩
abbrev cX0_intervalOf : ByteArray := prog_2_method_3_code
def yX0_intervalOf : MethodName := ⟨RX0, "intervalOf", "(II)I"⟩
abbrev cX0_has : ByteArray := prog_2_method_4_code
def yX0_has : MethodName := ⟨RX0, "has", "(II)Z"⟩
abbrev cX0_isDue : ByteArray := prog_2_method_5_code
def yX0_isDue : MethodName := ⟨RX0, "isDue", "(III)Z"⟩
abbrev cX0_put : ByteArray := prog_2_method_6_code
def yX0_put : MethodName := ⟨RX0, "put", "(IIII)V"⟩
abbrev cX0_drop : ByteArray := prog_2_method_7_code
def yX0_drop : MethodName := ⟨RX0, "drop", "(II)V"⟩
abbrev cX0_countOf : ByteArray := prog_2_method_8_code
def yX0_countOf : MethodName := ⟨RX0, "countOf", "(I)I"⟩
abbrev cX0_firstOf : ByteArray := prog_2_method_9_code
def yX0_firstOf : MethodName := ⟨RX0, "firstOf", "(I)I"⟩
def RX1 : String := "Pocketgloss$Covers"
def TX1 : u_T := fun k => match k with
  | 0 => ("Pocketgloss$Covers", "least", "[[I", true)
  | _ => ("Pocketgloss$Covers", "picks", "[I", true)
def tyX1 : Nat → FieldType := fun k => match k with
  | 0 => .array (.array .int)
  | _ => .array .int
abbrev wsX10 : List Cond := u_ws RX1 TX1 2
theorem nmX1 : ∀ a, a < 2 → ∀ b, b < 2 → a ≠ b → (TX1 a).2.1 ≠ (TX1 b).2.1 := by decide +kernel
theorem tyX1_ok : ∀ k, k < 2 → parseFieldDescriptor (TX1 k).2.2.1 = some (tyX1 k) := by decide +kernel
abbrev cX1_init : ByteArray := prog_3_method_1_code
def yX1_init : MethodName := ⟨RX1, "<init>", "()V"⟩
abbrev cX1_weigh : ByteArray := prog_3_method_2_code
def yX1_weigh : MethodName := ⟨RX1, "weigh", "(LPocketgloss$Standings;II)V"⟩
abbrev cX1_leastFrom : ByteArray := prog_3_method_3_code
def yX1_leastFrom : MethodName := ⟨RX1, "leastFrom", "(IILPocketgloss$Standings;I)I"⟩
abbrev cX1_costWith : ByteArray := prog_3_method_4_code
def yX1_costWith : MethodName := ⟨RX1, "costWith", "(IIILPocketgloss$Standings;)I"⟩
abbrev cX1_leastCost : ByteArray := prog_3_method_5_code
def yX1_leastCost : MethodName := ⟨RX1, "leastCost", "()I"⟩
abbrev cX1_choose : ByteArray := prog_3_method_6_code
def yX1_choose : MethodName := ⟨RX1, "choose", "(LPocketgloss$Standings;)V"⟩
abbrev cX1_bestFrom : ByteArray := prog_3_method_7_code
def yX1_bestFrom : MethodName := ⟨RX1, "bestFrom", "(IILPocketgloss$Standings;)I"⟩
abbrev cX1_mark : ByteArray := prog_3_method_8_code
def yX1_mark : MethodName := ⟨RX1, "mark", "(II)V"⟩
abbrev cX1_pickAt : ByteArray := prog_3_method_9_code
def yX1_pickAt : MethodName := ⟨RX1, "pickAt", "(I)I"⟩
def RX2 : String := "Pocketgloss$Entry"
def TX2 : u_T := fun k => match k with
  | _ => ("", "", "", false)
def tyX2 : Nat → FieldType := fun k => match k with
  | _ => .int
abbrev wsX20 : List Cond := u_ws RX2 TX2 0
theorem nmX2 : ∀ a, a < 0 → ∀ b, b < 0 → a ≠ b → (TX2 a).2.1 ≠ (TX2 b).2.1 := by decide +kernel
theorem tyX2_ok : ∀ k, k < 0 → parseFieldDescriptor (TX2 k).2.2.1 = some (tyX2 k) := by decide +kernel
abbrev cX2_init : ByteArray := prog_4_method_1_code
def yX2_init : MethodName := ⟨RX2, "<init>", "(I)V"⟩
def RX3 : String := "Pocketgloss$Phrase"
def TX3 : u_T := fun k => match k with
  | 0 => ("Pocketgloss$Entry", "price", "I", true)
  | _ => ("Pocketgloss$Phrase", "parts", "[I", true)
def tyX3 : Nat → FieldType := fun k => match k with
  | 0 => .int
  | _ => .array .int
abbrev wsX30 : List Cond := u_ws RX3 TX3 2
theorem nmX3 : ∀ a, a < 2 → ∀ b, b < 2 → a ≠ b → (TX3 a).2.1 ≠ (TX3 b).2.1 := by decide +kernel
theorem tyX3_ok : ∀ k, k < 2 → parseFieldDescriptor (TX3 k).2.2.1 = some (tyX3 k) := by decide +kernel
abbrev cX3_init : ByteArray := prog_5_method_1_code
def yX3_init : MethodName := ⟨RX3, "<init>", "(I[I)V"⟩
abbrev cX3_find : ByteArray := prog_5_method_2_code
def yX3_find : MethodName := ⟨RX3, "find", "(ILPocketgloss$Rules;LPocketgloss$Sentence;LPocketgloss$Standings;)V"⟩
abbrev cX3_placesFrom : ByteArray := prog_5_method_3_code
def yX3_placesFrom : MethodName := ⟨RX3, "placesFrom", "(ILPocketgloss$Rules;LPocketgloss$Sentence;)I"⟩
def RX4 : String := "Pocketgloss$Rules"
def TX4 : u_T := fun k => match k with
  | 0 => ("Pocketgloss$Rules", "kinds", "[I", true)
  | 1 => ("Pocketgloss$Rules", "steps", "[I", true)
  | _ => ("Pocketgloss$Rules", "count", "I", false)
def tyX4 : Nat → FieldType := fun k => match k with
  | 0 => .array .int
  | 1 => .array .int
  | _ => .int
abbrev wsX40 : List Cond := u_ws RX4 TX4 3
theorem nmX4 : ∀ a, a < 3 → ∀ b, b < 3 → a ≠ b → (TX4 a).2.1 ≠ (TX4 b).2.1 := by decide +kernel
theorem tyX4_ok : ∀ k, k < 3 → parseFieldDescriptor (TX4 k).2.2.1 = some (tyX4 k) := by decide +kernel
abbrev cX4_init : ByteArray := prog_6_method_1_code
def yX4_init : MethodName := ⟨RX4, "<init>", "()V"⟩
abbrev cX4_isFull : ByteArray := prog_6_method_2_code
def yX4_isFull : MethodName := ⟨RX4, "isFull", "()Z"⟩
abbrev cX4_put : ByteArray := prog_6_method_3_code
def yX4_put : MethodName := ⟨RX4, "put", "(II)I"⟩
abbrev cX4_leadBack : ByteArray := prog_6_method_4_code
def yX4_leadBack : MethodName := ⟨RX4, "leadBack", "(II)Z"⟩
def RX5 : String := "Pocketgloss$Sentence"
def TX5 : u_T := fun k => match k with
  | 0 => ("Pocketgloss$Sentence", "words", "[I", true)
  | _ => ("Pocketgloss$Sentence", "size", "I", false)
def tyX5 : Nat → FieldType := fun k => match k with
  | 0 => .array .int
  | _ => .int
abbrev wsX50 : List Cond := u_ws RX5 TX5 2
theorem nmX5 : ∀ a, a < 2 → ∀ b, b < 2 → a ≠ b → (TX5 a).2.1 ≠ (TX5 b).2.1 := by decide +kernel
theorem tyX5_ok : ∀ k, k < 2 → parseFieldDescriptor (TX5 k).2.2.1 = some (tyX5 k) := by decide +kernel
abbrev cX5_init : ByteArray := prog_7_method_1_code
def yX5_init : MethodName := ⟨RX5, "<init>", "()V"⟩
abbrev cX5_isFull : ByteArray := prog_7_method_2_code
def yX5_isFull : MethodName := ⟨RX5, "isFull", "()Z"⟩
abbrev cX5_hasPlace : ByteArray := prog_7_method_3_code
def yX5_hasPlace : MethodName := ⟨RX5, "hasPlace", "(I)Z"⟩
abbrev cX5_put : ByteArray := prog_7_method_4_code
def yX5_put : MethodName := ⟨RX5, "put", "(I)I"⟩
abbrev cX5_empty : ByteArray := prog_7_method_5_code
def yX5_empty : MethodName := ⟨RX5, "empty", "()I"⟩
abbrev cX5_hasFormAt : ByteArray := prog_7_method_6_code
def yX5_hasFormAt : MethodName := ⟨RX5, "hasFormAt", "(IILPocketgloss$Rules;)Z"⟩
def RX6 : String := "Pocketgloss$Split"
def TX6 : u_T := fun k => match k with
  | 0 => ("Pocketgloss$Entry", "price", "I", true)
  | 1 => ("Pocketgloss$Split", "first", "I", true)
  | 2 => ("Pocketgloss$Split", "second", "I", true)
  | _ => ("Pocketgloss$Split", "reach", "I", true)
def tyX6 : Nat → FieldType := fun k => match k with
  | 0 => .int
  | 1 => .int
  | 2 => .int
  | _ => .int
abbrev wsX60 : List Cond := u_ws RX6 TX6 4
theorem nmX6 : ∀ a, a < 4 → ∀ b, b < 4 → a ≠ b → (TX6 a).2.1 ≠ (TX6 b).2.1 := by decide +kernel
theorem tyX6_ok : ∀ k, k < 4 → parseFieldDescriptor (TX6 k).2.2.1 = some (tyX6 k) := by decide +kernel
abbrev cX6_init : ByteArray := prog_8_method_1_code
def yX6_init : MethodName := ⟨RX6, "<init>", "(IIII)V"⟩
abbrev cX6_find : ByteArray := prog_8_method_2_code
def yX6_find : MethodName := ⟨RX6, "find", "(ILPocketgloss$Rules;LPocketgloss$Sentence;LPocketgloss$Standings;)V"⟩
abbrev cX6_findFrom : ByteArray := prog_8_method_3_code
def yX6_findFrom : MethodName := ⟨RX6, "findFrom", "(IILPocketgloss$Rules;LPocketgloss$Sentence;LPocketgloss$Standings;)V"⟩
def RX7 : String := "Pocketgloss$Standings"
def TX7 : u_T := fun k => match k with
  | 0 => ("Pocketgloss$Standings", "numbers", "[I", true)
  | 1 => ("Pocketgloss$Standings", "places", "[I", true)
  | 2 => ("Pocketgloss$Standings", "prices", "[I", true)
  | _ => ("Pocketgloss$Standings", "count", "I", false)
def tyX7 : Nat → FieldType := fun k => match k with
  | 0 => .array .int
  | 1 => .array .int
  | 2 => .array .int
  | _ => .int
abbrev wsX70 : List Cond := u_ws RX7 TX7 4
theorem nmX7 : ∀ a, a < 4 → ∀ b, b < 4 → a ≠ b → (TX7 a).2.1 ≠ (TX7 b).2.1 := by decide +kernel
theorem tyX7_ok : ∀ k, k < 4 → parseFieldDescriptor (TX7 k).2.2.1 = some (tyX7 k) := by decide +kernel
abbrev cX7_init : ByteArray := prog_9_method_1_code
def yX7_init : MethodName := ⟨RX7, "<init>", "()V"⟩
abbrev cX7_empty : ByteArray := prog_9_method_2_code
def yX7_empty : MethodName := ⟨RX7, "empty", "()V"⟩
abbrev cX7_put : ByteArray := prog_9_method_3_code
def yX7_put : MethodName := ⟨RX7, "put", "(III)V"⟩
abbrev cX7_has : ByteArray := prog_9_method_4_code
def yX7_has : MethodName := ⟨RX7, "has", "(I)Z"⟩
abbrev cX7_entryOf : ByteArray := prog_9_method_5_code
def yX7_entryOf : MethodName := ⟨RX7, "entryOf", "(I)I"⟩
abbrev cX7_placesOf : ByteArray := prog_9_method_6_code
def yX7_placesOf : MethodName := ⟨RX7, "placesOf", "(I)I"⟩
abbrev cX7_priceOf : ByteArray := prog_9_method_7_code
def yX7_priceOf : MethodName := ⟨RX7, "priceOf", "(I)I"⟩
abbrev cX7_fitsFrom : ByteArray := prog_9_method_8_code
def yX7_fitsFrom : MethodName := ⟨RX7, "fitsFrom", "(III)Z"⟩
abbrev cX7_leastOfAll : ByteArray := prog_9_method_9_code
def yX7_leastOfAll : MethodName := ⟨RX7, "leastOfAll", "(LPocketgloss$Standings;IIIII)I"⟩
def RX8 : String := "Pocketgloss"
def TX8 : u_T := fun k => match k with
  | 0 => ("Pocketgloss", "rules", "LPocketgloss$Rules;", true)
  | 1 => ("Pocketgloss", "sentence", "LPocketgloss$Sentence;", true)
  | 2 => ("Pocketgloss", "found", "LPocketgloss$Standings;", true)
  | 3 => ("Pocketgloss", "covers", "LPocketgloss$Covers;", true)
  | 4 => ("Pocketgloss", "cards", "LPocketgloss$Cards;", true)
  | 5 => ("Pocketgloss", "made", "[LPocketgloss$Entry;", true)
  | 6 => ("Pocketgloss", "draft", "[I", true)
  | 7 => ("Pocketgloss", "madeCount", "I", false)
  | 8 => ("Pocketgloss", "draftSize", "I", false)
  | 9 => ("Pocketgloss", "bare", "I", false)
  | _ => ("Pocketgloss", "day", "I", false)
def tyX8 : Nat → FieldType := fun k => match k with
  | 0 => .object "Pocketgloss$Rules"
  | 1 => .object "Pocketgloss$Sentence"
  | 2 => .object "Pocketgloss$Standings"
  | 3 => .object "Pocketgloss$Covers"
  | 4 => .object "Pocketgloss$Cards"
  | 5 => .array (.object "Pocketgloss$Entry")
  | 6 => .array .int
  | 7 => .int
  | 8 => .int
  | 9 => .int
  | _ => .int
abbrev wsX80 : List Cond := u_ws RX8 TX8 11
theorem nmX8 : ∀ a, a < 11 → ∀ b, b < 11 → a ≠ b → (TX8 a).2.1 ≠ (TX8 b).2.1 := by decide +kernel
theorem tyX8_ok : ∀ k, k < 11 → parseFieldDescriptor (TX8 k).2.2.1 = some (tyX8 k) := by decide +kernel
abbrev cX8_init : ByteArray := prog_1_method_1_code
def yX8_init : MethodName := ⟨RX8, "<init>", "()V"⟩
abbrev cX8_addRule : ByteArray := prog_1_method_2_code
def yX8_addRule : MethodName := ⟨RX8, "addRule", "(II)I"⟩
abbrev cX8_headwords : ByteArray := prog_1_method_3_code
def yX8_headwords : MethodName := ⟨RX8, "headwords", "(I)I"⟩
abbrev cX8_isForm : ByteArray := prog_1_method_4_code
def yX8_isForm : MethodName := ⟨RX8, "isForm", "(II)Z"⟩
abbrev cX8_part : ByteArray := prog_1_method_5_code
def yX8_part : MethodName := ⟨RX8, "part", "(I)I"⟩
abbrev cX8_addPhrase : ByteArray := prog_1_method_6_code
def yX8_addPhrase : MethodName := ⟨RX8, "addPhrase", "(I)I"⟩
abbrev cX8_addSplit : ByteArray := prog_1_method_7_code
def yX8_addSplit : MethodName := ⟨RX8, "addSplit", "(IIII)I"⟩
abbrev cX8_takeOut : ByteArray := prog_1_method_8_code
def yX8_takeOut : MethodName := ⟨RX8, "takeOut", "(I)I"⟩
abbrev cX8_entries : ByteArray := prog_1_method_9_code
def yX8_entries : MethodName := ⟨RX8, "entries", "()I"⟩
abbrev cX8_say : ByteArray := prog_1_method_10_code
def yX8_say : MethodName := ⟨RX8, "say", "(I)I"⟩
abbrev cX8_clear : ByteArray := prog_1_method_11_code
def yX8_clear : MethodName := ⟨RX8, "clear", "()I"⟩
abbrev cX8_setBare : ByteArray := prog_1_method_12_code
def yX8_setBare : MethodName := ⟨RX8, "setBare", "(I)I"⟩
abbrev cX8_standings : ByteArray := prog_1_method_13_code
def yX8_standings : MethodName := ⟨RX8, "standings", "()I"⟩
abbrev cX8_cost : ByteArray := prog_1_method_14_code
def yX8_cost : MethodName := ⟨RX8, "cost", "()I"⟩
abbrev cX8_costByAll : ByteArray := prog_1_method_15_code
def yX8_costByAll : MethodName := ⟨RX8, "costByAll", "()I"⟩
abbrev cX8_glossAt : ByteArray := prog_1_method_16_code
def yX8_glossAt : MethodName := ⟨RX8, "glossAt", "(I)I"⟩
abbrev cX8_placesAt : ByteArray := prog_1_method_17_code
def yX8_placesAt : MethodName := ⟨RX8, "placesAt", "(I)I"⟩
abbrev cX8_newEntries : ByteArray := prog_1_method_18_code
def yX8_newEntries : MethodName := ⟨RX8, "newEntries", "(I)I"⟩
abbrev cX8_learn : ByteArray := prog_1_method_19_code
def yX8_learn : MethodName := ⟨RX8, "learn", "(II)I"⟩
abbrev cX8_review : ByteArray := prog_1_method_20_code
def yX8_review : MethodName := ⟨RX8, "review", "(IIZ)I"⟩
abbrev cX8_knows : ByteArray := prog_1_method_21_code
def yX8_knows : MethodName := ⟨RX8, "knows", "(II)Z"⟩
abbrev cX8_due : ByteArray := prog_1_method_22_code
def yX8_due : MethodName := ⟨RX8, "due", "(I)I"⟩
abbrev cX8_nextDue : ByteArray := prog_1_method_23_code
def yX8_nextDue : MethodName := ⟨RX8, "nextDue", "(I)I"⟩
abbrev cX8_pass : ByteArray := prog_1_method_24_code
def yX8_pass : MethodName := ⟨RX8, "pass", "(I)I"⟩
abbrev cX8_needWord : ByteArray := prog_1_method_25_code
def yX8_needWord : MethodName := ⟨RX8, "needWord", "(I)V"⟩
abbrev cX8_needCost : ByteArray := prog_1_method_26_code
def yX8_needCost : MethodName := ⟨RX8, "needCost", "(I)V"⟩
abbrev cX8_needReader : ByteArray := prog_1_method_27_code
def yX8_needReader : MethodName := ⟨RX8, "needReader", "(I)V"⟩
abbrev cX8_needEntry : ByteArray := prog_1_method_28_code
def yX8_needEntry : MethodName := ⟨RX8, "needEntry", "(I)V"⟩
abbrev cX8_needRoomForEntry : ByteArray := prog_1_method_29_code
def yX8_needRoomForEntry : MethodName := ⟨RX8, "needRoomForEntry", "()V"⟩
abbrev cX8_needPlace : ByteArray := prog_1_method_30_code
def yX8_needPlace : MethodName := ⟨RX8, "needPlace", "(I)V"⟩
abbrev cX8_keep : ByteArray := prog_1_method_31_code
def yX8_keep : MethodName := ⟨RX8, "keep", "(LPocketgloss$Entry;)I"⟩
abbrev cX8_findStandings : ByteArray := prog_1_method_32_code
def yX8_findStandings : MethodName := ⟨RX8, "findStandings", "()V"⟩
abbrev cX8_chooseCover : ByteArray := prog_1_method_33_code
def yX8_chooseCover : MethodName := ⟨RX8, "chooseCover", "()V"⟩
abbrev cX8_isInCover : ByteArray := prog_1_method_34_code
def yX8_isInCover : MethodName := ⟨RX8, "isInCover", "(I)Z"⟩
def RX9 : String := "PocketglossModel"
def TX9 : u_T := fun k => match k with
  | 0 => ("PocketglossModel", "thrown", "I", false)
  | 1 => ("PocketglossModel", "ruleMany", "I", false)
  | 2 => ("PocketglossModel", "ruleKinds", "[I", true)
  | 3 => ("PocketglossModel", "ruleSteps", "[I", true)
  | 4 => ("PocketglossModel", "draftMany", "I", false)
  | 5 => ("PocketglossModel", "draft", "[I", true)
  | 6 => ("PocketglossModel", "entryMany", "I", false)
  | 7 => ("PocketglossModel", "isThere", "[Z", true)
  | 8 => ("PocketglossModel", "costs", "[I", true)
  | 9 => ("PocketglossModel", "reaches", "[I", true)
  | 10 => ("PocketglossModel", "partMany", "[I", true)
  | 11 => ("PocketglossModel", "parts", "[I", true)
  | 12 => ("PocketglossModel", "length", "I", false)
  | 13 => ("PocketglossModel", "sentence", "[I", true)
  | 14 => ("PocketglossModel", "bare", "I", false)
  | 15 => ("PocketglossModel", "standingMany", "I", false)
  | 16 => ("PocketglossModel", "standingEntries", "[I", true)
  | 17 => ("PocketglossModel", "standingSets", "[I", true)
  | 18 => ("PocketglossModel", "best", "[I", true)
  | 19 => ("PocketglossModel", "glosses", "[I", true)
  | 20 => ("PocketglossModel", "sets", "[I", true)
  | 21 => ("PocketglossModel", "today", "I", false)
  | 22 => ("PocketglossModel", "intervals", "[I", true)
  | _ => ("PocketglossModel", "dues", "[I", true)
def tyX9 : Nat → FieldType := fun k => match k with
  | 0 => .int
  | 1 => .int
  | 2 => .array .int
  | 3 => .array .int
  | 4 => .int
  | 5 => .array .int
  | 6 => .int
  | 7 => .array .boolean
  | 8 => .array .int
  | 9 => .array .int
  | 10 => .array .int
  | 11 => .array .int
  | 12 => .int
  | 13 => .array .int
  | 14 => .int
  | 15 => .int
  | 16 => .array .int
  | 17 => .array .int
  | 18 => .array .int
  | 19 => .array .int
  | 20 => .array .int
  | 21 => .int
  | 22 => .array .int
  | _ => .array .int
abbrev wsX90 : List Cond := u_ws RX9 TX9 24
theorem nmX9 : ∀ a, a < 24 → ∀ b, b < 24 → a ≠ b → (TX9 a).2.1 ≠ (TX9 b).2.1 := by decide +kernel
theorem tyX9_ok : ∀ k, k < 24 → parseFieldDescriptor (TX9 k).2.2.1 = some (tyX9 k) := by decide +kernel
abbrev cX9_init : ByteArray := prog_11_method_1_code
def yX9_init : MethodName := ⟨RX9, "<init>", "()V"⟩
abbrev cX9_thrown : ByteArray := prog_11_method_2_code
def yX9_thrown : MethodName := ⟨RX9, "thrown", "()I"⟩
abbrev cX9_fails : ByteArray := prog_11_method_3_code
def yX9_fails : MethodName := ⟨RX9, "fails", "(I)I"⟩
abbrev cX9_in : ByteArray := prog_11_method_4_code
def yX9_in : MethodName := ⟨RX9, "in", "(III)Z"⟩
abbrev cX9_isWord : ByteArray := prog_11_method_5_code
def yX9_isWord : MethodName := ⟨RX9, "isWord", "(I)Z"⟩
abbrev cX9_isEntry : ByteArray := prog_11_method_6_code
def yX9_isEntry : MethodName := ⟨RX9, "isEntry", "(I)Z"⟩
abbrev cX9_addRule : ByteArray := prog_11_method_7_code
def yX9_addRule : MethodName := ⟨RX9, "addRule", "(II)I"⟩
abbrev cX9_forms : ByteArray := prog_11_method_8_code
def yX9_forms : MethodName := ⟨RX9, "forms", "(II)Z"⟩
abbrev cX9_headwords : ByteArray := prog_11_method_9_code
def yX9_headwords : MethodName := ⟨RX9, "headwords", "(I)I"⟩
abbrev cX9_isForm : ByteArray := prog_11_method_10_code
def yX9_isForm : MethodName := ⟨RX9, "isForm", "(II)Z"⟩
abbrev cX9_part : ByteArray := prog_11_method_11_code
def yX9_part : MethodName := ⟨RX9, "part", "(I)I"⟩
abbrev cX9_makes : ByteArray := prog_11_method_12_code
def yX9_makes : MethodName := ⟨RX9, "makes", "(II)I"⟩
abbrev cX9_addPhrase : ByteArray := prog_11_method_13_code
def yX9_addPhrase : MethodName := ⟨RX9, "addPhrase", "(I)I"⟩
abbrev cX9_addSplit : ByteArray := prog_11_method_14_code
def yX9_addSplit : MethodName := ⟨RX9, "addSplit", "(IIII)I"⟩
abbrev cX9_takeOut : ByteArray := prog_11_method_15_code
def yX9_takeOut : MethodName := ⟨RX9, "takeOut", "(I)I"⟩
abbrev cX9_entries : ByteArray := prog_11_method_16_code
def yX9_entries : MethodName := ⟨RX9, "entries", "()I"⟩
abbrev cX9_say : ByteArray := prog_11_method_17_code
def yX9_say : MethodName := ⟨RX9, "say", "(I)I"⟩
abbrev cX9_clear : ByteArray := prog_11_method_18_code
def yX9_clear : MethodName := ⟨RX9, "clear", "()I"⟩
abbrev cX9_setBare : ByteArray := prog_11_method_19_code
def yX9_setBare : MethodName := ⟨RX9, "setBare", "(I)I"⟩
abbrev cX9_stands : ByteArray := prog_11_method_20_code
def yX9_stands : MethodName := ⟨RX9, "stands", "(II)Z"⟩
abbrev cX9_finds : ByteArray := prog_11_method_21_code
def yX9_finds : MethodName := ⟨RX9, "finds", "()V"⟩
abbrev cX9_firstFree : ByteArray := prog_11_method_22_code
def yX9_firstFree : MethodName := ⟨RX9, "firstFree", "(I)I"⟩
abbrev cX9_covers : ByteArray := prog_11_method_23_code
def yX9_covers : MethodName := ⟨RX9, "covers", "()I"⟩
abbrev cX9_chooses : ByteArray := prog_11_method_24_code
def yX9_chooses : MethodName := ⟨RX9, "chooses", "(II)I"⟩
abbrev cX9_standings : ByteArray := prog_11_method_25_code
def yX9_standings : MethodName := ⟨RX9, "standings", "()I"⟩
abbrev cX9_cost : ByteArray := prog_11_method_26_code
def yX9_cost : MethodName := ⟨RX9, "cost", "()I"⟩
abbrev cX9_costByAll : ByteArray := prog_11_method_27_code
def yX9_costByAll : MethodName := ⟨RX9, "costByAll", "()I"⟩
abbrev cX9_told : ByteArray := prog_11_method_28_code
def yX9_told : MethodName := ⟨RX9, "told", "([II)I"⟩
abbrev cX9_glossAt : ByteArray := prog_11_method_29_code
def yX9_glossAt : MethodName := ⟨RX9, "glossAt", "(I)I"⟩
abbrev cX9_placesAt : ByteArray := prog_11_method_30_code
def yX9_placesAt : MethodName := ⟨RX9, "placesAt", "(I)I"⟩
abbrev cX9_isReader : ByteArray := prog_11_method_31_code
def yX9_isReader : MethodName := ⟨RX9, "isReader", "(I)Z"⟩
abbrev cX9_newEntries : ByteArray := prog_11_method_32_code
def yX9_newEntries : MethodName := ⟨RX9, "newEntries", "(I)I"⟩
abbrev cX9_barsCard : ByteArray := prog_11_method_33_code
def yX9_barsCard : MethodName := ⟨RX9, "barsCard", "(II)I"⟩
abbrev cX9_cards : ByteArray := prog_11_method_34_code
def yX9_cards : MethodName := ⟨RX9, "cards", "(I)I"⟩
abbrev cX9_learn : ByteArray := prog_11_method_35_code
def yX9_learn : MethodName := ⟨RX9, "learn", "(II)I"⟩
abbrev cX9_review : ByteArray := prog_11_method_36_code
def yX9_review : MethodName := ⟨RX9, "review", "(IIZ)I"⟩
abbrev cX9_knows : ByteArray := prog_11_method_37_code
def yX9_knows : MethodName := ⟨RX9, "knows", "(II)Z"⟩
abbrev cX9_due : ByteArray := prog_11_method_38_code
def yX9_due : MethodName := ⟨RX9, "due", "(I)I"⟩
abbrev cX9_nextDue : ByteArray := prog_11_method_39_code
def yX9_nextDue : MethodName := ⟨RX9, "nextDue", "(I)I"⟩
abbrev cX9_pass : ByteArray := prog_11_method_40_code
def yX9_pass : MethodName := ⟨RX9, "pass", "(I)I"⟩
def RJx145de : String := "java/io/Serializable"
def TJx145de : u_T := fun k => match k with
  | _ => ("", "", "", false)
def tyJx145de : Nat → FieldType := fun k => match k with
  | _ => .int
abbrev wsJx145de0 : List Cond := u_ws RJx145de TJx145de 0
theorem nmJx145de : ∀ a, a < 0 → ∀ b, b < 0 → a ≠ b → (TJx145de a).2.1 ≠ (TJx145de b).2.1 := by decide +kernel
theorem tyJx145de_ok : ∀ k, k < 0 → parseFieldDescriptor (TJx145de k).2.2.1 = some (tyJx145de k) := by decide +kernel
def RJx8e188 : String := "java/lang/Cloneable"
def TJx8e188 : u_T := fun k => match k with
  | _ => ("", "", "", false)
def tyJx8e188 : Nat → FieldType := fun k => match k with
  | _ => .int
abbrev wsJx8e1880 : List Cond := u_ws RJx8e188 TJx8e188 0
theorem nmJx8e188 : ∀ a, a < 0 → ∀ b, b < 0 → a ≠ b → (TJx8e188 a).2.1 ≠ (TJx8e188 b).2.1 := by decide +kernel
theorem tyJx8e188_ok : ∀ k, k < 0 → parseFieldDescriptor (TJx8e188 k).2.2.1 = some (tyJx8e188 k) := by decide +kernel
def RJ6 : String := "java/lang/Integer"
def TJ6 : u_T := fun k => match k with
  | _ => ("", "", "", false)
def tyJ6 : Nat → FieldType := fun k => match k with
  | _ => .int
abbrev wsJ60 : List Cond := u_ws RJ6 TJ6 0
theorem nmJ6 : ∀ a, a < 0 → ∀ b, b < 0 → a ≠ b → (TJ6 a).2.1 ≠ (TJ6 b).2.1 := by decide +kernel
theorem tyJ6_ok : ∀ k, k < 0 → parseFieldDescriptor (TJ6 k).2.2.1 = some (tyJ6 k) := by decide +kernel
abbrev cJ6_numberOfTrailingZeros_0f7a4 : ByteArray := prog_18_method_48_code
def yJ6_numberOfTrailingZeros_0f7a4 : MethodName := ⟨RJ6, "numberOfTrailingZeros", "(I)I"⟩
abbrev cJ6_bitCount_0f7a4 : ByteArray := prog_18_method_49_code
def yJ6_bitCount_0f7a4 : MethodName := ⟨RJ6, "bitCount", "(I)I"⟩
def RJ9 : String := "java/lang/Math"
def TJ9 : u_T := fun k => match k with
  | _ => ("", "", "", false)
def tyJ9 : Nat → FieldType := fun k => match k with
  | _ => .int
abbrev wsJ90 : List Cond := u_ws RJ9 TJ9 0
theorem nmJ9 : ∀ a, a < 0 → ∀ b, b < 0 → a ≠ b → (TJ9 a).2.1 ≠ (TJ9 b).2.1 := by decide +kernel
theorem tyJ9_ok : ∀ k, k < 0 → parseFieldDescriptor (TJ9 k).2.2.1 = some (tyJ9 k) := by decide +kernel
abbrev cJ9_min_7cf53 : ByteArray := prog_19_method_69_code
def yJ9_min_7cf53 : MethodName := ⟨RJ9, "min", "(II)I"⟩
def RJ0 : String := "java/lang/String"
def TJ0 : u_T := fun k => match k with
  | _ => ("", "", "", false)
def tyJ0 : Nat → FieldType := fun k => match k with
  | _ => .int
abbrev wsJ00 : List Cond := u_ws RJ0 TJ0 0
theorem nmJ0 : ∀ a, a < 0 → ∀ b, b < 0 → a ≠ b → (TJ0 a).2.1 ≠ (TJ0 b).2.1 := by decide +kernel
theorem tyJ0_ok : ∀ k, k < 0 → parseFieldDescriptor (TJ0 k).2.2.1 = some (tyJ0 k) := by decide +kernel
def RJ10 : String := "java/lang/System"
def TJ10 : u_T := fun k => match k with
  | _ => ("", "", "", false)
def tyJ10 : Nat → FieldType := fun k => match k with
  | _ => .int
abbrev wsJ100 : List Cond := u_ws RJ10 TJ10 0
theorem nmJ10 : ∀ a, a < 0 → ∀ b, b < 0 → a ≠ b → (TJ10 a).2.1 ≠ (TJ10 b).2.1 := by decide +kernel
theorem tyJ10_ok : ∀ k, k < 0 → parseFieldDescriptor (TJ10 k).2.2.1 = some (tyJ10 k) := by decide +kernel
def RJ7 : String := "java/util/Arrays"
def TJ7 : u_T := fun k => match k with
  | _ => ("", "", "", false)
def tyJ7 : Nat → FieldType := fun k => match k with
  | _ => .int
abbrev wsJ70 : List Cond := u_ws RJ7 TJ7 0
theorem nmJ7 : ∀ a, a < 0 → ∀ b, b < 0 → a ≠ b → (TJ7 a).2.1 ≠ (TJ7 b).2.1 := by decide +kernel
theorem tyJ7_ok : ∀ k, k < 0 → parseFieldDescriptor (TJ7 k).2.2.1 = some (tyJ7 k) := by decide +kernel
abbrev cJ7_fill_53178 : ByteArray := prog_24_method_103_code
def yJ7_fill_53178 : MethodName := ⟨RJ7, "fill", "([II)V"⟩
abbrev cJ7_copyOf_59c91 : ByteArray := prog_24_method_123_code
def yJ7_copyOf_59c91 : MethodName := ⟨RJ7, "copyOf", "([II)[I"⟩
def RL : String := "PocketglossLaw"
abbrev cL_addRule : ByteArray := method_3_code
def yL_addRule : MethodName := ⟨RL, "addRule", "(LPocketgloss;II[J)I"⟩
abbrev cL_headwords : ByteArray := method_4_code
def yL_headwords : MethodName := ⟨RL, "headwords", "(LPocketgloss;I[J)I"⟩
abbrev cL_isForm : ByteArray := method_5_code
def yL_isForm : MethodName := ⟨RL, "isForm", "(LPocketgloss;II[J)I"⟩
abbrev cL_part : ByteArray := method_6_code
def yL_part : MethodName := ⟨RL, "part", "(LPocketgloss;I[J)I"⟩
abbrev cL_addPhrase : ByteArray := method_7_code
def yL_addPhrase : MethodName := ⟨RL, "addPhrase", "(LPocketgloss;I[J)I"⟩
abbrev cL_addSplit : ByteArray := method_8_code
def yL_addSplit : MethodName := ⟨RL, "addSplit", "(LPocketgloss;IIII[J)I"⟩
abbrev cL_takeOut : ByteArray := method_9_code
def yL_takeOut : MethodName := ⟨RL, "takeOut", "(LPocketgloss;I[J)I"⟩
abbrev cL_say : ByteArray := method_10_code
def yL_say : MethodName := ⟨RL, "say", "(LPocketgloss;I[J)I"⟩
abbrev cL_setBare : ByteArray := method_11_code
def yL_setBare : MethodName := ⟨RL, "setBare", "(LPocketgloss;I[J)I"⟩
abbrev cL_glossAt : ByteArray := method_12_code
def yL_glossAt : MethodName := ⟨RL, "glossAt", "(LPocketgloss;I[J)I"⟩
abbrev cL_placesAt : ByteArray := method_13_code
def yL_placesAt : MethodName := ⟨RL, "placesAt", "(LPocketgloss;I[J)I"⟩
abbrev cL_newEntries : ByteArray := method_14_code
def yL_newEntries : MethodName := ⟨RL, "newEntries", "(LPocketgloss;I[J)I"⟩
abbrev cL_learn : ByteArray := method_15_code
def yL_learn : MethodName := ⟨RL, "learn", "(LPocketgloss;II[J)I"⟩
abbrev cL_review : ByteArray := method_16_code
def yL_review : MethodName := ⟨RL, "review", "(LPocketgloss;IIZ[J)I"⟩
abbrev cL_knows : ByteArray := method_17_code
def yL_knows : MethodName := ⟨RL, "knows", "(LPocketgloss;II[J)I"⟩
abbrev cL_due : ByteArray := method_18_code
def yL_due : MethodName := ⟨RL, "due", "(LPocketgloss;I[J)I"⟩
abbrev cL_nextDue : ByteArray := method_19_code
def yL_nextDue : MethodName := ⟨RL, "nextDue", "(LPocketgloss;I[J)I"⟩
abbrev cL_pass : ByteArray := method_20_code
def yL_pass : MethodName := ⟨RL, "pass", "(LPocketgloss;I[J)I"⟩
abbrev cL_law : ByteArray := code
def yL_law : MethodName := ⟨RL, "law", "([I)Z"⟩
abbrev vwCl : List vw_C := [(RX0, TX0, 2), (RX1, TX1, 2), (RX3, TX3, 2), (RX4, TX4, 3), (RX5, TX5, 2), (RX6, TX6, 4), (RX7, TX7, 4), (RX8, TX8, 11), (RX9, TX9, 24)]
end
section
theorem dX0_init_0 : decode cX0_init 0 = .ok (.aload_n 0, 1) := by decide +kernel
theorem dX0_init_1 : decode cX0_init 1 = .ok (.invokespecial 3, 3) := by decide +kernel
theorem dX0_init_4 : decode cX0_init 4 = .ok (.aload_n 0, 1) := by decide +kernel
theorem dX0_init_5 : decode cX0_init 5 = .ok (.iconst 3, 1) := by decide +kernel
theorem dX0_init_6 : decode cX0_init 6 = .ok (.bipush 8, 2) := by decide +kernel
theorem dX0_init_8 : decode cX0_init 8 = .ok (.multianewarray 9 2, 4) := by decide +kernel
theorem dX0_init_12 : decode cX0_init 12 = .ok (.putfield 11, 3) := by decide +kernel
theorem dX0_init_15 : decode cX0_init 15 = .ok (.aload_n 0, 1) := by decide +kernel
theorem dX0_init_16 : decode cX0_init 16 = .ok (.iconst 3, 1) := by decide +kernel
theorem dX0_init_17 : decode cX0_init 17 = .ok (.bipush 8, 2) := by decide +kernel
theorem dX0_init_19 : decode cX0_init 19 = .ok (.multianewarray 9 2, 4) := by decide +kernel
theorem dX0_init_23 : decode cX0_init 23 = .ok (.putfield 16, 3) := by decide +kernel
theorem dX0_init_26 : decode cX0_init 26 = .ok (.return_, 1) := by decide +kernel
theorem dX0_hasRoom_0 : decode cX0_hasRoom 0 = .ok (.iload_n 1, 1) := by decide +kernel
theorem dX0_hasRoom_1 : decode cX0_hasRoom 1 = .ok (.ifCond .lt 22, 3) := by decide +kernel
theorem dX0_hasRoom_4 : decode cX0_hasRoom 4 = .ok (.iload_n 1, 1) := by decide +kernel
theorem dX0_hasRoom_5 : decode cX0_hasRoom 5 = .ok (.iconst 3, 1) := by decide +kernel
theorem dX0_hasRoom_6 : decode cX0_hasRoom 6 = .ok (.if_icmp .ge 17, 3) := by decide +kernel
theorem dX0_hasRoom_9 : decode cX0_hasRoom 9 = .ok (.iload_n 2, 1) := by decide +kernel
theorem dX0_hasRoom_10 : decode cX0_hasRoom 10 = .ok (.ifCond .lt 13, 3) := by decide +kernel
theorem dX0_hasRoom_13 : decode cX0_hasRoom 13 = .ok (.iload_n 2, 1) := by decide +kernel
theorem dX0_hasRoom_14 : decode cX0_hasRoom 14 = .ok (.bipush 8, 2) := by decide +kernel
theorem dX0_hasRoom_16 : decode cX0_hasRoom 16 = .ok (.if_icmp .ge 7, 3) := by decide +kernel
theorem dX0_hasRoom_19 : decode cX0_hasRoom 19 = .ok (.iconst 1, 1) := by decide +kernel
theorem dX0_hasRoom_20 : decode cX0_hasRoom 20 = .ok (.goto 4, 3) := by decide +kernel
theorem dX0_hasRoom_23 : decode cX0_hasRoom 23 = .ok (.iconst 0, 1) := by decide +kernel
theorem dX0_hasRoom_24 : decode cX0_hasRoom 24 = .ok (.ireturn, 1) := by decide +kernel
theorem dX0_intervalOf_0 : decode cX0_intervalOf 0 = .ok (.aload_n 0, 1) := by decide +kernel
theorem dX0_intervalOf_1 : decode cX0_intervalOf 1 = .ok (.iload_n 1, 1) := by decide +kernel
theorem dX0_intervalOf_2 : decode cX0_intervalOf 2 = .ok (.iload_n 2, 1) := by decide +kernel
theorem dX0_intervalOf_3 : decode cX0_intervalOf 3 = .ok (.invokevirtual 19, 3) := by decide +kernel
theorem dX0_intervalOf_6 : decode cX0_intervalOf 6 = .ok (.ifCond .eq 14, 3) := by decide +kernel
theorem dX0_intervalOf_9 : decode cX0_intervalOf 9 = .ok (.aload_n 0, 1) := by decide +kernel
theorem dX0_intervalOf_10 : decode cX0_intervalOf 10 = .ok (.getfield 11, 3) := by decide +kernel
theorem dX0_intervalOf_13 : decode cX0_intervalOf 13 = .ok (.iload_n 1, 1) := by decide +kernel
theorem dX0_intervalOf_14 : decode cX0_intervalOf 14 = .ok (.aaload, 1) := by decide +kernel
theorem dX0_intervalOf_15 : decode cX0_intervalOf 15 = .ok (.iload_n 2, 1) := by decide +kernel
theorem dX0_intervalOf_16 : decode cX0_intervalOf 16 = .ok (.iaload, 1) := by decide +kernel
theorem dX0_intervalOf_17 : decode cX0_intervalOf 17 = .ok (.goto 4, 3) := by decide +kernel
theorem dX0_intervalOf_20 : decode cX0_intervalOf 20 = .ok (.iconst 0, 1) := by decide +kernel
theorem dX0_intervalOf_21 : decode cX0_intervalOf 21 = .ok (.ireturn, 1) := by decide +kernel
theorem dX0_has_0 : decode cX0_has 0 = .ok (.aload_n 0, 1) := by decide +kernel
theorem dX0_has_1 : decode cX0_has 1 = .ok (.iload_n 1, 1) := by decide +kernel
theorem dX0_has_2 : decode cX0_has 2 = .ok (.iload_n 2, 1) := by decide +kernel
theorem dX0_has_3 : decode cX0_has 3 = .ok (.invokevirtual 23, 3) := by decide +kernel
theorem dX0_has_6 : decode cX0_has 6 = .ok (.ifCond .le 7, 3) := by decide +kernel
theorem dX0_has_9 : decode cX0_has 9 = .ok (.iconst 1, 1) := by decide +kernel
theorem dX0_has_10 : decode cX0_has 10 = .ok (.goto 4, 3) := by decide +kernel
theorem dX0_has_13 : decode cX0_has 13 = .ok (.iconst 0, 1) := by decide +kernel
theorem dX0_has_14 : decode cX0_has 14 = .ok (.ireturn, 1) := by decide +kernel
theorem dX0_isDue_0 : decode cX0_isDue 0 = .ok (.aload_n 0, 1) := by decide +kernel
theorem dX0_isDue_1 : decode cX0_isDue 1 = .ok (.iload_n 1, 1) := by decide +kernel
theorem dX0_isDue_2 : decode cX0_isDue 2 = .ok (.iload_n 2, 1) := by decide +kernel
theorem dX0_isDue_3 : decode cX0_isDue 3 = .ok (.invokevirtual 27, 3) := by decide +kernel
theorem dX0_isDue_6 : decode cX0_isDue 6 = .ok (.ifCond .eq 19, 3) := by decide +kernel
theorem dX0_isDue_9 : decode cX0_isDue 9 = .ok (.aload_n 0, 1) := by decide +kernel
theorem dX0_isDue_10 : decode cX0_isDue 10 = .ok (.getfield 16, 3) := by decide +kernel
theorem dX0_isDue_13 : decode cX0_isDue 13 = .ok (.iload_n 1, 1) := by decide +kernel
theorem dX0_isDue_14 : decode cX0_isDue 14 = .ok (.aaload, 1) := by decide +kernel
theorem dX0_isDue_15 : decode cX0_isDue 15 = .ok (.iload_n 2, 1) := by decide +kernel
theorem dX0_isDue_16 : decode cX0_isDue 16 = .ok (.iaload, 1) := by decide +kernel
theorem dX0_isDue_17 : decode cX0_isDue 17 = .ok (.iload_n 3, 1) := by decide +kernel
theorem dX0_isDue_18 : decode cX0_isDue 18 = .ok (.if_icmp .gt 7, 3) := by decide +kernel
theorem dX0_isDue_21 : decode cX0_isDue 21 = .ok (.iconst 1, 1) := by decide +kernel
theorem dX0_isDue_22 : decode cX0_isDue 22 = .ok (.goto 4, 3) := by decide +kernel
theorem dX0_isDue_25 : decode cX0_isDue 25 = .ok (.iconst 0, 1) := by decide +kernel
theorem dX0_isDue_26 : decode cX0_isDue 26 = .ok (.ireturn, 1) := by decide +kernel
theorem dX0_put_0 : decode cX0_put 0 = .ok (.aload_n 0, 1) := by decide +kernel
theorem dX0_put_1 : decode cX0_put 1 = .ok (.iload_n 1, 1) := by decide +kernel
theorem dX0_put_2 : decode cX0_put 2 = .ok (.iload_n 2, 1) := by decide +kernel
theorem dX0_put_3 : decode cX0_put 3 = .ok (.invokevirtual 19, 3) := by decide +kernel
theorem dX0_put_6 : decode cX0_put 6 = .ok (.ifCond .eq 24, 3) := by decide +kernel
theorem dX0_put_9 : decode cX0_put 9 = .ok (.aload_n 0, 1) := by decide +kernel
theorem dX0_put_10 : decode cX0_put 10 = .ok (.getfield 11, 3) := by decide +kernel
theorem dX0_put_13 : decode cX0_put 13 = .ok (.iload_n 1, 1) := by decide +kernel
theorem dX0_put_14 : decode cX0_put 14 = .ok (.aaload, 1) := by decide +kernel
theorem dX0_put_15 : decode cX0_put 15 = .ok (.iload_n 2, 1) := by decide +kernel
theorem dX0_put_16 : decode cX0_put 16 = .ok (.iload_n 3, 1) := by decide +kernel
theorem dX0_put_17 : decode cX0_put 17 = .ok (.iastore, 1) := by decide +kernel
theorem dX0_put_18 : decode cX0_put 18 = .ok (.aload_n 0, 1) := by decide +kernel
theorem dX0_put_19 : decode cX0_put 19 = .ok (.getfield 16, 3) := by decide +kernel
theorem dX0_put_22 : decode cX0_put 22 = .ok (.iload_n 1, 1) := by decide +kernel
theorem dX0_put_23 : decode cX0_put 23 = .ok (.aaload, 1) := by decide +kernel
theorem dX0_put_24 : decode cX0_put 24 = .ok (.iload_n 2, 1) := by decide +kernel
theorem dX0_put_25 : decode cX0_put 25 = .ok (.iload 4, 2) := by decide +kernel
theorem dX0_put_27 : decode cX0_put 27 = .ok (.iload_n 3, 1) := by decide +kernel
theorem dX0_put_28 : decode cX0_put 28 = .ok (.iadd, 1) := by decide +kernel
theorem dX0_put_29 : decode cX0_put 29 = .ok (.iastore, 1) := by decide +kernel
theorem dX0_put_30 : decode cX0_put 30 = .ok (.return_, 1) := by decide +kernel
theorem dX0_drop_0 : decode cX0_drop 0 = .ok (.aload_n 0, 1) := by decide +kernel
theorem dX0_drop_1 : decode cX0_drop 1 = .ok (.iload_n 1, 1) := by decide +kernel
theorem dX0_drop_2 : decode cX0_drop 2 = .ok (.iload_n 2, 1) := by decide +kernel
theorem dX0_drop_3 : decode cX0_drop 3 = .ok (.invokevirtual 19, 3) := by decide +kernel
theorem dX0_drop_6 : decode cX0_drop 6 = .ok (.ifCond .eq 12, 3) := by decide +kernel
theorem dX0_drop_9 : decode cX0_drop 9 = .ok (.aload_n 0, 1) := by decide +kernel
theorem dX0_drop_10 : decode cX0_drop 10 = .ok (.getfield 11, 3) := by decide +kernel
theorem dX0_drop_13 : decode cX0_drop 13 = .ok (.iload_n 1, 1) := by decide +kernel
theorem dX0_drop_14 : decode cX0_drop 14 = .ok (.aaload, 1) := by decide +kernel
theorem dX0_drop_15 : decode cX0_drop 15 = .ok (.iload_n 2, 1) := by decide +kernel
theorem dX0_drop_16 : decode cX0_drop 16 = .ok (.iconst 0, 1) := by decide +kernel
theorem dX0_drop_17 : decode cX0_drop 17 = .ok (.iastore, 1) := by decide +kernel
theorem dX0_drop_18 : decode cX0_drop 18 = .ok (.return_, 1) := by decide +kernel
theorem dX0_countOf_0 : decode cX0_countOf 0 = .ok (.iconst 0, 1) := by decide +kernel
theorem dX0_countOf_1 : decode cX0_countOf 1 = .ok (.istore_n 2, 1) := by decide +kernel
theorem dX0_countOf_2 : decode cX0_countOf 2 = .ok (.iconst 0, 1) := by decide +kernel
theorem dX0_countOf_3 : decode cX0_countOf 3 = .ok (.istore_n 3, 1) := by decide +kernel
theorem dX0_countOf_4 : decode cX0_countOf 4 = .ok (.iload_n 3, 1) := by decide +kernel
theorem dX0_countOf_5 : decode cX0_countOf 5 = .ok (.bipush 8, 2) := by decide +kernel
theorem dX0_countOf_7 : decode cX0_countOf 7 = .ok (.if_icmp .ge 21, 3) := by decide +kernel
theorem dX0_countOf_10 : decode cX0_countOf 10 = .ok (.aload_n 0, 1) := by decide +kernel
theorem dX0_countOf_11 : decode cX0_countOf 11 = .ok (.iload_n 1, 1) := by decide +kernel
theorem dX0_countOf_12 : decode cX0_countOf 12 = .ok (.iload_n 3, 1) := by decide +kernel
theorem dX0_countOf_13 : decode cX0_countOf 13 = .ok (.invokevirtual 27, 3) := by decide +kernel
theorem dX0_countOf_16 : decode cX0_countOf 16 = .ok (.ifCond .eq 6, 3) := by decide +kernel
theorem dX0_countOf_19 : decode cX0_countOf 19 = .ok (.iinc 2 1, 3) := by decide +kernel
theorem dX0_countOf_22 : decode cX0_countOf 22 = .ok (.iinc 3 1, 3) := by decide +kernel
theorem dX0_countOf_25 : decode cX0_countOf 25 = .ok (.goto (-21), 3) := by decide +kernel
theorem dX0_countOf_28 : decode cX0_countOf 28 = .ok (.iload_n 2, 1) := by decide +kernel
theorem dX0_countOf_29 : decode cX0_countOf 29 = .ok (.ireturn, 1) := by decide +kernel
theorem dX0_firstOf_0 : decode cX0_firstOf 0 = .ok (.iconst (-1), 1) := by decide +kernel
theorem dX0_firstOf_1 : decode cX0_firstOf 1 = .ok (.istore_n 2, 1) := by decide +kernel
theorem dX0_firstOf_2 : decode cX0_firstOf 2 = .ok (.iconst 0, 1) := by decide +kernel
theorem dX0_firstOf_3 : decode cX0_firstOf 3 = .ok (.istore_n 3, 1) := by decide +kernel
theorem dX0_firstOf_4 : decode cX0_firstOf 4 = .ok (.iload_n 3, 1) := by decide +kernel
theorem dX0_firstOf_5 : decode cX0_firstOf 5 = .ok (.bipush 8, 2) := by decide +kernel
theorem dX0_firstOf_7 : decode cX0_firstOf 7 = .ok (.if_icmp .ge 44, 3) := by decide +kernel
theorem dX0_firstOf_10 : decode cX0_firstOf 10 = .ok (.aload_n 0, 1) := by decide +kernel
theorem dX0_firstOf_11 : decode cX0_firstOf 11 = .ok (.iload_n 1, 1) := by decide +kernel
theorem dX0_firstOf_12 : decode cX0_firstOf 12 = .ok (.iload_n 3, 1) := by decide +kernel
theorem dX0_firstOf_13 : decode cX0_firstOf 13 = .ok (.invokevirtual 27, 3) := by decide +kernel
theorem dX0_firstOf_16 : decode cX0_firstOf 16 = .ok (.ifCond .eq 29, 3) := by decide +kernel
theorem dX0_firstOf_19 : decode cX0_firstOf 19 = .ok (.iload_n 2, 1) := by decide +kernel
theorem dX0_firstOf_20 : decode cX0_firstOf 20 = .ok (.iconst (-1), 1) := by decide +kernel
theorem dX0_firstOf_21 : decode cX0_firstOf 21 = .ok (.if_icmp .eq 22, 3) := by decide +kernel
theorem dX0_firstOf_24 : decode cX0_firstOf 24 = .ok (.aload_n 0, 1) := by decide +kernel
theorem dX0_firstOf_25 : decode cX0_firstOf 25 = .ok (.getfield 16, 3) := by decide +kernel
theorem dX0_firstOf_28 : decode cX0_firstOf 28 = .ok (.iload_n 1, 1) := by decide +kernel
theorem dX0_firstOf_29 : decode cX0_firstOf 29 = .ok (.aaload, 1) := by decide +kernel
theorem dX0_firstOf_30 : decode cX0_firstOf 30 = .ok (.iload_n 3, 1) := by decide +kernel
theorem dX0_firstOf_31 : decode cX0_firstOf 31 = .ok (.iaload, 1) := by decide +kernel
theorem dX0_firstOf_32 : decode cX0_firstOf 32 = .ok (.aload_n 0, 1) := by decide +kernel
theorem dX0_firstOf_33 : decode cX0_firstOf 33 = .ok (.getfield 16, 3) := by decide +kernel
theorem dX0_firstOf_36 : decode cX0_firstOf 36 = .ok (.iload_n 1, 1) := by decide +kernel
theorem dX0_firstOf_37 : decode cX0_firstOf 37 = .ok (.aaload, 1) := by decide +kernel
theorem dX0_firstOf_38 : decode cX0_firstOf 38 = .ok (.iload_n 2, 1) := by decide +kernel
theorem dX0_firstOf_39 : decode cX0_firstOf 39 = .ok (.iaload, 1) := by decide +kernel
theorem dX0_firstOf_40 : decode cX0_firstOf 40 = .ok (.if_icmp .ge 5, 3) := by decide +kernel
theorem dX0_firstOf_43 : decode cX0_firstOf 43 = .ok (.iload_n 3, 1) := by decide +kernel
theorem dX0_firstOf_44 : decode cX0_firstOf 44 = .ok (.istore_n 2, 1) := by decide +kernel
theorem dX0_firstOf_45 : decode cX0_firstOf 45 = .ok (.iinc 3 1, 3) := by decide +kernel
theorem dX0_firstOf_48 : decode cX0_firstOf 48 = .ok (.goto (-44), 3) := by decide +kernel
theorem dX0_firstOf_51 : decode cX0_firstOf 51 = .ok (.iload_n 2, 1) := by decide +kernel
theorem dX0_firstOf_52 : decode cX0_firstOf 52 = .ok (.ireturn, 1) := by decide +kernel
theorem dX1_init_0 : decode cX1_init 0 = .ok (.aload_n 0, 1) := by decide +kernel
theorem dX1_init_1 : decode cX1_init 1 = .ok (.invokespecial 3, 3) := by decide +kernel
theorem dX1_init_4 : decode cX1_init 4 = .ok (.aload_n 0, 1) := by decide +kernel
theorem dX1_init_5 : decode cX1_init 5 = .ok (.bipush 7, 2) := by decide +kernel
theorem dX1_init_7 : decode cX1_init 7 = .ok (.bipush 64, 2) := by decide +kernel
theorem dX1_init_9 : decode cX1_init 9 = .ok (.multianewarray 11 2, 4) := by decide +kernel
theorem dX1_init_13 : decode cX1_init 13 = .ok (.putfield 13, 3) := by decide +kernel
theorem dX1_init_16 : decode cX1_init 16 = .ok (.aload_n 0, 1) := by decide +kernel
theorem dX1_init_17 : decode cX1_init 17 = .ok (.bipush 6, 2) := by decide +kernel
theorem dX1_init_19 : decode cX1_init 19 = .ok (.newarray .int, 2) := by decide +kernel
theorem dX1_init_21 : decode cX1_init 21 = .ok (.putfield 16, 3) := by decide +kernel
theorem dX1_init_24 : decode cX1_init 24 = .ok (.return_, 1) := by decide +kernel
theorem dX1_weigh_0 : decode cX1_weigh 0 = .ok (.iconst 5, 1) := by decide +kernel
theorem dX1_weigh_1 : decode cX1_weigh 1 = .ok (.istore 4, 2) := by decide +kernel
theorem dX1_weigh_3 : decode cX1_weigh 3 = .ok (.iload 4, 2) := by decide +kernel
theorem dX1_weigh_5 : decode cX1_weigh 5 = .ok (.ifCond .lt 59, 3) := by decide +kernel
theorem dX1_weigh_8 : decode cX1_weigh 8 = .ok (.iload 4, 2) := by decide +kernel
theorem dX1_weigh_10 : decode cX1_weigh 10 = .ok (.iload_n 2, 1) := by decide +kernel
theorem dX1_weigh_11 : decode cX1_weigh 11 = .ok (.if_icmp .ge 7, 3) := by decide +kernel
theorem dX1_weigh_14 : decode cX1_weigh 14 = .ok (.iload_n 3, 1) := by decide +kernel
theorem dX1_weigh_15 : decode cX1_weigh 15 = .ok (.goto 4, 3) := by decide +kernel
theorem dX1_weigh_18 : decode cX1_weigh 18 = .ok (.iconst 0, 1) := by decide +kernel
theorem dX1_weigh_19 : decode cX1_weigh 19 = .ok (.istore 5, 2) := by decide +kernel
theorem dX1_weigh_21 : decode cX1_weigh 21 = .ok (.iconst 0, 1) := by decide +kernel
theorem dX1_weigh_22 : decode cX1_weigh 22 = .ok (.istore 6, 2) := by decide +kernel
theorem dX1_weigh_24 : decode cX1_weigh 24 = .ok (.iload 6, 2) := by decide +kernel
theorem dX1_weigh_26 : decode cX1_weigh 26 = .ok (.bipush 64, 2) := by decide +kernel
theorem dX1_weigh_28 : decode cX1_weigh 28 = .ok (.if_icmp .ge 30, 3) := by decide +kernel
theorem dX1_weigh_31 : decode cX1_weigh 31 = .ok (.aload_n 0, 1) := by decide +kernel
theorem dX1_weigh_32 : decode cX1_weigh 32 = .ok (.getfield 13, 3) := by decide +kernel
theorem dX1_weigh_35 : decode cX1_weigh 35 = .ok (.iload 4, 2) := by decide +kernel
theorem dX1_weigh_37 : decode cX1_weigh 37 = .ok (.aaload, 1) := by decide +kernel
theorem dX1_weigh_38 : decode cX1_weigh 38 = .ok (.iload 6, 2) := by decide +kernel
theorem dX1_weigh_40 : decode cX1_weigh 40 = .ok (.aload_n 0, 1) := by decide +kernel
theorem dX1_weigh_41 : decode cX1_weigh 41 = .ok (.iload 4, 2) := by decide +kernel
theorem dX1_weigh_43 : decode cX1_weigh 43 = .ok (.iload 6, 2) := by decide +kernel
theorem dX1_weigh_45 : decode cX1_weigh 45 = .ok (.aload_n 1, 1) := by decide +kernel
theorem dX1_weigh_46 : decode cX1_weigh 46 = .ok (.iload 5, 2) := by decide +kernel
theorem dX1_weigh_48 : decode cX1_weigh 48 = .ok (.invokevirtual 20, 3) := by decide +kernel
theorem dX1_weigh_51 : decode cX1_weigh 51 = .ok (.iastore, 1) := by decide +kernel
theorem dX1_weigh_52 : decode cX1_weigh 52 = .ok (.iinc 6 1, 3) := by decide +kernel
theorem dX1_weigh_55 : decode cX1_weigh 55 = .ok (.goto (-31), 3) := by decide +kernel
theorem dX1_weigh_58 : decode cX1_weigh 58 = .ok (.iinc 4 (-1), 3) := by decide +kernel
theorem dX1_weigh_61 : decode cX1_weigh 61 = .ok (.goto (-58), 3) := by decide +kernel
theorem dX1_weigh_64 : decode cX1_weigh 64 = .ok (.return_, 1) := by decide +kernel
theorem dX1_leastFrom_0 : decode cX1_leastFrom 0 = .ok (.iload_n 2, 1) := by decide +kernel
theorem dX1_leastFrom_1 : decode cX1_leastFrom 1 = .ok (.iload_n 1, 1) := by decide +kernel
theorem dX1_leastFrom_2 : decode cX1_leastFrom 2 = .ok (.ishr, 1) := by decide +kernel
theorem dX1_leastFrom_3 : decode cX1_leastFrom 3 = .ok (.iconst 1, 1) := by decide +kernel
theorem dX1_leastFrom_4 : decode cX1_leastFrom 4 = .ok (.iand, 1) := by decide +kernel
theorem dX1_leastFrom_5 : decode cX1_leastFrom 5 = .ok (.iconst 1, 1) := by decide +kernel
theorem dX1_leastFrom_6 : decode cX1_leastFrom 6 = .ok (.if_icmp .ne 14, 3) := by decide +kernel
theorem dX1_leastFrom_9 : decode cX1_leastFrom 9 = .ok (.aload_n 0, 1) := by decide +kernel
theorem dX1_leastFrom_10 : decode cX1_leastFrom 10 = .ok (.getfield 13, 3) := by decide +kernel
theorem dX1_leastFrom_13 : decode cX1_leastFrom 13 = .ok (.iload_n 1, 1) := by decide +kernel
theorem dX1_leastFrom_14 : decode cX1_leastFrom 14 = .ok (.iconst 1, 1) := by decide +kernel
theorem dX1_leastFrom_15 : decode cX1_leastFrom 15 = .ok (.iadd, 1) := by decide +kernel
theorem dX1_leastFrom_16 : decode cX1_leastFrom 16 = .ok (.aaload, 1) := by decide +kernel
theorem dX1_leastFrom_17 : decode cX1_leastFrom 17 = .ok (.iload_n 2, 1) := by decide +kernel
theorem dX1_leastFrom_18 : decode cX1_leastFrom 18 = .ok (.iaload, 1) := by decide +kernel
theorem dX1_leastFrom_19 : decode cX1_leastFrom 19 = .ok (.ireturn, 1) := by decide +kernel
theorem dX1_leastFrom_20 : decode cX1_leastFrom 20 = .ok (.iload 4, 2) := by decide +kernel
theorem dX1_leastFrom_22 : decode cX1_leastFrom 22 = .ok (.aload_n 0, 1) := by decide +kernel
theorem dX1_leastFrom_23 : decode cX1_leastFrom 23 = .ok (.getfield 13, 3) := by decide +kernel
theorem dX1_leastFrom_26 : decode cX1_leastFrom 26 = .ok (.iload_n 1, 1) := by decide +kernel
theorem dX1_leastFrom_27 : decode cX1_leastFrom 27 = .ok (.iconst 1, 1) := by decide +kernel
theorem dX1_leastFrom_28 : decode cX1_leastFrom 28 = .ok (.iadd, 1) := by decide +kernel
theorem dX1_leastFrom_29 : decode cX1_leastFrom 29 = .ok (.aaload, 1) := by decide +kernel
theorem dX1_leastFrom_30 : decode cX1_leastFrom 30 = .ok (.iload_n 2, 1) := by decide +kernel
theorem dX1_leastFrom_31 : decode cX1_leastFrom 31 = .ok (.iaload, 1) := by decide +kernel
theorem dX1_leastFrom_32 : decode cX1_leastFrom 32 = .ok (.iadd, 1) := by decide +kernel
theorem dX1_leastFrom_33 : decode cX1_leastFrom 33 = .ok (.istore 5, 2) := by decide +kernel
theorem dX1_leastFrom_35 : decode cX1_leastFrom 35 = .ok (.iconst 0, 1) := by decide +kernel
theorem dX1_leastFrom_36 : decode cX1_leastFrom 36 = .ok (.istore 6, 2) := by decide +kernel
theorem dX1_leastFrom_38 : decode cX1_leastFrom 38 = .ok (.iload 6, 2) := by decide +kernel
theorem dX1_leastFrom_40 : decode cX1_leastFrom 40 = .ok (.aload_n 3, 1) := by decide +kernel
theorem dX1_leastFrom_41 : decode cX1_leastFrom 41 = .ok (.getfield 24, 3) := by decide +kernel
theorem dX1_leastFrom_44 : decode cX1_leastFrom 44 = .ok (.if_icmp .ge 36, 3) := by decide +kernel
theorem dX1_leastFrom_47 : decode cX1_leastFrom 47 = .ok (.aload_n 3, 1) := by decide +kernel
theorem dX1_leastFrom_48 : decode cX1_leastFrom 48 = .ok (.iload 6, 2) := by decide +kernel
theorem dX1_leastFrom_50 : decode cX1_leastFrom 50 = .ok (.iload_n 1, 1) := by decide +kernel
theorem dX1_leastFrom_51 : decode cX1_leastFrom 51 = .ok (.iload_n 2, 1) := by decide +kernel
theorem dX1_leastFrom_52 : decode cX1_leastFrom 52 = .ok (.invokevirtual 30, 3) := by decide +kernel
theorem dX1_leastFrom_55 : decode cX1_leastFrom 55 = .ok (.ifCond .eq 19, 3) := by decide +kernel
theorem dX1_leastFrom_58 : decode cX1_leastFrom 58 = .ok (.iload 5, 2) := by decide +kernel
theorem dX1_leastFrom_60 : decode cX1_leastFrom 60 = .ok (.aload_n 0, 1) := by decide +kernel
theorem dX1_leastFrom_61 : decode cX1_leastFrom 61 = .ok (.iload 6, 2) := by decide +kernel
theorem dX1_leastFrom_63 : decode cX1_leastFrom 63 = .ok (.iload_n 1, 1) := by decide +kernel
theorem dX1_leastFrom_64 : decode cX1_leastFrom 64 = .ok (.iload_n 2, 1) := by decide +kernel
theorem dX1_leastFrom_65 : decode cX1_leastFrom 65 = .ok (.aload_n 3, 1) := by decide +kernel
theorem dX1_leastFrom_66 : decode cX1_leastFrom 66 = .ok (.invokevirtual 34, 3) := by decide +kernel
theorem dX1_leastFrom_69 : decode cX1_leastFrom 69 = .ok (.invokestatic 38, 3) := by decide +kernel
theorem dX1_leastFrom_72 : decode cX1_leastFrom 72 = .ok (.istore 5, 2) := by decide +kernel
theorem dX1_leastFrom_74 : decode cX1_leastFrom 74 = .ok (.iinc 6 1, 3) := by decide +kernel
theorem dX1_leastFrom_77 : decode cX1_leastFrom 77 = .ok (.goto (-39), 3) := by decide +kernel
theorem dX1_leastFrom_80 : decode cX1_leastFrom 80 = .ok (.iload 5, 2) := by decide +kernel
theorem dX1_leastFrom_82 : decode cX1_leastFrom 82 = .ok (.ireturn, 1) := by decide +kernel
theorem dX1_costWith_0 : decode cX1_costWith 0 = .ok (.iload_n 3, 1) := by decide +kernel
theorem dX1_costWith_1 : decode cX1_costWith 1 = .ok (.aload 4, 2) := by decide +kernel
theorem dX1_costWith_3 : decode cX1_costWith 3 = .ok (.iload_n 1, 1) := by decide +kernel
theorem dX1_costWith_4 : decode cX1_costWith 4 = .ok (.invokevirtual 44, 3) := by decide +kernel
theorem dX1_costWith_7 : decode cX1_costWith 7 = .ok (.ior, 1) := by decide +kernel
theorem dX1_costWith_8 : decode cX1_costWith 8 = .ok (.bipush 63, 2) := by decide +kernel
theorem dX1_costWith_10 : decode cX1_costWith 10 = .ok (.iand, 1) := by decide +kernel
theorem dX1_costWith_11 : decode cX1_costWith 11 = .ok (.istore 5, 2) := by decide +kernel
theorem dX1_costWith_13 : decode cX1_costWith 13 = .ok (.aload 4, 2) := by decide +kernel
theorem dX1_costWith_15 : decode cX1_costWith 15 = .ok (.iload_n 1, 1) := by decide +kernel
theorem dX1_costWith_16 : decode cX1_costWith 16 = .ok (.invokevirtual 48, 3) := by decide +kernel
theorem dX1_costWith_19 : decode cX1_costWith 19 = .ok (.aload_n 0, 1) := by decide +kernel
theorem dX1_costWith_20 : decode cX1_costWith 20 = .ok (.getfield 13, 3) := by decide +kernel
theorem dX1_costWith_23 : decode cX1_costWith 23 = .ok (.iload_n 2, 1) := by decide +kernel
theorem dX1_costWith_24 : decode cX1_costWith 24 = .ok (.iconst 1, 1) := by decide +kernel
theorem dX1_costWith_25 : decode cX1_costWith 25 = .ok (.iadd, 1) := by decide +kernel
theorem dX1_costWith_26 : decode cX1_costWith 26 = .ok (.aaload, 1) := by decide +kernel
theorem dX1_costWith_27 : decode cX1_costWith 27 = .ok (.iload 5, 2) := by decide +kernel
theorem dX1_costWith_29 : decode cX1_costWith 29 = .ok (.iaload, 1) := by decide +kernel
theorem dX1_costWith_30 : decode cX1_costWith 30 = .ok (.iadd, 1) := by decide +kernel
theorem dX1_costWith_31 : decode cX1_costWith 31 = .ok (.ireturn, 1) := by decide +kernel
theorem dX1_leastCost_0 : decode cX1_leastCost 0 = .ok (.aload_n 0, 1) := by decide +kernel
theorem dX1_leastCost_1 : decode cX1_leastCost 1 = .ok (.getfield 13, 3) := by decide +kernel
theorem dX1_leastCost_4 : decode cX1_leastCost 4 = .ok (.iconst 0, 1) := by decide +kernel
theorem dX1_leastCost_5 : decode cX1_leastCost 5 = .ok (.aaload, 1) := by decide +kernel
theorem dX1_leastCost_6 : decode cX1_leastCost 6 = .ok (.iconst 0, 1) := by decide +kernel
theorem dX1_leastCost_7 : decode cX1_leastCost 7 = .ok (.iaload, 1) := by decide +kernel
theorem dX1_leastCost_8 : decode cX1_leastCost 8 = .ok (.ireturn, 1) := by decide +kernel
theorem dX1_choose_0 : decode cX1_choose 0 = .ok (.aload_n 0, 1) := by decide +kernel
theorem dX1_choose_1 : decode cX1_choose 1 = .ok (.getfield 16, 3) := by decide +kernel
theorem dX1_choose_4 : decode cX1_choose 4 = .ok (.iconst (-1), 1) := by decide +kernel
theorem dX1_choose_5 : decode cX1_choose 5 = .ok (.invokestatic 51, 3) := by decide +kernel
theorem dX1_choose_8 : decode cX1_choose 8 = .ok (.iconst 0, 1) := by decide +kernel
theorem dX1_choose_9 : decode cX1_choose 9 = .ok (.istore_n 2, 1) := by decide +kernel
theorem dX1_choose_10 : decode cX1_choose 10 = .ok (.iconst 0, 1) := by decide +kernel
theorem dX1_choose_11 : decode cX1_choose 11 = .ok (.istore_n 3, 1) := by decide +kernel
theorem dX1_choose_12 : decode cX1_choose 12 = .ok (.iload_n 3, 1) := by decide +kernel
theorem dX1_choose_13 : decode cX1_choose 13 = .ok (.bipush 6, 2) := by decide +kernel
theorem dX1_choose_15 : decode cX1_choose 15 = .ok (.if_icmp .ge 50, 3) := by decide +kernel
theorem dX1_choose_18 : decode cX1_choose 18 = .ok (.iload_n 2, 1) := by decide +kernel
theorem dX1_choose_19 : decode cX1_choose 19 = .ok (.iload_n 3, 1) := by decide +kernel
theorem dX1_choose_20 : decode cX1_choose 20 = .ok (.ishr, 1) := by decide +kernel
theorem dX1_choose_21 : decode cX1_choose 21 = .ok (.iconst 1, 1) := by decide +kernel
theorem dX1_choose_22 : decode cX1_choose 22 = .ok (.iand, 1) := by decide +kernel
theorem dX1_choose_23 : decode cX1_choose 23 = .ok (.ifCond .ne 36, 3) := by decide +kernel
theorem dX1_choose_26 : decode cX1_choose 26 = .ok (.aload_n 0, 1) := by decide +kernel
theorem dX1_choose_27 : decode cX1_choose 27 = .ok (.iload_n 3, 1) := by decide +kernel
theorem dX1_choose_28 : decode cX1_choose 28 = .ok (.iload_n 2, 1) := by decide +kernel
theorem dX1_choose_29 : decode cX1_choose 29 = .ok (.aload_n 1, 1) := by decide +kernel
theorem dX1_choose_30 : decode cX1_choose 30 = .ok (.invokevirtual 57, 3) := by decide +kernel
theorem dX1_choose_33 : decode cX1_choose 33 = .ok (.istore 4, 2) := by decide +kernel
theorem dX1_choose_35 : decode cX1_choose 35 = .ok (.aload_n 1, 1) := by decide +kernel
theorem dX1_choose_36 : decode cX1_choose 36 = .ok (.iload 4, 2) := by decide +kernel
theorem dX1_choose_38 : decode cX1_choose 38 = .ok (.invokevirtual 44, 3) := by decide +kernel
theorem dX1_choose_41 : decode cX1_choose 41 = .ok (.istore 5, 2) := by decide +kernel
theorem dX1_choose_43 : decode cX1_choose 43 = .ok (.aload_n 0, 1) := by decide +kernel
theorem dX1_choose_44 : decode cX1_choose 44 = .ok (.iload 5, 2) := by decide +kernel
theorem dX1_choose_46 : decode cX1_choose 46 = .ok (.iload 4, 2) := by decide +kernel
theorem dX1_choose_48 : decode cX1_choose 48 = .ok (.invokevirtual 61, 3) := by decide +kernel
theorem dX1_choose_51 : decode cX1_choose 51 = .ok (.iload_n 2, 1) := by decide +kernel
theorem dX1_choose_52 : decode cX1_choose 52 = .ok (.iload 5, 2) := by decide +kernel
theorem dX1_choose_54 : decode cX1_choose 54 = .ok (.ior, 1) := by decide +kernel
theorem dX1_choose_55 : decode cX1_choose 55 = .ok (.bipush 63, 2) := by decide +kernel
theorem dX1_choose_57 : decode cX1_choose 57 = .ok (.iand, 1) := by decide +kernel
theorem dX1_choose_58 : decode cX1_choose 58 = .ok (.istore_n 2, 1) := by decide +kernel
theorem dX1_choose_59 : decode cX1_choose 59 = .ok (.iinc 3 1, 3) := by decide +kernel
theorem dX1_choose_62 : decode cX1_choose 62 = .ok (.goto (-50), 3) := by decide +kernel
theorem dX1_choose_65 : decode cX1_choose 65 = .ok (.return_, 1) := by decide +kernel
theorem dX1_bestFrom_0 : decode cX1_bestFrom 0 = .ok (.iconst 0, 1) := by decide +kernel
theorem dX1_bestFrom_1 : decode cX1_bestFrom 1 = .ok (.istore 4, 2) := by decide +kernel
theorem dX1_bestFrom_3 : decode cX1_bestFrom 3 = .ok (.iload 4, 2) := by decide +kernel
theorem dX1_bestFrom_5 : decode cX1_bestFrom 5 = .ok (.aload_n 3, 1) := by decide +kernel
theorem dX1_bestFrom_6 : decode cX1_bestFrom 6 = .ok (.getfield 24, 3) := by decide +kernel
theorem dX1_bestFrom_9 : decode cX1_bestFrom 9 = .ok (.if_icmp .ge 43, 3) := by decide +kernel
theorem dX1_bestFrom_12 : decode cX1_bestFrom 12 = .ok (.aload_n 3, 1) := by decide +kernel
theorem dX1_bestFrom_13 : decode cX1_bestFrom 13 = .ok (.iload 4, 2) := by decide +kernel
theorem dX1_bestFrom_15 : decode cX1_bestFrom 15 = .ok (.iload_n 1, 1) := by decide +kernel
theorem dX1_bestFrom_16 : decode cX1_bestFrom 16 = .ok (.iload_n 2, 1) := by decide +kernel
theorem dX1_bestFrom_17 : decode cX1_bestFrom 17 = .ok (.invokevirtual 30, 3) := by decide +kernel
theorem dX1_bestFrom_20 : decode cX1_bestFrom 20 = .ok (.ifCond .eq 26, 3) := by decide +kernel
theorem dX1_bestFrom_23 : decode cX1_bestFrom 23 = .ok (.aload_n 0, 1) := by decide +kernel
theorem dX1_bestFrom_24 : decode cX1_bestFrom 24 = .ok (.iload 4, 2) := by decide +kernel
theorem dX1_bestFrom_26 : decode cX1_bestFrom 26 = .ok (.iload_n 1, 1) := by decide +kernel
theorem dX1_bestFrom_27 : decode cX1_bestFrom 27 = .ok (.iload_n 2, 1) := by decide +kernel
theorem dX1_bestFrom_28 : decode cX1_bestFrom 28 = .ok (.aload_n 3, 1) := by decide +kernel
theorem dX1_bestFrom_29 : decode cX1_bestFrom 29 = .ok (.invokevirtual 34, 3) := by decide +kernel
theorem dX1_bestFrom_32 : decode cX1_bestFrom 32 = .ok (.aload_n 0, 1) := by decide +kernel
theorem dX1_bestFrom_33 : decode cX1_bestFrom 33 = .ok (.getfield 13, 3) := by decide +kernel
theorem dX1_bestFrom_36 : decode cX1_bestFrom 36 = .ok (.iload_n 1, 1) := by decide +kernel
theorem dX1_bestFrom_37 : decode cX1_bestFrom 37 = .ok (.aaload, 1) := by decide +kernel
theorem dX1_bestFrom_38 : decode cX1_bestFrom 38 = .ok (.iload_n 2, 1) := by decide +kernel
theorem dX1_bestFrom_39 : decode cX1_bestFrom 39 = .ok (.iaload, 1) := by decide +kernel
theorem dX1_bestFrom_40 : decode cX1_bestFrom 40 = .ok (.if_icmp .ne 6, 3) := by decide +kernel
theorem dX1_bestFrom_43 : decode cX1_bestFrom 43 = .ok (.iload 4, 2) := by decide +kernel
theorem dX1_bestFrom_45 : decode cX1_bestFrom 45 = .ok (.ireturn, 1) := by decide +kernel
theorem dX1_bestFrom_46 : decode cX1_bestFrom 46 = .ok (.iinc 4 1, 3) := by decide +kernel
theorem dX1_bestFrom_49 : decode cX1_bestFrom 49 = .ok (.goto (-46), 3) := by decide +kernel
theorem dX1_bestFrom_52 : decode cX1_bestFrom 52 = .ok (.iconst (-1), 1) := by decide +kernel
theorem dX1_bestFrom_53 : decode cX1_bestFrom 53 = .ok (.ireturn, 1) := by decide +kernel
theorem dX1_mark_0 : decode cX1_mark 0 = .ok (.iconst 0, 1) := by decide +kernel
theorem dX1_mark_1 : decode cX1_mark 1 = .ok (.istore_n 3, 1) := by decide +kernel
theorem dX1_mark_2 : decode cX1_mark 2 = .ok (.iload_n 3, 1) := by decide +kernel
theorem dX1_mark_3 : decode cX1_mark 3 = .ok (.bipush 6, 2) := by decide +kernel
theorem dX1_mark_5 : decode cX1_mark 5 = .ok (.if_icmp .ge 25, 3) := by decide +kernel
theorem dX1_mark_8 : decode cX1_mark 8 = .ok (.iload_n 1, 1) := by decide +kernel
theorem dX1_mark_9 : decode cX1_mark 9 = .ok (.iload_n 3, 1) := by decide +kernel
theorem dX1_mark_10 : decode cX1_mark 10 = .ok (.ishr, 1) := by decide +kernel
theorem dX1_mark_11 : decode cX1_mark 11 = .ok (.iconst 1, 1) := by decide +kernel
theorem dX1_mark_12 : decode cX1_mark 12 = .ok (.iand, 1) := by decide +kernel
theorem dX1_mark_13 : decode cX1_mark 13 = .ok (.iconst 1, 1) := by decide +kernel
theorem dX1_mark_14 : decode cX1_mark 14 = .ok (.if_icmp .ne 10, 3) := by decide +kernel
theorem dX1_mark_17 : decode cX1_mark 17 = .ok (.aload_n 0, 1) := by decide +kernel
theorem dX1_mark_18 : decode cX1_mark 18 = .ok (.getfield 16, 3) := by decide +kernel
theorem dX1_mark_21 : decode cX1_mark 21 = .ok (.iload_n 3, 1) := by decide +kernel
theorem dX1_mark_22 : decode cX1_mark 22 = .ok (.iload_n 2, 1) := by decide +kernel
theorem dX1_mark_23 : decode cX1_mark 23 = .ok (.iastore, 1) := by decide +kernel
theorem dX1_mark_24 : decode cX1_mark 24 = .ok (.iinc 3 1, 3) := by decide +kernel
theorem dX1_mark_27 : decode cX1_mark 27 = .ok (.goto (-25), 3) := by decide +kernel
theorem dX1_mark_30 : decode cX1_mark 30 = .ok (.return_, 1) := by decide +kernel
theorem dX1_pickAt_0 : decode cX1_pickAt 0 = .ok (.iload_n 1, 1) := by decide +kernel
theorem dX1_pickAt_1 : decode cX1_pickAt 1 = .ok (.ifCond .lt 18, 3) := by decide +kernel
theorem dX1_pickAt_4 : decode cX1_pickAt 4 = .ok (.iload_n 1, 1) := by decide +kernel
theorem dX1_pickAt_5 : decode cX1_pickAt 5 = .ok (.bipush 6, 2) := by decide +kernel
theorem dX1_pickAt_7 : decode cX1_pickAt 7 = .ok (.if_icmp .ge 12, 3) := by decide +kernel
theorem dX1_pickAt_10 : decode cX1_pickAt 10 = .ok (.aload_n 0, 1) := by decide +kernel
theorem dX1_pickAt_11 : decode cX1_pickAt 11 = .ok (.getfield 16, 3) := by decide +kernel
theorem dX1_pickAt_14 : decode cX1_pickAt 14 = .ok (.iload_n 1, 1) := by decide +kernel
theorem dX1_pickAt_15 : decode cX1_pickAt 15 = .ok (.iaload, 1) := by decide +kernel
theorem dX1_pickAt_16 : decode cX1_pickAt 16 = .ok (.goto 4, 3) := by decide +kernel
theorem dX1_pickAt_19 : decode cX1_pickAt 19 = .ok (.iconst (-1), 1) := by decide +kernel
theorem dX1_pickAt_20 : decode cX1_pickAt 20 = .ok (.ireturn, 1) := by decide +kernel
theorem dX2_init_0 : decode cX2_init 0 = .ok (.aload_n 0, 1) := by decide +kernel
theorem dX2_init_1 : decode cX2_init 1 = .ok (.invokespecial 1, 3) := by decide +kernel
theorem dX2_init_4 : decode cX2_init 4 = .ok (.aload_n 0, 1) := by decide +kernel
theorem dX2_init_5 : decode cX2_init 5 = .ok (.iload_n 1, 1) := by decide +kernel
theorem dX2_init_6 : decode cX2_init 6 = .ok (.putfield 7, 3) := by decide +kernel
theorem dX2_init_9 : decode cX2_init 9 = .ok (.return_, 1) := by decide +kernel
theorem dX3_init_0 : decode cX3_init 0 = .ok (.aload_n 0, 1) := by decide +kernel
theorem dX3_init_1 : decode cX3_init 1 = .ok (.iload_n 1, 1) := by decide +kernel
theorem dX3_init_2 : decode cX3_init 2 = .ok (.invokespecial 3, 3) := by decide +kernel
theorem dX3_init_5 : decode cX3_init 5 = .ok (.aload_n 0, 1) := by decide +kernel
theorem dX3_init_6 : decode cX3_init 6 = .ok (.aload_n 2, 1) := by decide +kernel
theorem dX3_init_7 : decode cX3_init 7 = .ok (.putfield 9, 3) := by decide +kernel
theorem dX3_init_10 : decode cX3_init 10 = .ok (.return_, 1) := by decide +kernel
theorem dX3_find_0 : decode cX3_find 0 = .ok (.iconst 0, 1) := by decide +kernel
theorem dX3_find_1 : decode cX3_find 1 = .ok (.istore 5, 2) := by decide +kernel
theorem dX3_find_3 : decode cX3_find 3 = .ok (.iload 5, 2) := by decide +kernel
theorem dX3_find_5 : decode cX3_find 5 = .ok (.bipush 6, 2) := by decide +kernel
theorem dX3_find_7 : decode cX3_find 7 = .ok (.if_icmp .ge 36, 3) := by decide +kernel
theorem dX3_find_10 : decode cX3_find 10 = .ok (.aload_n 0, 1) := by decide +kernel
theorem dX3_find_11 : decode cX3_find 11 = .ok (.iload 5, 2) := by decide +kernel
theorem dX3_find_13 : decode cX3_find 13 = .ok (.aload_n 2, 1) := by decide +kernel
theorem dX3_find_14 : decode cX3_find 14 = .ok (.aload_n 3, 1) := by decide +kernel
theorem dX3_find_15 : decode cX3_find 15 = .ok (.invokevirtual 15, 3) := by decide +kernel
theorem dX3_find_18 : decode cX3_find 18 = .ok (.istore 6, 2) := by decide +kernel
theorem dX3_find_20 : decode cX3_find 20 = .ok (.iload 6, 2) := by decide +kernel
theorem dX3_find_22 : decode cX3_find 22 = .ok (.ifCond .eq 15, 3) := by decide +kernel
theorem dX3_find_25 : decode cX3_find 25 = .ok (.aload 4, 2) := by decide +kernel
theorem dX3_find_27 : decode cX3_find 27 = .ok (.iload_n 1, 1) := by decide +kernel
theorem dX3_find_28 : decode cX3_find 28 = .ok (.iload 6, 2) := by decide +kernel
theorem dX3_find_30 : decode cX3_find 30 = .ok (.aload_n 0, 1) := by decide +kernel
theorem dX3_find_31 : decode cX3_find 31 = .ok (.getfield 19, 3) := by decide +kernel
theorem dX3_find_34 : decode cX3_find 34 = .ok (.invokevirtual 23, 3) := by decide +kernel
theorem dX3_find_37 : decode cX3_find 37 = .ok (.iinc 5 1, 3) := by decide +kernel
theorem dX3_find_40 : decode cX3_find 40 = .ok (.goto (-37), 3) := by decide +kernel
theorem dX3_find_43 : decode cX3_find 43 = .ok (.return_, 1) := by decide +kernel
theorem dX3_placesFrom_0 : decode cX3_placesFrom 0 = .ok (.iconst 0, 1) := by decide +kernel
theorem dX3_placesFrom_1 : decode cX3_placesFrom 1 = .ok (.istore 4, 2) := by decide +kernel
theorem dX3_placesFrom_3 : decode cX3_placesFrom 3 = .ok (.iconst 0, 1) := by decide +kernel
theorem dX3_placesFrom_4 : decode cX3_placesFrom 4 = .ok (.istore 5, 2) := by decide +kernel
theorem dX3_placesFrom_6 : decode cX3_placesFrom 6 = .ok (.iload 5, 2) := by decide +kernel
theorem dX3_placesFrom_8 : decode cX3_placesFrom 8 = .ok (.aload_n 0, 1) := by decide +kernel
theorem dX3_placesFrom_9 : decode cX3_placesFrom 9 = .ok (.getfield 9, 3) := by decide +kernel
theorem dX3_placesFrom_12 : decode cX3_placesFrom 12 = .ok (.arraylength, 1) := by decide +kernel
theorem dX3_placesFrom_13 : decode cX3_placesFrom 13 = .ok (.if_icmp .ge 52, 3) := by decide +kernel
theorem dX3_placesFrom_16 : decode cX3_placesFrom 16 = .ok (.aload_n 0, 1) := by decide +kernel
theorem dX3_placesFrom_17 : decode cX3_placesFrom 17 = .ok (.getfield 9, 3) := by decide +kernel
theorem dX3_placesFrom_20 : decode cX3_placesFrom 20 = .ok (.iload 5, 2) := by decide +kernel
theorem dX3_placesFrom_22 : decode cX3_placesFrom 22 = .ok (.iaload, 1) := by decide +kernel
theorem dX3_placesFrom_23 : decode cX3_placesFrom 23 = .ok (.iconst (-1), 1) := by decide +kernel
theorem dX3_placesFrom_24 : decode cX3_placesFrom 24 = .ok (.if_icmp .eq 35, 3) := by decide +kernel
theorem dX3_placesFrom_27 : decode cX3_placesFrom 27 = .ok (.aload_n 3, 1) := by decide +kernel
theorem dX3_placesFrom_28 : decode cX3_placesFrom 28 = .ok (.iload_n 1, 1) := by decide +kernel
theorem dX3_placesFrom_29 : decode cX3_placesFrom 29 = .ok (.iload 5, 2) := by decide +kernel
theorem dX3_placesFrom_31 : decode cX3_placesFrom 31 = .ok (.iadd, 1) := by decide +kernel
theorem dX3_placesFrom_32 : decode cX3_placesFrom 32 = .ok (.aload_n 0, 1) := by decide +kernel
theorem dX3_placesFrom_33 : decode cX3_placesFrom 33 = .ok (.getfield 9, 3) := by decide +kernel
theorem dX3_placesFrom_36 : decode cX3_placesFrom 36 = .ok (.iload 5, 2) := by decide +kernel
theorem dX3_placesFrom_38 : decode cX3_placesFrom 38 = .ok (.iaload, 1) := by decide +kernel
theorem dX3_placesFrom_39 : decode cX3_placesFrom 39 = .ok (.aload_n 2, 1) := by decide +kernel
theorem dX3_placesFrom_40 : decode cX3_placesFrom 40 = .ok (.invokevirtual 29, 3) := by decide +kernel
theorem dX3_placesFrom_43 : decode cX3_placesFrom 43 = .ok (.ifCond .ne 5, 3) := by decide +kernel
theorem dX3_placesFrom_46 : decode cX3_placesFrom 46 = .ok (.iconst 0, 1) := by decide +kernel
theorem dX3_placesFrom_47 : decode cX3_placesFrom 47 = .ok (.ireturn, 1) := by decide +kernel
theorem dX3_placesFrom_48 : decode cX3_placesFrom 48 = .ok (.iload 4, 2) := by decide +kernel
theorem dX3_placesFrom_50 : decode cX3_placesFrom 50 = .ok (.iconst 1, 1) := by decide +kernel
theorem dX3_placesFrom_51 : decode cX3_placesFrom 51 = .ok (.iload_n 1, 1) := by decide +kernel
theorem dX3_placesFrom_52 : decode cX3_placesFrom 52 = .ok (.iload 5, 2) := by decide +kernel
theorem dX3_placesFrom_54 : decode cX3_placesFrom 54 = .ok (.iadd, 1) := by decide +kernel
theorem dX3_placesFrom_55 : decode cX3_placesFrom 55 = .ok (.ishl, 1) := by decide +kernel
theorem dX3_placesFrom_56 : decode cX3_placesFrom 56 = .ok (.ior, 1) := by decide +kernel
theorem dX3_placesFrom_57 : decode cX3_placesFrom 57 = .ok (.istore 4, 2) := by decide +kernel
theorem dX3_placesFrom_59 : decode cX3_placesFrom 59 = .ok (.iinc 5 1, 3) := by decide +kernel
theorem dX3_placesFrom_62 : decode cX3_placesFrom 62 = .ok (.goto (-56), 3) := by decide +kernel
theorem dX3_placesFrom_65 : decode cX3_placesFrom 65 = .ok (.iload 4, 2) := by decide +kernel
theorem dX3_placesFrom_67 : decode cX3_placesFrom 67 = .ok (.ireturn, 1) := by decide +kernel
theorem dX4_init_0 : decode cX4_init 0 = .ok (.aload_n 0, 1) := by decide +kernel
theorem dX4_init_1 : decode cX4_init 1 = .ok (.invokespecial 3, 3) := by decide +kernel
theorem dX4_init_4 : decode cX4_init 4 = .ok (.aload_n 0, 1) := by decide +kernel
theorem dX4_init_5 : decode cX4_init 5 = .ok (.bipush 6, 2) := by decide +kernel
theorem dX4_init_7 : decode cX4_init 7 = .ok (.newarray .int, 2) := by decide +kernel
theorem dX4_init_9 : decode cX4_init 9 = .ok (.putfield 9, 3) := by decide +kernel
theorem dX4_init_12 : decode cX4_init 12 = .ok (.aload_n 0, 1) := by decide +kernel
theorem dX4_init_13 : decode cX4_init 13 = .ok (.bipush 6, 2) := by decide +kernel
theorem dX4_init_15 : decode cX4_init 15 = .ok (.newarray .int, 2) := by decide +kernel
theorem dX4_init_17 : decode cX4_init 17 = .ok (.putfield 15, 3) := by decide +kernel
theorem dX4_init_20 : decode cX4_init 20 = .ok (.return_, 1) := by decide +kernel
theorem dX4_isFull_0 : decode cX4_isFull 0 = .ok (.aload_n 0, 1) := by decide +kernel
theorem dX4_isFull_1 : decode cX4_isFull 1 = .ok (.getfield 18, 3) := by decide +kernel
theorem dX4_isFull_4 : decode cX4_isFull 4 = .ok (.bipush 6, 2) := by decide +kernel
theorem dX4_isFull_6 : decode cX4_isFull 6 = .ok (.if_icmp .lt 7, 3) := by decide +kernel
theorem dX4_isFull_9 : decode cX4_isFull 9 = .ok (.iconst 1, 1) := by decide +kernel
theorem dX4_isFull_10 : decode cX4_isFull 10 = .ok (.goto 4, 3) := by decide +kernel
theorem dX4_isFull_13 : decode cX4_isFull 13 = .ok (.iconst 0, 1) := by decide +kernel
theorem dX4_isFull_14 : decode cX4_isFull 14 = .ok (.ireturn, 1) := by decide +kernel
theorem dX4_put_0 : decode cX4_put 0 = .ok (.aload_n 0, 1) := by decide +kernel
theorem dX4_put_1 : decode cX4_put 1 = .ok (.getfield 18, 3) := by decide +kernel
theorem dX4_put_4 : decode cX4_put 4 = .ok (.istore_n 3, 1) := by decide +kernel
theorem dX4_put_5 : decode cX4_put 5 = .ok (.iload_n 3, 1) := by decide +kernel
theorem dX4_put_6 : decode cX4_put 6 = .ok (.bipush 6, 2) := by decide +kernel
theorem dX4_put_8 : decode cX4_put 8 = .ok (.if_icmp .ge 27, 3) := by decide +kernel
theorem dX4_put_11 : decode cX4_put 11 = .ok (.aload_n 0, 1) := by decide +kernel
theorem dX4_put_12 : decode cX4_put 12 = .ok (.getfield 9, 3) := by decide +kernel
theorem dX4_put_15 : decode cX4_put 15 = .ok (.iload_n 3, 1) := by decide +kernel
theorem dX4_put_16 : decode cX4_put 16 = .ok (.iload_n 1, 1) := by decide +kernel
theorem dX4_put_17 : decode cX4_put 17 = .ok (.iastore, 1) := by decide +kernel
theorem dX4_put_18 : decode cX4_put 18 = .ok (.aload_n 0, 1) := by decide +kernel
theorem dX4_put_19 : decode cX4_put 19 = .ok (.getfield 15, 3) := by decide +kernel
theorem dX4_put_22 : decode cX4_put 22 = .ok (.iload_n 3, 1) := by decide +kernel
theorem dX4_put_23 : decode cX4_put 23 = .ok (.iload_n 2, 1) := by decide +kernel
theorem dX4_put_24 : decode cX4_put 24 = .ok (.iastore, 1) := by decide +kernel
theorem dX4_put_25 : decode cX4_put 25 = .ok (.aload_n 0, 1) := by decide +kernel
theorem dX4_put_26 : decode cX4_put 26 = .ok (.dup, 1) := by decide +kernel
theorem dX4_put_27 : decode cX4_put 27 = .ok (.getfield 18, 3) := by decide +kernel
theorem dX4_put_30 : decode cX4_put 30 = .ok (.iconst 1, 1) := by decide +kernel
theorem dX4_put_31 : decode cX4_put 31 = .ok (.iadd, 1) := by decide +kernel
theorem dX4_put_32 : decode cX4_put 32 = .ok (.putfield 18, 3) := by decide +kernel
theorem dX4_put_35 : decode cX4_put 35 = .ok (.iload_n 3, 1) := by decide +kernel
theorem dX4_put_36 : decode cX4_put 36 = .ok (.ireturn, 1) := by decide +kernel
theorem dX4_leadBack_0 : decode cX4_leadBack 0 = .ok (.iload_n 1, 1) := by decide +kernel
theorem dX4_leadBack_1 : decode cX4_leadBack 1 = .ok (.iload_n 2, 1) := by decide +kernel
theorem dX4_leadBack_2 : decode cX4_leadBack 2 = .ok (.if_icmp .ne 5, 3) := by decide +kernel
theorem dX4_leadBack_5 : decode cX4_leadBack 5 = .ok (.iconst 1, 1) := by decide +kernel
theorem dX4_leadBack_6 : decode cX4_leadBack 6 = .ok (.ireturn, 1) := by decide +kernel
theorem dX4_leadBack_7 : decode cX4_leadBack 7 = .ok (.iconst 0, 1) := by decide +kernel
theorem dX4_leadBack_8 : decode cX4_leadBack 8 = .ok (.istore_n 3, 1) := by decide +kernel
theorem dX4_leadBack_9 : decode cX4_leadBack 9 = .ok (.iload_n 3, 1) := by decide +kernel
theorem dX4_leadBack_10 : decode cX4_leadBack 10 = .ok (.aload_n 0, 1) := by decide +kernel
theorem dX4_leadBack_11 : decode cX4_leadBack 11 = .ok (.getfield 18, 3) := by decide +kernel
theorem dX4_leadBack_14 : decode cX4_leadBack 14 = .ok (.if_icmp .ge 41, 3) := by decide +kernel
theorem dX4_leadBack_17 : decode cX4_leadBack 17 = .ok (.iload_n 3, 1) := by decide +kernel
theorem dX4_leadBack_18 : decode cX4_leadBack 18 = .ok (.bipush 6, 2) := by decide +kernel
theorem dX4_leadBack_20 : decode cX4_leadBack 20 = .ok (.if_icmp .ge 35, 3) := by decide +kernel
theorem dX4_leadBack_23 : decode cX4_leadBack 23 = .ok (.aload_n 0, 1) := by decide +kernel
theorem dX4_leadBack_24 : decode cX4_leadBack 24 = .ok (.getfield 9, 3) := by decide +kernel
theorem dX4_leadBack_27 : decode cX4_leadBack 27 = .ok (.iload_n 3, 1) := by decide +kernel
theorem dX4_leadBack_28 : decode cX4_leadBack 28 = .ok (.iaload, 1) := by decide +kernel
theorem dX4_leadBack_29 : decode cX4_leadBack 29 = .ok (.iload_n 2, 1) := by decide +kernel
theorem dX4_leadBack_30 : decode cX4_leadBack 30 = .ok (.iconst 3, 1) := by decide +kernel
theorem dX4_leadBack_31 : decode cX4_leadBack 31 = .ok (.irem, 1) := by decide +kernel
theorem dX4_leadBack_32 : decode cX4_leadBack 32 = .ok (.if_icmp .ne 17, 3) := by decide +kernel
theorem dX4_leadBack_35 : decode cX4_leadBack 35 = .ok (.iload_n 1, 1) := by decide +kernel
theorem dX4_leadBack_36 : decode cX4_leadBack 36 = .ok (.iload_n 2, 1) := by decide +kernel
theorem dX4_leadBack_37 : decode cX4_leadBack 37 = .ok (.aload_n 0, 1) := by decide +kernel
theorem dX4_leadBack_38 : decode cX4_leadBack 38 = .ok (.getfield 15, 3) := by decide +kernel
theorem dX4_leadBack_41 : decode cX4_leadBack 41 = .ok (.iload_n 3, 1) := by decide +kernel
theorem dX4_leadBack_42 : decode cX4_leadBack 42 = .ok (.iaload, 1) := by decide +kernel
theorem dX4_leadBack_43 : decode cX4_leadBack 43 = .ok (.iadd, 1) := by decide +kernel
theorem dX4_leadBack_44 : decode cX4_leadBack 44 = .ok (.if_icmp .ne 5, 3) := by decide +kernel
theorem dX4_leadBack_47 : decode cX4_leadBack 47 = .ok (.iconst 1, 1) := by decide +kernel
theorem dX4_leadBack_48 : decode cX4_leadBack 48 = .ok (.ireturn, 1) := by decide +kernel
theorem dX4_leadBack_49 : decode cX4_leadBack 49 = .ok (.iinc 3 1, 3) := by decide +kernel
theorem dX4_leadBack_52 : decode cX4_leadBack 52 = .ok (.goto (-43), 3) := by decide +kernel
theorem dX4_leadBack_55 : decode cX4_leadBack 55 = .ok (.iconst 0, 1) := by decide +kernel
theorem dX4_leadBack_56 : decode cX4_leadBack 56 = .ok (.ireturn, 1) := by decide +kernel
theorem dX5_init_0 : decode cX5_init 0 = .ok (.aload_n 0, 1) := by decide +kernel
theorem dX5_init_1 : decode cX5_init 1 = .ok (.invokespecial 3, 3) := by decide +kernel
theorem dX5_init_4 : decode cX5_init 4 = .ok (.aload_n 0, 1) := by decide +kernel
theorem dX5_init_5 : decode cX5_init 5 = .ok (.bipush 6, 2) := by decide +kernel
theorem dX5_init_7 : decode cX5_init 7 = .ok (.newarray .int, 2) := by decide +kernel
theorem dX5_init_9 : decode cX5_init 9 = .ok (.putfield 9, 3) := by decide +kernel
theorem dX5_init_12 : decode cX5_init 12 = .ok (.return_, 1) := by decide +kernel
theorem dX5_isFull_0 : decode cX5_isFull 0 = .ok (.aload_n 0, 1) := by decide +kernel
theorem dX5_isFull_1 : decode cX5_isFull 1 = .ok (.getfield 15, 3) := by decide +kernel
theorem dX5_isFull_4 : decode cX5_isFull 4 = .ok (.bipush 6, 2) := by decide +kernel
theorem dX5_isFull_6 : decode cX5_isFull 6 = .ok (.if_icmp .lt 7, 3) := by decide +kernel
theorem dX5_isFull_9 : decode cX5_isFull 9 = .ok (.iconst 1, 1) := by decide +kernel
theorem dX5_isFull_10 : decode cX5_isFull 10 = .ok (.goto 4, 3) := by decide +kernel
theorem dX5_isFull_13 : decode cX5_isFull 13 = .ok (.iconst 0, 1) := by decide +kernel
theorem dX5_isFull_14 : decode cX5_isFull 14 = .ok (.ireturn, 1) := by decide +kernel
theorem dX5_hasPlace_0 : decode cX5_hasPlace 0 = .ok (.iload_n 1, 1) := by decide +kernel
theorem dX5_hasPlace_1 : decode cX5_hasPlace 1 = .ok (.ifCond .lt 21, 3) := by decide +kernel
theorem dX5_hasPlace_4 : decode cX5_hasPlace 4 = .ok (.iload_n 1, 1) := by decide +kernel
theorem dX5_hasPlace_5 : decode cX5_hasPlace 5 = .ok (.aload_n 0, 1) := by decide +kernel
theorem dX5_hasPlace_6 : decode cX5_hasPlace 6 = .ok (.getfield 15, 3) := by decide +kernel
theorem dX5_hasPlace_9 : decode cX5_hasPlace 9 = .ok (.if_icmp .ge 13, 3) := by decide +kernel
theorem dX5_hasPlace_12 : decode cX5_hasPlace 12 = .ok (.iload_n 1, 1) := by decide +kernel
theorem dX5_hasPlace_13 : decode cX5_hasPlace 13 = .ok (.bipush 6, 2) := by decide +kernel
theorem dX5_hasPlace_15 : decode cX5_hasPlace 15 = .ok (.if_icmp .ge 7, 3) := by decide +kernel
theorem dX5_hasPlace_18 : decode cX5_hasPlace 18 = .ok (.iconst 1, 1) := by decide +kernel
theorem dX5_hasPlace_19 : decode cX5_hasPlace 19 = .ok (.goto 4, 3) := by decide +kernel
theorem dX5_hasPlace_22 : decode cX5_hasPlace 22 = .ok (.iconst 0, 1) := by decide +kernel
theorem dX5_hasPlace_23 : decode cX5_hasPlace 23 = .ok (.ireturn, 1) := by decide +kernel
theorem dX5_put_0 : decode cX5_put 0 = .ok (.aload_n 0, 1) := by decide +kernel
theorem dX5_put_1 : decode cX5_put 1 = .ok (.getfield 15, 3) := by decide +kernel
theorem dX5_put_4 : decode cX5_put 4 = .ok (.bipush 6, 2) := by decide +kernel
theorem dX5_put_6 : decode cX5_put 6 = .ok (.if_icmp .ge 23, 3) := by decide +kernel
theorem dX5_put_9 : decode cX5_put 9 = .ok (.aload_n 0, 1) := by decide +kernel
theorem dX5_put_10 : decode cX5_put 10 = .ok (.getfield 9, 3) := by decide +kernel
theorem dX5_put_13 : decode cX5_put 13 = .ok (.aload_n 0, 1) := by decide +kernel
theorem dX5_put_14 : decode cX5_put 14 = .ok (.getfield 15, 3) := by decide +kernel
theorem dX5_put_17 : decode cX5_put 17 = .ok (.iload_n 1, 1) := by decide +kernel
theorem dX5_put_18 : decode cX5_put 18 = .ok (.iastore, 1) := by decide +kernel
theorem dX5_put_19 : decode cX5_put 19 = .ok (.aload_n 0, 1) := by decide +kernel
theorem dX5_put_20 : decode cX5_put 20 = .ok (.dup, 1) := by decide +kernel
theorem dX5_put_21 : decode cX5_put 21 = .ok (.getfield 15, 3) := by decide +kernel
theorem dX5_put_24 : decode cX5_put 24 = .ok (.iconst 1, 1) := by decide +kernel
theorem dX5_put_25 : decode cX5_put 25 = .ok (.iadd, 1) := by decide +kernel
theorem dX5_put_26 : decode cX5_put 26 = .ok (.putfield 15, 3) := by decide +kernel
theorem dX5_put_29 : decode cX5_put 29 = .ok (.aload_n 0, 1) := by decide +kernel
theorem dX5_put_30 : decode cX5_put 30 = .ok (.getfield 15, 3) := by decide +kernel
theorem dX5_put_33 : decode cX5_put 33 = .ok (.ireturn, 1) := by decide +kernel
theorem dX5_empty_0 : decode cX5_empty 0 = .ok (.aload_n 0, 1) := by decide +kernel
theorem dX5_empty_1 : decode cX5_empty 1 = .ok (.getfield 15, 3) := by decide +kernel
theorem dX5_empty_4 : decode cX5_empty 4 = .ok (.istore_n 1, 1) := by decide +kernel
theorem dX5_empty_5 : decode cX5_empty 5 = .ok (.aload_n 0, 1) := by decide +kernel
theorem dX5_empty_6 : decode cX5_empty 6 = .ok (.iconst 0, 1) := by decide +kernel
theorem dX5_empty_7 : decode cX5_empty 7 = .ok (.putfield 15, 3) := by decide +kernel
theorem dX5_empty_10 : decode cX5_empty 10 = .ok (.iload_n 1, 1) := by decide +kernel
theorem dX5_empty_11 : decode cX5_empty 11 = .ok (.ireturn, 1) := by decide +kernel
theorem dX5_hasFormAt_0 : decode cX5_hasFormAt 0 = .ok (.aload_n 0, 1) := by decide +kernel
theorem dX5_hasFormAt_1 : decode cX5_hasFormAt 1 = .ok (.iload_n 1, 1) := by decide +kernel
theorem dX5_hasFormAt_2 : decode cX5_hasFormAt 2 = .ok (.invokevirtual 19, 3) := by decide +kernel
theorem dX5_hasFormAt_5 : decode cX5_hasFormAt 5 = .ok (.ifCond .eq 21, 3) := by decide +kernel
theorem dX5_hasFormAt_8 : decode cX5_hasFormAt 8 = .ok (.aload_n 3, 1) := by decide +kernel
theorem dX5_hasFormAt_9 : decode cX5_hasFormAt 9 = .ok (.aload_n 0, 1) := by decide +kernel
theorem dX5_hasFormAt_10 : decode cX5_hasFormAt 10 = .ok (.getfield 9, 3) := by decide +kernel
theorem dX5_hasFormAt_13 : decode cX5_hasFormAt 13 = .ok (.iload_n 1, 1) := by decide +kernel
theorem dX5_hasFormAt_14 : decode cX5_hasFormAt 14 = .ok (.iaload, 1) := by decide +kernel
theorem dX5_hasFormAt_15 : decode cX5_hasFormAt 15 = .ok (.iload_n 2, 1) := by decide +kernel
theorem dX5_hasFormAt_16 : decode cX5_hasFormAt 16 = .ok (.invokevirtual 23, 3) := by decide +kernel
theorem dX5_hasFormAt_19 : decode cX5_hasFormAt 19 = .ok (.ifCond .eq 7, 3) := by decide +kernel
theorem dX5_hasFormAt_22 : decode cX5_hasFormAt 22 = .ok (.iconst 1, 1) := by decide +kernel
theorem dX5_hasFormAt_23 : decode cX5_hasFormAt 23 = .ok (.goto 4, 3) := by decide +kernel
theorem dX5_hasFormAt_26 : decode cX5_hasFormAt 26 = .ok (.iconst 0, 1) := by decide +kernel
theorem dX5_hasFormAt_27 : decode cX5_hasFormAt 27 = .ok (.ireturn, 1) := by decide +kernel
theorem dX6_init_0 : decode cX6_init 0 = .ok (.aload_n 0, 1) := by decide +kernel
theorem dX6_init_1 : decode cX6_init 1 = .ok (.iload_n 1, 1) := by decide +kernel
theorem dX6_init_2 : decode cX6_init 2 = .ok (.invokespecial 3, 3) := by decide +kernel
theorem dX6_init_5 : decode cX6_init 5 = .ok (.aload_n 0, 1) := by decide +kernel
theorem dX6_init_6 : decode cX6_init 6 = .ok (.iload_n 2, 1) := by decide +kernel
theorem dX6_init_7 : decode cX6_init 7 = .ok (.putfield 9, 3) := by decide +kernel
theorem dX6_init_10 : decode cX6_init 10 = .ok (.aload_n 0, 1) := by decide +kernel
theorem dX6_init_11 : decode cX6_init 11 = .ok (.iload_n 3, 1) := by decide +kernel
theorem dX6_init_12 : decode cX6_init 12 = .ok (.putfield 15, 3) := by decide +kernel
theorem dX6_init_15 : decode cX6_init 15 = .ok (.aload_n 0, 1) := by decide +kernel
theorem dX6_init_16 : decode cX6_init 16 = .ok (.iload 4, 2) := by decide +kernel
theorem dX6_init_18 : decode cX6_init 18 = .ok (.putfield 18, 3) := by decide +kernel
theorem dX6_init_21 : decode cX6_init 21 = .ok (.return_, 1) := by decide +kernel
theorem dX6_find_0 : decode cX6_find 0 = .ok (.iconst 0, 1) := by decide +kernel
theorem dX6_find_1 : decode cX6_find 1 = .ok (.istore 5, 2) := by decide +kernel
theorem dX6_find_3 : decode cX6_find 3 = .ok (.iload 5, 2) := by decide +kernel
theorem dX6_find_5 : decode cX6_find 5 = .ok (.bipush 6, 2) := by decide +kernel
theorem dX6_find_7 : decode cX6_find 7 = .ok (.if_icmp .ge 34, 3) := by decide +kernel
theorem dX6_find_10 : decode cX6_find 10 = .ok (.aload_n 3, 1) := by decide +kernel
theorem dX6_find_11 : decode cX6_find 11 = .ok (.iload 5, 2) := by decide +kernel
theorem dX6_find_13 : decode cX6_find 13 = .ok (.aload_n 0, 1) := by decide +kernel
theorem dX6_find_14 : decode cX6_find 14 = .ok (.getfield 9, 3) := by decide +kernel
theorem dX6_find_17 : decode cX6_find 17 = .ok (.aload_n 2, 1) := by decide +kernel
theorem dX6_find_18 : decode cX6_find 18 = .ok (.invokevirtual 21, 3) := by decide +kernel
theorem dX6_find_21 : decode cX6_find 21 = .ok (.ifCond .eq 14, 3) := by decide +kernel
theorem dX6_find_24 : decode cX6_find 24 = .ok (.aload_n 0, 1) := by decide +kernel
theorem dX6_find_25 : decode cX6_find 25 = .ok (.iload 5, 2) := by decide +kernel
theorem dX6_find_27 : decode cX6_find 27 = .ok (.iload_n 1, 1) := by decide +kernel
theorem dX6_find_28 : decode cX6_find 28 = .ok (.aload_n 2, 1) := by decide +kernel
theorem dX6_find_29 : decode cX6_find 29 = .ok (.aload_n 3, 1) := by decide +kernel
theorem dX6_find_30 : decode cX6_find 30 = .ok (.aload 4, 2) := by decide +kernel
theorem dX6_find_32 : decode cX6_find 32 = .ok (.invokevirtual 27, 3) := by decide +kernel
theorem dX6_find_35 : decode cX6_find 35 = .ok (.iinc 5 1, 3) := by decide +kernel
theorem dX6_find_38 : decode cX6_find 38 = .ok (.goto (-35), 3) := by decide +kernel
theorem dX6_find_41 : decode cX6_find 41 = .ok (.return_, 1) := by decide +kernel
theorem dX6_findFrom_0 : decode cX6_findFrom 0 = .ok (.iconst 0, 1) := by decide +kernel
theorem dX6_findFrom_1 : decode cX6_findFrom 1 = .ok (.istore 6, 2) := by decide +kernel
theorem dX6_findFrom_3 : decode cX6_findFrom 3 = .ok (.iload 6, 2) := by decide +kernel
theorem dX6_findFrom_5 : decode cX6_findFrom 5 = .ok (.aload_n 0, 1) := by decide +kernel
theorem dX6_findFrom_6 : decode cX6_findFrom 6 = .ok (.getfield 18, 3) := by decide +kernel
theorem dX6_findFrom_9 : decode cX6_findFrom 9 = .ok (.if_icmp .gt 50, 3) := by decide +kernel
theorem dX6_findFrom_12 : decode cX6_findFrom 12 = .ok (.iload_n 1, 1) := by decide +kernel
theorem dX6_findFrom_13 : decode cX6_findFrom 13 = .ok (.iconst 1, 1) := by decide +kernel
theorem dX6_findFrom_14 : decode cX6_findFrom 14 = .ok (.iadd, 1) := by decide +kernel
theorem dX6_findFrom_15 : decode cX6_findFrom 15 = .ok (.iload 6, 2) := by decide +kernel
theorem dX6_findFrom_17 : decode cX6_findFrom 17 = .ok (.iadd, 1) := by decide +kernel
theorem dX6_findFrom_18 : decode cX6_findFrom 18 = .ok (.istore 7, 2) := by decide +kernel
theorem dX6_findFrom_20 : decode cX6_findFrom 20 = .ok (.aload 4, 2) := by decide +kernel
theorem dX6_findFrom_22 : decode cX6_findFrom 22 = .ok (.iload 7, 2) := by decide +kernel
theorem dX6_findFrom_24 : decode cX6_findFrom 24 = .ok (.aload_n 0, 1) := by decide +kernel
theorem dX6_findFrom_25 : decode cX6_findFrom 25 = .ok (.getfield 15, 3) := by decide +kernel
theorem dX6_findFrom_28 : decode cX6_findFrom 28 = .ok (.aload_n 3, 1) := by decide +kernel
theorem dX6_findFrom_29 : decode cX6_findFrom 29 = .ok (.invokevirtual 21, 3) := by decide +kernel
theorem dX6_findFrom_32 : decode cX6_findFrom 32 = .ok (.ifCond .eq 21, 3) := by decide +kernel
theorem dX6_findFrom_35 : decode cX6_findFrom 35 = .ok (.aload 5, 2) := by decide +kernel
theorem dX6_findFrom_37 : decode cX6_findFrom 37 = .ok (.iload_n 2, 1) := by decide +kernel
theorem dX6_findFrom_38 : decode cX6_findFrom 38 = .ok (.iconst 1, 1) := by decide +kernel
theorem dX6_findFrom_39 : decode cX6_findFrom 39 = .ok (.iload_n 1, 1) := by decide +kernel
theorem dX6_findFrom_40 : decode cX6_findFrom 40 = .ok (.ishl, 1) := by decide +kernel
theorem dX6_findFrom_41 : decode cX6_findFrom 41 = .ok (.iconst 1, 1) := by decide +kernel
theorem dX6_findFrom_42 : decode cX6_findFrom 42 = .ok (.iload 7, 2) := by decide +kernel
theorem dX6_findFrom_44 : decode cX6_findFrom 44 = .ok (.ishl, 1) := by decide +kernel
theorem dX6_findFrom_45 : decode cX6_findFrom 45 = .ok (.ior, 1) := by decide +kernel
theorem dX6_findFrom_46 : decode cX6_findFrom 46 = .ok (.aload_n 0, 1) := by decide +kernel
theorem dX6_findFrom_47 : decode cX6_findFrom 47 = .ok (.getfield 31, 3) := by decide +kernel
theorem dX6_findFrom_50 : decode cX6_findFrom 50 = .ok (.invokevirtual 34, 3) := by decide +kernel
theorem dX6_findFrom_53 : decode cX6_findFrom 53 = .ok (.iinc 6 1, 3) := by decide +kernel
theorem dX6_findFrom_56 : decode cX6_findFrom 56 = .ok (.goto (-53), 3) := by decide +kernel
theorem dX6_findFrom_59 : decode cX6_findFrom 59 = .ok (.return_, 1) := by decide +kernel
theorem dX7_init_0 : decode cX7_init 0 = .ok (.aload_n 0, 1) := by decide +kernel
theorem dX7_init_1 : decode cX7_init 1 = .ok (.invokespecial 3, 3) := by decide +kernel
theorem dX7_init_4 : decode cX7_init 4 = .ok (.aload_n 0, 1) := by decide +kernel
theorem dX7_init_5 : decode cX7_init 5 = .ok (.bipush 120, 2) := by decide +kernel
theorem dX7_init_7 : decode cX7_init 7 = .ok (.newarray .int, 2) := by decide +kernel
theorem dX7_init_9 : decode cX7_init 9 = .ok (.putfield 9, 3) := by decide +kernel
theorem dX7_init_12 : decode cX7_init 12 = .ok (.aload_n 0, 1) := by decide +kernel
theorem dX7_init_13 : decode cX7_init 13 = .ok (.bipush 120, 2) := by decide +kernel
theorem dX7_init_15 : decode cX7_init 15 = .ok (.newarray .int, 2) := by decide +kernel
theorem dX7_init_17 : decode cX7_init 17 = .ok (.putfield 15, 3) := by decide +kernel
theorem dX7_init_20 : decode cX7_init 20 = .ok (.aload_n 0, 1) := by decide +kernel
theorem dX7_init_21 : decode cX7_init 21 = .ok (.bipush 120, 2) := by decide +kernel
theorem dX7_init_23 : decode cX7_init 23 = .ok (.newarray .int, 2) := by decide +kernel
theorem dX7_init_25 : decode cX7_init 25 = .ok (.putfield 18, 3) := by decide +kernel
theorem dX7_init_28 : decode cX7_init 28 = .ok (.return_, 1) := by decide +kernel
theorem dX7_empty_0 : decode cX7_empty 0 = .ok (.aload_n 0, 1) := by decide +kernel
theorem dX7_empty_1 : decode cX7_empty 1 = .ok (.iconst 0, 1) := by decide +kernel
theorem dX7_empty_2 : decode cX7_empty 2 = .ok (.putfield 21, 3) := by decide +kernel
theorem dX7_empty_5 : decode cX7_empty 5 = .ok (.return_, 1) := by decide +kernel
theorem dX7_put_0 : decode cX7_put 0 = .ok (.aload_n 0, 1) := by decide +kernel
theorem dX7_put_1 : decode cX7_put 1 = .ok (.getfield 21, 3) := by decide +kernel
theorem dX7_put_4 : decode cX7_put 4 = .ok (.bipush 120, 2) := by decide +kernel
theorem dX7_put_6 : decode cX7_put 6 = .ok (.if_icmp .ge 43, 3) := by decide +kernel
theorem dX7_put_9 : decode cX7_put 9 = .ok (.aload_n 0, 1) := by decide +kernel
theorem dX7_put_10 : decode cX7_put 10 = .ok (.getfield 9, 3) := by decide +kernel
theorem dX7_put_13 : decode cX7_put 13 = .ok (.aload_n 0, 1) := by decide +kernel
theorem dX7_put_14 : decode cX7_put 14 = .ok (.getfield 21, 3) := by decide +kernel
theorem dX7_put_17 : decode cX7_put 17 = .ok (.iload_n 1, 1) := by decide +kernel
theorem dX7_put_18 : decode cX7_put 18 = .ok (.iastore, 1) := by decide +kernel
theorem dX7_put_19 : decode cX7_put 19 = .ok (.aload_n 0, 1) := by decide +kernel
theorem dX7_put_20 : decode cX7_put 20 = .ok (.getfield 15, 3) := by decide +kernel
theorem dX7_put_23 : decode cX7_put 23 = .ok (.aload_n 0, 1) := by decide +kernel
theorem dX7_put_24 : decode cX7_put 24 = .ok (.getfield 21, 3) := by decide +kernel
theorem dX7_put_27 : decode cX7_put 27 = .ok (.iload_n 2, 1) := by decide +kernel
theorem dX7_put_28 : decode cX7_put 28 = .ok (.iastore, 1) := by decide +kernel
theorem dX7_put_29 : decode cX7_put 29 = .ok (.aload_n 0, 1) := by decide +kernel
theorem dX7_put_30 : decode cX7_put 30 = .ok (.getfield 18, 3) := by decide +kernel
theorem dX7_put_33 : decode cX7_put 33 = .ok (.aload_n 0, 1) := by decide +kernel
theorem dX7_put_34 : decode cX7_put 34 = .ok (.getfield 21, 3) := by decide +kernel
theorem dX7_put_37 : decode cX7_put 37 = .ok (.iload_n 3, 1) := by decide +kernel
theorem dX7_put_38 : decode cX7_put 38 = .ok (.iastore, 1) := by decide +kernel
theorem dX7_put_39 : decode cX7_put 39 = .ok (.aload_n 0, 1) := by decide +kernel
theorem dX7_put_40 : decode cX7_put 40 = .ok (.dup, 1) := by decide +kernel
theorem dX7_put_41 : decode cX7_put 41 = .ok (.getfield 21, 3) := by decide +kernel
theorem dX7_put_44 : decode cX7_put 44 = .ok (.iconst 1, 1) := by decide +kernel
theorem dX7_put_45 : decode cX7_put 45 = .ok (.iadd, 1) := by decide +kernel
theorem dX7_put_46 : decode cX7_put 46 = .ok (.putfield 21, 3) := by decide +kernel
theorem dX7_put_49 : decode cX7_put 49 = .ok (.return_, 1) := by decide +kernel
theorem dX7_has_0 : decode cX7_has 0 = .ok (.iload_n 1, 1) := by decide +kernel
theorem dX7_has_1 : decode cX7_has 1 = .ok (.ifCond .lt 21, 3) := by decide +kernel
theorem dX7_has_4 : decode cX7_has 4 = .ok (.iload_n 1, 1) := by decide +kernel
theorem dX7_has_5 : decode cX7_has 5 = .ok (.aload_n 0, 1) := by decide +kernel
theorem dX7_has_6 : decode cX7_has 6 = .ok (.getfield 21, 3) := by decide +kernel
theorem dX7_has_9 : decode cX7_has 9 = .ok (.if_icmp .ge 13, 3) := by decide +kernel
theorem dX7_has_12 : decode cX7_has 12 = .ok (.iload_n 1, 1) := by decide +kernel
theorem dX7_has_13 : decode cX7_has 13 = .ok (.bipush 120, 2) := by decide +kernel
theorem dX7_has_15 : decode cX7_has 15 = .ok (.if_icmp .ge 7, 3) := by decide +kernel
theorem dX7_has_18 : decode cX7_has 18 = .ok (.iconst 1, 1) := by decide +kernel
theorem dX7_has_19 : decode cX7_has 19 = .ok (.goto 4, 3) := by decide +kernel
theorem dX7_has_22 : decode cX7_has 22 = .ok (.iconst 0, 1) := by decide +kernel
theorem dX7_has_23 : decode cX7_has 23 = .ok (.ireturn, 1) := by decide +kernel
theorem dX7_entryOf_0 : decode cX7_entryOf 0 = .ok (.aload_n 0, 1) := by decide +kernel
theorem dX7_entryOf_1 : decode cX7_entryOf 1 = .ok (.iload_n 1, 1) := by decide +kernel
theorem dX7_entryOf_2 : decode cX7_entryOf 2 = .ok (.invokevirtual 25, 3) := by decide +kernel
theorem dX7_entryOf_5 : decode cX7_entryOf 5 = .ok (.ifCond .eq 12, 3) := by decide +kernel
theorem dX7_entryOf_8 : decode cX7_entryOf 8 = .ok (.aload_n 0, 1) := by decide +kernel
theorem dX7_entryOf_9 : decode cX7_entryOf 9 = .ok (.getfield 9, 3) := by decide +kernel
theorem dX7_entryOf_12 : decode cX7_entryOf 12 = .ok (.iload_n 1, 1) := by decide +kernel
theorem dX7_entryOf_13 : decode cX7_entryOf 13 = .ok (.iaload, 1) := by decide +kernel
theorem dX7_entryOf_14 : decode cX7_entryOf 14 = .ok (.goto 4, 3) := by decide +kernel
theorem dX7_entryOf_17 : decode cX7_entryOf 17 = .ok (.iconst (-1), 1) := by decide +kernel
theorem dX7_entryOf_18 : decode cX7_entryOf 18 = .ok (.ireturn, 1) := by decide +kernel
theorem dX7_placesOf_0 : decode cX7_placesOf 0 = .ok (.aload_n 0, 1) := by decide +kernel
theorem dX7_placesOf_1 : decode cX7_placesOf 1 = .ok (.iload_n 1, 1) := by decide +kernel
theorem dX7_placesOf_2 : decode cX7_placesOf 2 = .ok (.invokevirtual 25, 3) := by decide +kernel
theorem dX7_placesOf_5 : decode cX7_placesOf 5 = .ok (.ifCond .eq 12, 3) := by decide +kernel
theorem dX7_placesOf_8 : decode cX7_placesOf 8 = .ok (.aload_n 0, 1) := by decide +kernel
theorem dX7_placesOf_9 : decode cX7_placesOf 9 = .ok (.getfield 15, 3) := by decide +kernel
theorem dX7_placesOf_12 : decode cX7_placesOf 12 = .ok (.iload_n 1, 1) := by decide +kernel
theorem dX7_placesOf_13 : decode cX7_placesOf 13 = .ok (.iaload, 1) := by decide +kernel
theorem dX7_placesOf_14 : decode cX7_placesOf 14 = .ok (.goto 4, 3) := by decide +kernel
theorem dX7_placesOf_17 : decode cX7_placesOf 17 = .ok (.iconst 0, 1) := by decide +kernel
theorem dX7_placesOf_18 : decode cX7_placesOf 18 = .ok (.ireturn, 1) := by decide +kernel
theorem dX7_priceOf_0 : decode cX7_priceOf 0 = .ok (.aload_n 0, 1) := by decide +kernel
theorem dX7_priceOf_1 : decode cX7_priceOf 1 = .ok (.iload_n 1, 1) := by decide +kernel
theorem dX7_priceOf_2 : decode cX7_priceOf 2 = .ok (.invokevirtual 25, 3) := by decide +kernel
theorem dX7_priceOf_5 : decode cX7_priceOf 5 = .ok (.ifCond .eq 12, 3) := by decide +kernel
theorem dX7_priceOf_8 : decode cX7_priceOf 8 = .ok (.aload_n 0, 1) := by decide +kernel
theorem dX7_priceOf_9 : decode cX7_priceOf 9 = .ok (.getfield 18, 3) := by decide +kernel
theorem dX7_priceOf_12 : decode cX7_priceOf 12 = .ok (.iload_n 1, 1) := by decide +kernel
theorem dX7_priceOf_13 : decode cX7_priceOf 13 = .ok (.iaload, 1) := by decide +kernel
theorem dX7_priceOf_14 : decode cX7_priceOf 14 = .ok (.goto 4, 3) := by decide +kernel
theorem dX7_priceOf_17 : decode cX7_priceOf 17 = .ok (.iconst 0, 1) := by decide +kernel
theorem dX7_priceOf_18 : decode cX7_priceOf 18 = .ok (.ireturn, 1) := by decide +kernel
theorem dX7_fitsFrom_0 : decode cX7_fitsFrom 0 = .ok (.aload_n 0, 1) := by decide +kernel
theorem dX7_fitsFrom_1 : decode cX7_fitsFrom 1 = .ok (.iload_n 1, 1) := by decide +kernel
theorem dX7_fitsFrom_2 : decode cX7_fitsFrom 2 = .ok (.invokevirtual 29, 3) := by decide +kernel
theorem dX7_fitsFrom_5 : decode cX7_fitsFrom 5 = .ok (.istore 4, 2) := by decide +kernel
theorem dX7_fitsFrom_7 : decode cX7_fitsFrom 7 = .ok (.iload 4, 2) := by decide +kernel
theorem dX7_fitsFrom_9 : decode cX7_fitsFrom 9 = .ok (.invokestatic 33, 3) := by decide +kernel
theorem dX7_fitsFrom_12 : decode cX7_fitsFrom 12 = .ok (.iload_n 2, 1) := by decide +kernel
theorem dX7_fitsFrom_13 : decode cX7_fitsFrom 13 = .ok (.if_icmp .ne 14, 3) := by decide +kernel
theorem dX7_fitsFrom_16 : decode cX7_fitsFrom 16 = .ok (.iload 4, 2) := by decide +kernel
theorem dX7_fitsFrom_18 : decode cX7_fitsFrom 18 = .ok (.iload_n 3, 1) := by decide +kernel
theorem dX7_fitsFrom_19 : decode cX7_fitsFrom 19 = .ok (.iand, 1) := by decide +kernel
theorem dX7_fitsFrom_20 : decode cX7_fitsFrom 20 = .ok (.ifCond .ne 7, 3) := by decide +kernel
theorem dX7_fitsFrom_23 : decode cX7_fitsFrom 23 = .ok (.iconst 1, 1) := by decide +kernel
theorem dX7_fitsFrom_24 : decode cX7_fitsFrom 24 = .ok (.goto 4, 3) := by decide +kernel
theorem dX7_fitsFrom_27 : decode cX7_fitsFrom 27 = .ok (.iconst 0, 1) := by decide +kernel
theorem dX7_fitsFrom_28 : decode cX7_fitsFrom 28 = .ok (.ireturn, 1) := by decide +kernel
theorem dX7_leastOfAll_0 : decode cX7_leastOfAll 0 = .ok (.iload_n 3, 1) := by decide +kernel
theorem dX7_leastOfAll_1 : decode cX7_leastOfAll 1 = .ok (.istore 6, 2) := by decide +kernel
theorem dX7_leastOfAll_3 : decode cX7_leastOfAll 3 = .ok (.iload 5, 2) := by decide +kernel
theorem dX7_leastOfAll_5 : decode cX7_leastOfAll 5 = .ok (.bipush 6, 2) := by decide +kernel
theorem dX7_leastOfAll_7 : decode cX7_leastOfAll 7 = .ok (.if_icmp .lt 6, 3) := by decide +kernel
theorem dX7_leastOfAll_10 : decode cX7_leastOfAll 10 = .ok (.iload 6, 2) := by decide +kernel
theorem dX7_leastOfAll_12 : decode cX7_leastOfAll 12 = .ok (.ireturn, 1) := by decide +kernel
theorem dX7_leastOfAll_13 : decode cX7_leastOfAll 13 = .ok (.iload_n 1, 1) := by decide +kernel
theorem dX7_leastOfAll_14 : decode cX7_leastOfAll 14 = .ok (.istore 7, 2) := by decide +kernel
theorem dX7_leastOfAll_16 : decode cX7_leastOfAll 16 = .ok (.iload 7, 2) := by decide +kernel
theorem dX7_leastOfAll_18 : decode cX7_leastOfAll 18 = .ok (.aload_n 0, 1) := by decide +kernel
theorem dX7_leastOfAll_19 : decode cX7_leastOfAll 19 = .ok (.getfield 21, 3) := by decide +kernel
theorem dX7_leastOfAll_22 : decode cX7_leastOfAll 22 = .ok (.if_icmp .ge 74, 3) := by decide +kernel
theorem dX7_leastOfAll_25 : decode cX7_leastOfAll 25 = .ok (.aload_n 0, 1) := by decide +kernel
theorem dX7_leastOfAll_26 : decode cX7_leastOfAll 26 = .ok (.iload 7, 2) := by decide +kernel
theorem dX7_leastOfAll_28 : decode cX7_leastOfAll 28 = .ok (.invokevirtual 29, 3) := by decide +kernel
theorem dX7_leastOfAll_31 : decode cX7_leastOfAll 31 = .ok (.istore 8, 2) := by decide +kernel
theorem dX7_leastOfAll_33 : decode cX7_leastOfAll 33 = .ok (.iload 8, 2) := by decide +kernel
theorem dX7_leastOfAll_35 : decode cX7_leastOfAll 35 = .ok (.iload_n 2, 1) := by decide +kernel
theorem dX7_leastOfAll_36 : decode cX7_leastOfAll 36 = .ok (.iand, 1) := by decide +kernel
theorem dX7_leastOfAll_37 : decode cX7_leastOfAll 37 = .ok (.ifCond .ne 53, 3) := by decide +kernel
theorem dX7_leastOfAll_40 : decode cX7_leastOfAll 40 = .ok (.aload_n 0, 1) := by decide +kernel
theorem dX7_leastOfAll_41 : decode cX7_leastOfAll 41 = .ok (.iload 7, 2) := by decide +kernel
theorem dX7_leastOfAll_43 : decode cX7_leastOfAll 43 = .ok (.invokevirtual 38, 3) := by decide +kernel
theorem dX7_leastOfAll_46 : decode cX7_leastOfAll 46 = .ok (.iload 4, 2) := by decide +kernel
theorem dX7_leastOfAll_48 : decode cX7_leastOfAll 48 = .ok (.iload 8, 2) := by decide +kernel
theorem dX7_leastOfAll_50 : decode cX7_leastOfAll 50 = .ok (.invokestatic 41, 3) := by decide +kernel
theorem dX7_leastOfAll_53 : decode cX7_leastOfAll 53 = .ok (.imul, 1) := by decide +kernel
theorem dX7_leastOfAll_54 : decode cX7_leastOfAll 54 = .ok (.isub, 1) := by decide +kernel
theorem dX7_leastOfAll_55 : decode cX7_leastOfAll 55 = .ok (.istore 9, 2) := by decide +kernel
theorem dX7_leastOfAll_57 : decode cX7_leastOfAll 57 = .ok (.aload_n 0, 1) := by decide +kernel
theorem dX7_leastOfAll_58 : decode cX7_leastOfAll 58 = .ok (.iload 7, 2) := by decide +kernel
theorem dX7_leastOfAll_60 : decode cX7_leastOfAll 60 = .ok (.iconst 1, 1) := by decide +kernel
theorem dX7_leastOfAll_61 : decode cX7_leastOfAll 61 = .ok (.iadd, 1) := by decide +kernel
theorem dX7_leastOfAll_62 : decode cX7_leastOfAll 62 = .ok (.iload_n 2, 1) := by decide +kernel
theorem dX7_leastOfAll_63 : decode cX7_leastOfAll 63 = .ok (.iload 8, 2) := by decide +kernel
theorem dX7_leastOfAll_65 : decode cX7_leastOfAll 65 = .ok (.ior, 1) := by decide +kernel
theorem dX7_leastOfAll_66 : decode cX7_leastOfAll 66 = .ok (.iload_n 3, 1) := by decide +kernel
theorem dX7_leastOfAll_67 : decode cX7_leastOfAll 67 = .ok (.iload 9, 2) := by decide +kernel
theorem dX7_leastOfAll_69 : decode cX7_leastOfAll 69 = .ok (.iadd, 1) := by decide +kernel
theorem dX7_leastOfAll_70 : decode cX7_leastOfAll 70 = .ok (.iload 4, 2) := by decide +kernel
theorem dX7_leastOfAll_72 : decode cX7_leastOfAll 72 = .ok (.iload 5, 2) := by decide +kernel
theorem dX7_leastOfAll_74 : decode cX7_leastOfAll 74 = .ok (.iconst 1, 1) := by decide +kernel
theorem dX7_leastOfAll_75 : decode cX7_leastOfAll 75 = .ok (.iadd, 1) := by decide +kernel
theorem dX7_leastOfAll_76 : decode cX7_leastOfAll 76 = .ok (.invokestatic 44, 3) := by decide +kernel
theorem dX7_leastOfAll_79 : decode cX7_leastOfAll 79 = .ok (.istore 10, 2) := by decide +kernel
theorem dX7_leastOfAll_81 : decode cX7_leastOfAll 81 = .ok (.iload 6, 2) := by decide +kernel
theorem dX7_leastOfAll_83 : decode cX7_leastOfAll 83 = .ok (.iload 10, 2) := by decide +kernel
theorem dX7_leastOfAll_85 : decode cX7_leastOfAll 85 = .ok (.invokestatic 48, 3) := by decide +kernel
theorem dX7_leastOfAll_88 : decode cX7_leastOfAll 88 = .ok (.istore 6, 2) := by decide +kernel
theorem dX7_leastOfAll_90 : decode cX7_leastOfAll 90 = .ok (.iinc 7 1, 3) := by decide +kernel
theorem dX7_leastOfAll_93 : decode cX7_leastOfAll 93 = .ok (.goto (-77), 3) := by decide +kernel
theorem dX7_leastOfAll_96 : decode cX7_leastOfAll 96 = .ok (.iload 6, 2) := by decide +kernel
theorem dX7_leastOfAll_98 : decode cX7_leastOfAll 98 = .ok (.ireturn, 1) := by decide +kernel
theorem dX8_init_0 : decode cX8_init 0 = .ok (.aload_n 0, 1) := by decide +kernel
theorem dX8_init_1 : decode cX8_init 1 = .ok (.invokespecial 3, 3) := by decide +kernel
theorem dX8_init_4 : decode cX8_init 4 = .ok (.aload_n 0, 1) := by decide +kernel
theorem dX8_init_5 : decode cX8_init 5 = .ok (.new 9, 3) := by decide +kernel
theorem dX8_init_8 : decode cX8_init 8 = .ok (.dup, 1) := by decide +kernel
theorem dX8_init_9 : decode cX8_init 9 = .ok (.invokespecial 11, 3) := by decide +kernel
theorem dX8_init_12 : decode cX8_init 12 = .ok (.putfield 12, 3) := by decide +kernel
theorem dX8_init_15 : decode cX8_init 15 = .ok (.aload_n 0, 1) := by decide +kernel
theorem dX8_init_16 : decode cX8_init 16 = .ok (.new 16, 3) := by decide +kernel
theorem dX8_init_19 : decode cX8_init 19 = .ok (.dup, 1) := by decide +kernel
theorem dX8_init_20 : decode cX8_init 20 = .ok (.invokespecial 18, 3) := by decide +kernel
theorem dX8_init_23 : decode cX8_init 23 = .ok (.putfield 19, 3) := by decide +kernel
theorem dX8_init_26 : decode cX8_init 26 = .ok (.aload_n 0, 1) := by decide +kernel
theorem dX8_init_27 : decode cX8_init 27 = .ok (.new 23, 3) := by decide +kernel
theorem dX8_init_30 : decode cX8_init 30 = .ok (.dup, 1) := by decide +kernel
theorem dX8_init_31 : decode cX8_init 31 = .ok (.invokespecial 25, 3) := by decide +kernel
theorem dX8_init_34 : decode cX8_init 34 = .ok (.putfield 26, 3) := by decide +kernel
theorem dX8_init_37 : decode cX8_init 37 = .ok (.aload_n 0, 1) := by decide +kernel
theorem dX8_init_38 : decode cX8_init 38 = .ok (.new 30, 3) := by decide +kernel
theorem dX8_init_41 : decode cX8_init 41 = .ok (.dup, 1) := by decide +kernel
theorem dX8_init_42 : decode cX8_init 42 = .ok (.invokespecial 32, 3) := by decide +kernel
theorem dX8_init_45 : decode cX8_init 45 = .ok (.putfield 33, 3) := by decide +kernel
theorem dX8_init_48 : decode cX8_init 48 = .ok (.aload_n 0, 1) := by decide +kernel
theorem dX8_init_49 : decode cX8_init 49 = .ok (.new 37, 3) := by decide +kernel
theorem dX8_init_52 : decode cX8_init 52 = .ok (.dup, 1) := by decide +kernel
theorem dX8_init_53 : decode cX8_init 53 = .ok (.invokespecial 39, 3) := by decide +kernel
theorem dX8_init_56 : decode cX8_init 56 = .ok (.putfield 40, 3) := by decide +kernel
theorem dX8_init_59 : decode cX8_init 59 = .ok (.aload_n 0, 1) := by decide +kernel
theorem dX8_init_60 : decode cX8_init 60 = .ok (.bipush 8, 2) := by decide +kernel
theorem dX8_init_62 : decode cX8_init 62 = .ok (.anewarray 44, 3) := by decide +kernel
theorem dX8_init_65 : decode cX8_init 65 = .ok (.putfield 46, 3) := by decide +kernel
theorem dX8_init_68 : decode cX8_init 68 = .ok (.aload_n 0, 1) := by decide +kernel
theorem dX8_init_69 : decode cX8_init 69 = .ok (.iconst 4, 1) := by decide +kernel
theorem dX8_init_70 : decode cX8_init 70 = .ok (.newarray .int, 2) := by decide +kernel
theorem dX8_init_72 : decode cX8_init 72 = .ok (.putfield 50, 3) := by decide +kernel
theorem dX8_init_75 : decode cX8_init 75 = .ok (.aload_n 0, 1) := by decide +kernel
theorem dX8_init_76 : decode cX8_init 76 = .ok (.bipush 10, 2) := by decide +kernel
theorem dX8_init_78 : decode cX8_init 78 = .ok (.putfield 54, 3) := by decide +kernel
theorem dX8_init_81 : decode cX8_init 81 = .ok (.return_, 1) := by decide +kernel
theorem dX8_addRule_0 : decode cX8_addRule 0 = .ok (.iload_n 1, 1) := by decide +kernel
theorem dX8_addRule_1 : decode cX8_addRule 1 = .ok (.ifCond .lt 19, 3) := by decide +kernel
theorem dX8_addRule_4 : decode cX8_addRule 4 = .ok (.iload_n 1, 1) := by decide +kernel
theorem dX8_addRule_5 : decode cX8_addRule 5 = .ok (.iconst 3, 1) := by decide +kernel
theorem dX8_addRule_6 : decode cX8_addRule 6 = .ok (.if_icmp .ge 14, 3) := by decide +kernel
theorem dX8_addRule_9 : decode cX8_addRule 9 = .ok (.iload_n 2, 1) := by decide +kernel
theorem dX8_addRule_10 : decode cX8_addRule 10 = .ok (.iconst 1, 1) := by decide +kernel
theorem dX8_addRule_11 : decode cX8_addRule 11 = .ok (.if_icmp .lt 9, 3) := by decide +kernel
theorem dX8_addRule_14 : decode cX8_addRule 14 = .ok (.iload_n 2, 1) := by decide +kernel
theorem dX8_addRule_15 : decode cX8_addRule 15 = .ok (.bipush 50, 2) := by decide +kernel
theorem dX8_addRule_17 : decode cX8_addRule 17 = .ok (.if_icmp .le 13, 3) := by decide +kernel
theorem dX8_addRule_20 : decode cX8_addRule 20 = .ok (.new 58, 3) := by decide +kernel
theorem dX8_addRule_23 : decode cX8_addRule 23 = .ok (.dup, 1) := by decide +kernel
theorem dX8_addRule_24 : decode cX8_addRule 24 = .ok (.ldc 60, 2) := by decide +kernel
theorem dX8_addRule_26 : decode cX8_addRule 26 = .ok (.invokespecial 62, 3) := by decide +kernel
theorem dX8_addRule_29 : decode cX8_addRule 29 = .ok (.athrow, 1) := by decide +kernel
theorem dX8_addRule_30 : decode cX8_addRule 30 = .ok (.aload_n 0, 1) := by decide +kernel
theorem dX8_addRule_31 : decode cX8_addRule 31 = .ok (.getfield 12, 3) := by decide +kernel
theorem dX8_addRule_34 : decode cX8_addRule 34 = .ok (.invokevirtual 65, 3) := by decide +kernel
theorem dX8_addRule_37 : decode cX8_addRule 37 = .ok (.ifCond .eq 13, 3) := by decide +kernel
theorem dX8_addRule_40 : decode cX8_addRule 40 = .ok (.new 69, 3) := by decide +kernel
theorem dX8_addRule_43 : decode cX8_addRule 43 = .ok (.dup, 1) := by decide +kernel
theorem dX8_addRule_44 : decode cX8_addRule 44 = .ok (.ldc 71, 2) := by decide +kernel
theorem dX8_addRule_46 : decode cX8_addRule 46 = .ok (.invokespecial 73, 3) := by decide +kernel
theorem dX8_addRule_49 : decode cX8_addRule 49 = .ok (.athrow, 1) := by decide +kernel
theorem dX8_addRule_50 : decode cX8_addRule 50 = .ok (.aload_n 0, 1) := by decide +kernel
theorem dX8_addRule_51 : decode cX8_addRule 51 = .ok (.getfield 12, 3) := by decide +kernel
theorem dX8_addRule_54 : decode cX8_addRule 54 = .ok (.iload_n 1, 1) := by decide +kernel
theorem dX8_addRule_55 : decode cX8_addRule 55 = .ok (.iload_n 2, 1) := by decide +kernel
theorem dX8_addRule_56 : decode cX8_addRule 56 = .ok (.invokevirtual 74, 3) := by decide +kernel
theorem dX8_addRule_59 : decode cX8_addRule 59 = .ok (.ireturn, 1) := by decide +kernel
theorem dX8_headwords_0 : decode cX8_headwords 0 = .ok (.iload_n 1, 1) := by decide +kernel
theorem dX8_headwords_1 : decode cX8_headwords 1 = .ok (.invokestatic 78, 3) := by decide +kernel
theorem dX8_headwords_4 : decode cX8_headwords 4 = .ok (.iconst 0, 1) := by decide +kernel
theorem dX8_headwords_5 : decode cX8_headwords 5 = .ok (.istore_n 2, 1) := by decide +kernel
theorem dX8_headwords_6 : decode cX8_headwords 6 = .ok (.iconst 0, 1) := by decide +kernel
theorem dX8_headwords_7 : decode cX8_headwords 7 = .ok (.istore_n 3, 1) := by decide +kernel
theorem dX8_headwords_8 : decode cX8_headwords 8 = .ok (.iload_n 3, 1) := by decide +kernel
theorem dX8_headwords_9 : decode cX8_headwords 9 = .ok (.bipush 100, 2) := by decide +kernel
theorem dX8_headwords_11 : decode cX8_headwords 11 = .ok (.if_icmp .ge 24, 3) := by decide +kernel
theorem dX8_headwords_14 : decode cX8_headwords 14 = .ok (.aload_n 0, 1) := by decide +kernel
theorem dX8_headwords_15 : decode cX8_headwords 15 = .ok (.getfield 12, 3) := by decide +kernel
theorem dX8_headwords_18 : decode cX8_headwords 18 = .ok (.iload_n 1, 1) := by decide +kernel
theorem dX8_headwords_19 : decode cX8_headwords 19 = .ok (.iload_n 3, 1) := by decide +kernel
theorem dX8_headwords_20 : decode cX8_headwords 20 = .ok (.invokevirtual 82, 3) := by decide +kernel
theorem dX8_headwords_23 : decode cX8_headwords 23 = .ok (.ifCond .eq 6, 3) := by decide +kernel
theorem dX8_headwords_26 : decode cX8_headwords 26 = .ok (.iinc 2 1, 3) := by decide +kernel
theorem dX8_headwords_29 : decode cX8_headwords 29 = .ok (.iinc 3 1, 3) := by decide +kernel
theorem dX8_headwords_32 : decode cX8_headwords 32 = .ok (.goto (-24), 3) := by decide +kernel
theorem dX8_headwords_35 : decode cX8_headwords 35 = .ok (.iload_n 2, 1) := by decide +kernel
theorem dX8_headwords_36 : decode cX8_headwords 36 = .ok (.ireturn, 1) := by decide +kernel
theorem dX8_isForm_0 : decode cX8_isForm 0 = .ok (.iload_n 1, 1) := by decide +kernel
theorem dX8_isForm_1 : decode cX8_isForm 1 = .ok (.invokestatic 78, 3) := by decide +kernel
theorem dX8_isForm_4 : decode cX8_isForm 4 = .ok (.iload_n 2, 1) := by decide +kernel
theorem dX8_isForm_5 : decode cX8_isForm 5 = .ok (.invokestatic 78, 3) := by decide +kernel
theorem dX8_isForm_8 : decode cX8_isForm 8 = .ok (.aload_n 0, 1) := by decide +kernel
theorem dX8_isForm_9 : decode cX8_isForm 9 = .ok (.getfield 12, 3) := by decide +kernel
theorem dX8_isForm_12 : decode cX8_isForm 12 = .ok (.iload_n 1, 1) := by decide +kernel
theorem dX8_isForm_13 : decode cX8_isForm 13 = .ok (.iload_n 2, 1) := by decide +kernel
theorem dX8_isForm_14 : decode cX8_isForm 14 = .ok (.invokevirtual 82, 3) := by decide +kernel
theorem dX8_isForm_17 : decode cX8_isForm 17 = .ok (.ireturn, 1) := by decide +kernel
theorem dX8_part_0 : decode cX8_part 0 = .ok (.iload_n 1, 1) := by decide +kernel
theorem dX8_part_1 : decode cX8_part 1 = .ok (.iconst (-1), 1) := by decide +kernel
theorem dX8_part_2 : decode cX8_part 2 = .ok (.if_icmp .eq 7, 3) := by decide +kernel
theorem dX8_part_5 : decode cX8_part 5 = .ok (.iload_n 1, 1) := by decide +kernel
theorem dX8_part_6 : decode cX8_part 6 = .ok (.invokestatic 78, 3) := by decide +kernel
theorem dX8_part_9 : decode cX8_part 9 = .ok (.aload_n 0, 1) := by decide +kernel
theorem dX8_part_10 : decode cX8_part 10 = .ok (.getfield 86, 3) := by decide +kernel
theorem dX8_part_13 : decode cX8_part 13 = .ok (.aload_n 0, 1) := by decide +kernel
theorem dX8_part_14 : decode cX8_part 14 = .ok (.getfield 50, 3) := by decide +kernel
theorem dX8_part_17 : decode cX8_part 17 = .ok (.arraylength, 1) := by decide +kernel
theorem dX8_part_18 : decode cX8_part 18 = .ok (.if_icmp .lt 13, 3) := by decide +kernel
theorem dX8_part_21 : decode cX8_part 21 = .ok (.new 69, 3) := by decide +kernel
theorem dX8_part_24 : decode cX8_part 24 = .ok (.dup, 1) := by decide +kernel
theorem dX8_part_25 : decode cX8_part 25 = .ok (.ldc 89, 2) := by decide +kernel
theorem dX8_part_27 : decode cX8_part 27 = .ok (.invokespecial 73, 3) := by decide +kernel
theorem dX8_part_30 : decode cX8_part 30 = .ok (.athrow, 1) := by decide +kernel
theorem dX8_part_31 : decode cX8_part 31 = .ok (.iload_n 1, 1) := by decide +kernel
theorem dX8_part_32 : decode cX8_part 32 = .ok (.iconst (-1), 1) := by decide +kernel
theorem dX8_part_33 : decode cX8_part 33 = .ok (.if_icmp .ne 20, 3) := by decide +kernel
theorem dX8_part_36 : decode cX8_part 36 = .ok (.aload_n 0, 1) := by decide +kernel
theorem dX8_part_37 : decode cX8_part 37 = .ok (.getfield 86, 3) := by decide +kernel
theorem dX8_part_40 : decode cX8_part 40 = .ok (.ifCond .ne 13, 3) := by decide +kernel
theorem dX8_part_43 : decode cX8_part 43 = .ok (.new 69, 3) := by decide +kernel
theorem dX8_part_46 : decode cX8_part 46 = .ok (.dup, 1) := by decide +kernel
theorem dX8_part_47 : decode cX8_part 47 = .ok (.ldc 91, 2) := by decide +kernel
theorem dX8_part_49 : decode cX8_part 49 = .ok (.invokespecial 73, 3) := by decide +kernel
theorem dX8_part_52 : decode cX8_part 52 = .ok (.athrow, 1) := by decide +kernel
theorem dX8_part_53 : decode cX8_part 53 = .ok (.aload_n 0, 1) := by decide +kernel
theorem dX8_part_54 : decode cX8_part 54 = .ok (.getfield 50, 3) := by decide +kernel
theorem dX8_part_57 : decode cX8_part 57 = .ok (.aload_n 0, 1) := by decide +kernel
theorem dX8_part_58 : decode cX8_part 58 = .ok (.getfield 86, 3) := by decide +kernel
theorem dX8_part_61 : decode cX8_part 61 = .ok (.iload_n 1, 1) := by decide +kernel
theorem dX8_part_62 : decode cX8_part 62 = .ok (.iastore, 1) := by decide +kernel
theorem dX8_part_63 : decode cX8_part 63 = .ok (.aload_n 0, 1) := by decide +kernel
theorem dX8_part_64 : decode cX8_part 64 = .ok (.dup, 1) := by decide +kernel
theorem dX8_part_65 : decode cX8_part 65 = .ok (.getfield 86, 3) := by decide +kernel
theorem dX8_part_68 : decode cX8_part 68 = .ok (.iconst 1, 1) := by decide +kernel
theorem dX8_part_69 : decode cX8_part 69 = .ok (.iadd, 1) := by decide +kernel
theorem dX8_part_70 : decode cX8_part 70 = .ok (.putfield 86, 3) := by decide +kernel
theorem dX8_part_73 : decode cX8_part 73 = .ok (.aload_n 0, 1) := by decide +kernel
theorem dX8_part_74 : decode cX8_part 74 = .ok (.getfield 86, 3) := by decide +kernel
theorem dX8_part_77 : decode cX8_part 77 = .ok (.ireturn, 1) := by decide +kernel
theorem dX8_addPhrase_0 : decode cX8_addPhrase 0 = .ok (.iload_n 1, 1) := by decide +kernel
theorem dX8_addPhrase_1 : decode cX8_addPhrase 1 = .ok (.invokestatic 93, 3) := by decide +kernel
theorem dX8_addPhrase_4 : decode cX8_addPhrase 4 = .ok (.aload_n 0, 1) := by decide +kernel
theorem dX8_addPhrase_5 : decode cX8_addPhrase 5 = .ok (.getfield 86, 3) := by decide +kernel
theorem dX8_addPhrase_8 : decode cX8_addPhrase 8 = .ok (.iconst 1, 1) := by decide +kernel
theorem dX8_addPhrase_9 : decode cX8_addPhrase 9 = .ok (.if_icmp .lt 15, 3) := by decide +kernel
theorem dX8_addPhrase_12 : decode cX8_addPhrase 12 = .ok (.aload_n 0, 1) := by decide +kernel
theorem dX8_addPhrase_13 : decode cX8_addPhrase 13 = .ok (.getfield 86, 3) := by decide +kernel
theorem dX8_addPhrase_16 : decode cX8_addPhrase 16 = .ok (.aload_n 0, 1) := by decide +kernel
theorem dX8_addPhrase_17 : decode cX8_addPhrase 17 = .ok (.getfield 50, 3) := by decide +kernel
theorem dX8_addPhrase_20 : decode cX8_addPhrase 20 = .ok (.arraylength, 1) := by decide +kernel
theorem dX8_addPhrase_21 : decode cX8_addPhrase 21 = .ok (.if_icmp .le 13, 3) := by decide +kernel
theorem dX8_addPhrase_24 : decode cX8_addPhrase 24 = .ok (.new 69, 3) := by decide +kernel
theorem dX8_addPhrase_27 : decode cX8_addPhrase 27 = .ok (.dup, 1) := by decide +kernel
theorem dX8_addPhrase_28 : decode cX8_addPhrase 28 = .ok (.ldc 96, 2) := by decide +kernel
theorem dX8_addPhrase_30 : decode cX8_addPhrase 30 = .ok (.invokespecial 73, 3) := by decide +kernel
theorem dX8_addPhrase_33 : decode cX8_addPhrase 33 = .ok (.athrow, 1) := by decide +kernel
theorem dX8_addPhrase_34 : decode cX8_addPhrase 34 = .ok (.aload_n 0, 1) := by decide +kernel
theorem dX8_addPhrase_35 : decode cX8_addPhrase 35 = .ok (.getfield 50, 3) := by decide +kernel
theorem dX8_addPhrase_38 : decode cX8_addPhrase 38 = .ok (.aload_n 0, 1) := by decide +kernel
theorem dX8_addPhrase_39 : decode cX8_addPhrase 39 = .ok (.getfield 86, 3) := by decide +kernel
theorem dX8_addPhrase_42 : decode cX8_addPhrase 42 = .ok (.iconst 1, 1) := by decide +kernel
theorem dX8_addPhrase_43 : decode cX8_addPhrase 43 = .ok (.isub, 1) := by decide +kernel
theorem dX8_addPhrase_44 : decode cX8_addPhrase 44 = .ok (.iaload, 1) := by decide +kernel
theorem dX8_addPhrase_45 : decode cX8_addPhrase 45 = .ok (.iconst (-1), 1) := by decide +kernel
theorem dX8_addPhrase_46 : decode cX8_addPhrase 46 = .ok (.if_icmp .ne 13, 3) := by decide +kernel
theorem dX8_addPhrase_49 : decode cX8_addPhrase 49 = .ok (.new 69, 3) := by decide +kernel
theorem dX8_addPhrase_52 : decode cX8_addPhrase 52 = .ok (.dup, 1) := by decide +kernel
theorem dX8_addPhrase_53 : decode cX8_addPhrase 53 = .ok (.ldc 98, 2) := by decide +kernel
theorem dX8_addPhrase_55 : decode cX8_addPhrase 55 = .ok (.invokespecial 73, 3) := by decide +kernel
theorem dX8_addPhrase_58 : decode cX8_addPhrase 58 = .ok (.athrow, 1) := by decide +kernel
theorem dX8_addPhrase_59 : decode cX8_addPhrase 59 = .ok (.aload_n 0, 1) := by decide +kernel
theorem dX8_addPhrase_60 : decode cX8_addPhrase 60 = .ok (.invokevirtual 100, 3) := by decide +kernel
theorem dX8_addPhrase_63 : decode cX8_addPhrase 63 = .ok (.new 103, 3) := by decide +kernel
theorem dX8_addPhrase_66 : decode cX8_addPhrase 66 = .ok (.dup, 1) := by decide +kernel
theorem dX8_addPhrase_67 : decode cX8_addPhrase 67 = .ok (.iload_n 1, 1) := by decide +kernel
theorem dX8_addPhrase_68 : decode cX8_addPhrase 68 = .ok (.aload_n 0, 1) := by decide +kernel
theorem dX8_addPhrase_69 : decode cX8_addPhrase 69 = .ok (.getfield 50, 3) := by decide +kernel
theorem dX8_addPhrase_72 : decode cX8_addPhrase 72 = .ok (.aload_n 0, 1) := by decide +kernel
theorem dX8_addPhrase_73 : decode cX8_addPhrase 73 = .ok (.getfield 86, 3) := by decide +kernel
theorem dX8_addPhrase_76 : decode cX8_addPhrase 76 = .ok (.invokestatic 105, 3) := by decide +kernel
theorem dX8_addPhrase_79 : decode cX8_addPhrase 79 = .ok (.invokespecial 111, 3) := by decide +kernel
theorem dX8_addPhrase_82 : decode cX8_addPhrase 82 = .ok (.astore_n 2, 1) := by decide +kernel
theorem dX8_addPhrase_83 : decode cX8_addPhrase 83 = .ok (.aload_n 0, 1) := by decide +kernel
theorem dX8_addPhrase_84 : decode cX8_addPhrase 84 = .ok (.iconst 0, 1) := by decide +kernel
theorem dX8_addPhrase_85 : decode cX8_addPhrase 85 = .ok (.putfield 86, 3) := by decide +kernel
theorem dX8_addPhrase_88 : decode cX8_addPhrase 88 = .ok (.aload_n 0, 1) := by decide +kernel
theorem dX8_addPhrase_89 : decode cX8_addPhrase 89 = .ok (.aload_n 2, 1) := by decide +kernel
theorem dX8_addPhrase_90 : decode cX8_addPhrase 90 = .ok (.invokevirtual 114, 3) := by decide +kernel
theorem dX8_addPhrase_93 : decode cX8_addPhrase 93 = .ok (.ireturn, 1) := by decide +kernel
theorem dX8_addSplit_0 : decode cX8_addSplit 0 = .ok (.iload_n 1, 1) := by decide +kernel
theorem dX8_addSplit_1 : decode cX8_addSplit 1 = .ok (.invokestatic 78, 3) := by decide +kernel
theorem dX8_addSplit_4 : decode cX8_addSplit 4 = .ok (.iload_n 2, 1) := by decide +kernel
theorem dX8_addSplit_5 : decode cX8_addSplit 5 = .ok (.invokestatic 78, 3) := by decide +kernel
theorem dX8_addSplit_8 : decode cX8_addSplit 8 = .ok (.iload_n 3, 1) := by decide +kernel
theorem dX8_addSplit_9 : decode cX8_addSplit 9 = .ok (.ifCond .lt 8, 3) := by decide +kernel
theorem dX8_addSplit_12 : decode cX8_addSplit 12 = .ok (.iload_n 3, 1) := by decide +kernel
theorem dX8_addSplit_13 : decode cX8_addSplit 13 = .ok (.iconst 4, 1) := by decide +kernel
theorem dX8_addSplit_14 : decode cX8_addSplit 14 = .ok (.if_icmp .le 13, 3) := by decide +kernel
theorem dX8_addSplit_17 : decode cX8_addSplit 17 = .ok (.new 58, 3) := by decide +kernel
theorem dX8_addSplit_20 : decode cX8_addSplit 20 = .ok (.dup, 1) := by decide +kernel
theorem dX8_addSplit_21 : decode cX8_addSplit 21 = .ok (.ldc 118, 2) := by decide +kernel
theorem dX8_addSplit_23 : decode cX8_addSplit 23 = .ok (.invokespecial 62, 3) := by decide +kernel
theorem dX8_addSplit_26 : decode cX8_addSplit 26 = .ok (.athrow, 1) := by decide +kernel
theorem dX8_addSplit_27 : decode cX8_addSplit 27 = .ok (.iload 4, 2) := by decide +kernel
theorem dX8_addSplit_29 : decode cX8_addSplit 29 = .ok (.invokestatic 93, 3) := by decide +kernel
theorem dX8_addSplit_32 : decode cX8_addSplit 32 = .ok (.aload_n 0, 1) := by decide +kernel
theorem dX8_addSplit_33 : decode cX8_addSplit 33 = .ok (.invokevirtual 100, 3) := by decide +kernel
theorem dX8_addSplit_36 : decode cX8_addSplit 36 = .ok (.aload_n 0, 1) := by decide +kernel
theorem dX8_addSplit_37 : decode cX8_addSplit 37 = .ok (.new 120, 3) := by decide +kernel
theorem dX8_addSplit_40 : decode cX8_addSplit 40 = .ok (.dup, 1) := by decide +kernel
theorem dX8_addSplit_41 : decode cX8_addSplit 41 = .ok (.iload 4, 2) := by decide +kernel
theorem dX8_addSplit_43 : decode cX8_addSplit 43 = .ok (.iload_n 1, 1) := by decide +kernel
theorem dX8_addSplit_44 : decode cX8_addSplit 44 = .ok (.iload_n 2, 1) := by decide +kernel
theorem dX8_addSplit_45 : decode cX8_addSplit 45 = .ok (.iload_n 3, 1) := by decide +kernel
theorem dX8_addSplit_46 : decode cX8_addSplit 46 = .ok (.invokespecial 122, 3) := by decide +kernel
theorem dX8_addSplit_49 : decode cX8_addSplit 49 = .ok (.invokevirtual 114, 3) := by decide +kernel
theorem dX8_addSplit_52 : decode cX8_addSplit 52 = .ok (.ireturn, 1) := by decide +kernel
theorem dX8_takeOut_0 : decode cX8_takeOut 0 = .ok (.aload_n 0, 1) := by decide +kernel
theorem dX8_takeOut_1 : decode cX8_takeOut 1 = .ok (.iload_n 1, 1) := by decide +kernel
theorem dX8_takeOut_2 : decode cX8_takeOut 2 = .ok (.invokevirtual 125, 3) := by decide +kernel
theorem dX8_takeOut_5 : decode cX8_takeOut 5 = .ok (.aload_n 0, 1) := by decide +kernel
theorem dX8_takeOut_6 : decode cX8_takeOut 6 = .ok (.getfield 46, 3) := by decide +kernel
theorem dX8_takeOut_9 : decode cX8_takeOut 9 = .ok (.iload_n 1, 1) := by decide +kernel
theorem dX8_takeOut_10 : decode cX8_takeOut 10 = .ok (.aconst_null, 1) := by decide +kernel
theorem dX8_takeOut_11 : decode cX8_takeOut 11 = .ok (.aastore, 1) := by decide +kernel
theorem dX8_takeOut_12 : decode cX8_takeOut 12 = .ok (.iconst 0, 1) := by decide +kernel
theorem dX8_takeOut_13 : decode cX8_takeOut 13 = .ok (.istore_n 2, 1) := by decide +kernel
theorem dX8_takeOut_14 : decode cX8_takeOut 14 = .ok (.iconst 0, 1) := by decide +kernel
theorem dX8_takeOut_15 : decode cX8_takeOut 15 = .ok (.istore_n 3, 1) := by decide +kernel
theorem dX8_takeOut_16 : decode cX8_takeOut 16 = .ok (.iload_n 3, 1) := by decide +kernel
theorem dX8_takeOut_17 : decode cX8_takeOut 17 = .ok (.iconst 3, 1) := by decide +kernel
theorem dX8_takeOut_18 : decode cX8_takeOut 18 = .ok (.if_icmp .ge 33, 3) := by decide +kernel
theorem dX8_takeOut_21 : decode cX8_takeOut 21 = .ok (.aload_n 0, 1) := by decide +kernel
theorem dX8_takeOut_22 : decode cX8_takeOut 22 = .ok (.getfield 40, 3) := by decide +kernel
theorem dX8_takeOut_25 : decode cX8_takeOut 25 = .ok (.iload_n 3, 1) := by decide +kernel
theorem dX8_takeOut_26 : decode cX8_takeOut 26 = .ok (.iload_n 1, 1) := by decide +kernel
theorem dX8_takeOut_27 : decode cX8_takeOut 27 = .ok (.invokevirtual 128, 3) := by decide +kernel
theorem dX8_takeOut_30 : decode cX8_takeOut 30 = .ok (.ifCond .eq 15, 3) := by decide +kernel
theorem dX8_takeOut_33 : decode cX8_takeOut 33 = .ok (.aload_n 0, 1) := by decide +kernel
theorem dX8_takeOut_34 : decode cX8_takeOut 34 = .ok (.getfield 40, 3) := by decide +kernel
theorem dX8_takeOut_37 : decode cX8_takeOut 37 = .ok (.iload_n 3, 1) := by decide +kernel
theorem dX8_takeOut_38 : decode cX8_takeOut 38 = .ok (.iload_n 1, 1) := by decide +kernel
theorem dX8_takeOut_39 : decode cX8_takeOut 39 = .ok (.invokevirtual 131, 3) := by decide +kernel
theorem dX8_takeOut_42 : decode cX8_takeOut 42 = .ok (.iinc 2 1, 3) := by decide +kernel
theorem dX8_takeOut_45 : decode cX8_takeOut 45 = .ok (.iinc 3 1, 3) := by decide +kernel
theorem dX8_takeOut_48 : decode cX8_takeOut 48 = .ok (.goto (-32), 3) := by decide +kernel
theorem dX8_takeOut_51 : decode cX8_takeOut 51 = .ok (.iload_n 2, 1) := by decide +kernel
theorem dX8_takeOut_52 : decode cX8_takeOut 52 = .ok (.ireturn, 1) := by decide +kernel
theorem dX8_entries_0 : decode cX8_entries 0 = .ok (.iconst 0, 1) := by decide +kernel
theorem dX8_entries_1 : decode cX8_entries 1 = .ok (.istore_n 1, 1) := by decide +kernel
theorem dX8_entries_2 : decode cX8_entries 2 = .ok (.aload_n 0, 1) := by decide +kernel
theorem dX8_entries_3 : decode cX8_entries 3 = .ok (.getfield 46, 3) := by decide +kernel
theorem dX8_entries_6 : decode cX8_entries 6 = .ok (.astore_n 2, 1) := by decide +kernel
theorem dX8_entries_7 : decode cX8_entries 7 = .ok (.aload_n 2, 1) := by decide +kernel
theorem dX8_entries_8 : decode cX8_entries 8 = .ok (.arraylength, 1) := by decide +kernel
theorem dX8_entries_9 : decode cX8_entries 9 = .ok (.istore_n 3, 1) := by decide +kernel
theorem dX8_entries_10 : decode cX8_entries 10 = .ok (.iconst 0, 1) := by decide +kernel
theorem dX8_entries_11 : decode cX8_entries 11 = .ok (.istore 4, 2) := by decide +kernel
theorem dX8_entries_13 : decode cX8_entries 13 = .ok (.iload 4, 2) := by decide +kernel
theorem dX8_entries_15 : decode cX8_entries 15 = .ok (.iload_n 3, 1) := by decide +kernel
theorem dX8_entries_16 : decode cX8_entries 16 = .ok (.if_icmp .ge 23, 3) := by decide +kernel
theorem dX8_entries_19 : decode cX8_entries 19 = .ok (.aload_n 2, 1) := by decide +kernel
theorem dX8_entries_20 : decode cX8_entries 20 = .ok (.iload 4, 2) := by decide +kernel
theorem dX8_entries_22 : decode cX8_entries 22 = .ok (.aaload, 1) := by decide +kernel
theorem dX8_entries_23 : decode cX8_entries 23 = .ok (.astore 5, 2) := by decide +kernel
theorem dX8_entries_25 : decode cX8_entries 25 = .ok (.aload 5, 2) := by decide +kernel
theorem dX8_entries_27 : decode cX8_entries 27 = .ok (.ifnull 6, 3) := by decide +kernel
theorem dX8_entries_30 : decode cX8_entries 30 = .ok (.iinc 1 1, 3) := by decide +kernel
theorem dX8_entries_33 : decode cX8_entries 33 = .ok (.iinc 4 1, 3) := by decide +kernel
theorem dX8_entries_36 : decode cX8_entries 36 = .ok (.goto (-23), 3) := by decide +kernel
theorem dX8_entries_39 : decode cX8_entries 39 = .ok (.iload_n 1, 1) := by decide +kernel
theorem dX8_entries_40 : decode cX8_entries 40 = .ok (.ireturn, 1) := by decide +kernel
theorem dX8_say_0 : decode cX8_say 0 = .ok (.iload_n 1, 1) := by decide +kernel
theorem dX8_say_1 : decode cX8_say 1 = .ok (.invokestatic 78, 3) := by decide +kernel
theorem dX8_say_4 : decode cX8_say 4 = .ok (.aload_n 0, 1) := by decide +kernel
theorem dX8_say_5 : decode cX8_say 5 = .ok (.getfield 19, 3) := by decide +kernel
theorem dX8_say_8 : decode cX8_say 8 = .ok (.invokevirtual 135, 3) := by decide +kernel
theorem dX8_say_11 : decode cX8_say 11 = .ok (.ifCond .eq 13, 3) := by decide +kernel
theorem dX8_say_14 : decode cX8_say 14 = .ok (.new 69, 3) := by decide +kernel
theorem dX8_say_17 : decode cX8_say 17 = .ok (.dup, 1) := by decide +kernel
theorem dX8_say_18 : decode cX8_say 18 = .ok (.ldc 136, 2) := by decide +kernel
theorem dX8_say_20 : decode cX8_say 20 = .ok (.invokespecial 73, 3) := by decide +kernel
theorem dX8_say_23 : decode cX8_say 23 = .ok (.athrow, 1) := by decide +kernel
theorem dX8_say_24 : decode cX8_say 24 = .ok (.aload_n 0, 1) := by decide +kernel
theorem dX8_say_25 : decode cX8_say 25 = .ok (.getfield 19, 3) := by decide +kernel
theorem dX8_say_28 : decode cX8_say 28 = .ok (.iload_n 1, 1) := by decide +kernel
theorem dX8_say_29 : decode cX8_say 29 = .ok (.invokevirtual 138, 3) := by decide +kernel
theorem dX8_say_32 : decode cX8_say 32 = .ok (.ireturn, 1) := by decide +kernel
theorem dX8_clear_0 : decode cX8_clear 0 = .ok (.aload_n 0, 1) := by decide +kernel
theorem dX8_clear_1 : decode cX8_clear 1 = .ok (.getfield 19, 3) := by decide +kernel
theorem dX8_clear_4 : decode cX8_clear 4 = .ok (.invokevirtual 141, 3) := by decide +kernel
theorem dX8_clear_7 : decode cX8_clear 7 = .ok (.ireturn, 1) := by decide +kernel
theorem dX8_setBare_0 : decode cX8_setBare 0 = .ok (.iload_n 1, 1) := by decide +kernel
theorem dX8_setBare_1 : decode cX8_setBare 1 = .ok (.iconst 1, 1) := by decide +kernel
theorem dX8_setBare_2 : decode cX8_setBare 2 = .ok (.if_icmp .lt 9, 3) := by decide +kernel
theorem dX8_setBare_5 : decode cX8_setBare 5 = .ok (.iload_n 1, 1) := by decide +kernel
theorem dX8_setBare_6 : decode cX8_setBare 6 = .ok (.bipush 50, 2) := by decide +kernel
theorem dX8_setBare_8 : decode cX8_setBare 8 = .ok (.if_icmp .le 13, 3) := by decide +kernel
theorem dX8_setBare_11 : decode cX8_setBare 11 = .ok (.new 58, 3) := by decide +kernel
theorem dX8_setBare_14 : decode cX8_setBare 14 = .ok (.dup, 1) := by decide +kernel
theorem dX8_setBare_15 : decode cX8_setBare 15 = .ok (.ldc 145, 2) := by decide +kernel
theorem dX8_setBare_17 : decode cX8_setBare 17 = .ok (.invokespecial 62, 3) := by decide +kernel
theorem dX8_setBare_20 : decode cX8_setBare 20 = .ok (.athrow, 1) := by decide +kernel
theorem dX8_setBare_21 : decode cX8_setBare 21 = .ok (.aload_n 0, 1) := by decide +kernel
theorem dX8_setBare_22 : decode cX8_setBare 22 = .ok (.getfield 54, 3) := by decide +kernel
theorem dX8_setBare_25 : decode cX8_setBare 25 = .ok (.istore_n 2, 1) := by decide +kernel
theorem dX8_setBare_26 : decode cX8_setBare 26 = .ok (.aload_n 0, 1) := by decide +kernel
theorem dX8_setBare_27 : decode cX8_setBare 27 = .ok (.iload_n 1, 1) := by decide +kernel
theorem dX8_setBare_28 : decode cX8_setBare 28 = .ok (.putfield 54, 3) := by decide +kernel
theorem dX8_setBare_31 : decode cX8_setBare 31 = .ok (.iload_n 2, 1) := by decide +kernel
theorem dX8_setBare_32 : decode cX8_setBare 32 = .ok (.ireturn, 1) := by decide +kernel
theorem dX8_standings_0 : decode cX8_standings 0 = .ok (.aload_n 0, 1) := by decide +kernel
theorem dX8_standings_1 : decode cX8_standings 1 = .ok (.invokevirtual 147, 3) := by decide +kernel
theorem dX8_standings_4 : decode cX8_standings 4 = .ok (.aload_n 0, 1) := by decide +kernel
theorem dX8_standings_5 : decode cX8_standings 5 = .ok (.getfield 26, 3) := by decide +kernel
theorem dX8_standings_8 : decode cX8_standings 8 = .ok (.getfield 150, 3) := by decide +kernel
theorem dX8_standings_11 : decode cX8_standings 11 = .ok (.ireturn, 1) := by decide +kernel
theorem dX8_cost_0 : decode cX8_cost 0 = .ok (.aload_n 0, 1) := by decide +kernel
theorem dX8_cost_1 : decode cX8_cost 1 = .ok (.invokevirtual 147, 3) := by decide +kernel
theorem dX8_cost_4 : decode cX8_cost 4 = .ok (.aload_n 0, 1) := by decide +kernel
theorem dX8_cost_5 : decode cX8_cost 5 = .ok (.getfield 33, 3) := by decide +kernel
theorem dX8_cost_8 : decode cX8_cost 8 = .ok (.aload_n 0, 1) := by decide +kernel
theorem dX8_cost_9 : decode cX8_cost 9 = .ok (.getfield 26, 3) := by decide +kernel
theorem dX8_cost_12 : decode cX8_cost 12 = .ok (.aload_n 0, 1) := by decide +kernel
theorem dX8_cost_13 : decode cX8_cost 13 = .ok (.getfield 19, 3) := by decide +kernel
theorem dX8_cost_16 : decode cX8_cost 16 = .ok (.getfield 153, 3) := by decide +kernel
theorem dX8_cost_19 : decode cX8_cost 19 = .ok (.aload_n 0, 1) := by decide +kernel
theorem dX8_cost_20 : decode cX8_cost 20 = .ok (.getfield 54, 3) := by decide +kernel
theorem dX8_cost_23 : decode cX8_cost 23 = .ok (.invokevirtual 156, 3) := by decide +kernel
theorem dX8_cost_26 : decode cX8_cost 26 = .ok (.aload_n 0, 1) := by decide +kernel
theorem dX8_cost_27 : decode cX8_cost 27 = .ok (.getfield 33, 3) := by decide +kernel
theorem dX8_cost_30 : decode cX8_cost 30 = .ok (.invokevirtual 160, 3) := by decide +kernel
theorem dX8_cost_33 : decode cX8_cost 33 = .ok (.ireturn, 1) := by decide +kernel
theorem dX8_costByAll_0 : decode cX8_costByAll 0 = .ok (.aload_n 0, 1) := by decide +kernel
theorem dX8_costByAll_1 : decode cX8_costByAll 1 = .ok (.invokevirtual 147, 3) := by decide +kernel
theorem dX8_costByAll_4 : decode cX8_costByAll 4 = .ok (.aload_n 0, 1) := by decide +kernel
theorem dX8_costByAll_5 : decode cX8_costByAll 5 = .ok (.getfield 26, 3) := by decide +kernel
theorem dX8_costByAll_8 : decode cX8_costByAll 8 = .ok (.iconst 0, 1) := by decide +kernel
theorem dX8_costByAll_9 : decode cX8_costByAll 9 = .ok (.iconst 0, 1) := by decide +kernel
theorem dX8_costByAll_10 : decode cX8_costByAll 10 = .ok (.aload_n 0, 1) := by decide +kernel
theorem dX8_costByAll_11 : decode cX8_costByAll 11 = .ok (.getfield 54, 3) := by decide +kernel
theorem dX8_costByAll_14 : decode cX8_costByAll 14 = .ok (.aload_n 0, 1) := by decide +kernel
theorem dX8_costByAll_15 : decode cX8_costByAll 15 = .ok (.getfield 19, 3) := by decide +kernel
theorem dX8_costByAll_18 : decode cX8_costByAll 18 = .ok (.getfield 153, 3) := by decide +kernel
theorem dX8_costByAll_21 : decode cX8_costByAll 21 = .ok (.imul, 1) := by decide +kernel
theorem dX8_costByAll_22 : decode cX8_costByAll 22 = .ok (.aload_n 0, 1) := by decide +kernel
theorem dX8_costByAll_23 : decode cX8_costByAll 23 = .ok (.getfield 54, 3) := by decide +kernel
theorem dX8_costByAll_26 : decode cX8_costByAll 26 = .ok (.iconst 0, 1) := by decide +kernel
theorem dX8_costByAll_27 : decode cX8_costByAll 27 = .ok (.invokestatic 163, 3) := by decide +kernel
theorem dX8_costByAll_30 : decode cX8_costByAll 30 = .ok (.ireturn, 1) := by decide +kernel
theorem dX8_glossAt_0 : decode cX8_glossAt 0 = .ok (.aload_n 0, 1) := by decide +kernel
theorem dX8_glossAt_1 : decode cX8_glossAt 1 = .ok (.iload_n 1, 1) := by decide +kernel
theorem dX8_glossAt_2 : decode cX8_glossAt 2 = .ok (.invokevirtual 167, 3) := by decide +kernel
theorem dX8_glossAt_5 : decode cX8_glossAt 5 = .ok (.aload_n 0, 1) := by decide +kernel
theorem dX8_glossAt_6 : decode cX8_glossAt 6 = .ok (.invokevirtual 170, 3) := by decide +kernel
theorem dX8_glossAt_9 : decode cX8_glossAt 9 = .ok (.aload_n 0, 1) := by decide +kernel
theorem dX8_glossAt_10 : decode cX8_glossAt 10 = .ok (.getfield 26, 3) := by decide +kernel
theorem dX8_glossAt_13 : decode cX8_glossAt 13 = .ok (.aload_n 0, 1) := by decide +kernel
theorem dX8_glossAt_14 : decode cX8_glossAt 14 = .ok (.getfield 33, 3) := by decide +kernel
theorem dX8_glossAt_17 : decode cX8_glossAt 17 = .ok (.iload_n 1, 1) := by decide +kernel
theorem dX8_glossAt_18 : decode cX8_glossAt 18 = .ok (.invokevirtual 173, 3) := by decide +kernel
theorem dX8_glossAt_21 : decode cX8_glossAt 21 = .ok (.invokevirtual 176, 3) := by decide +kernel
theorem dX8_glossAt_24 : decode cX8_glossAt 24 = .ok (.ireturn, 1) := by decide +kernel
theorem dX8_placesAt_0 : decode cX8_placesAt 0 = .ok (.aload_n 0, 1) := by decide +kernel
theorem dX8_placesAt_1 : decode cX8_placesAt 1 = .ok (.iload_n 1, 1) := by decide +kernel
theorem dX8_placesAt_2 : decode cX8_placesAt 2 = .ok (.invokevirtual 167, 3) := by decide +kernel
theorem dX8_placesAt_5 : decode cX8_placesAt 5 = .ok (.aload_n 0, 1) := by decide +kernel
theorem dX8_placesAt_6 : decode cX8_placesAt 6 = .ok (.invokevirtual 170, 3) := by decide +kernel
theorem dX8_placesAt_9 : decode cX8_placesAt 9 = .ok (.aload_n 0, 1) := by decide +kernel
theorem dX8_placesAt_10 : decode cX8_placesAt 10 = .ok (.getfield 26, 3) := by decide +kernel
theorem dX8_placesAt_13 : decode cX8_placesAt 13 = .ok (.aload_n 0, 1) := by decide +kernel
theorem dX8_placesAt_14 : decode cX8_placesAt 14 = .ok (.getfield 33, 3) := by decide +kernel
theorem dX8_placesAt_17 : decode cX8_placesAt 17 = .ok (.iload_n 1, 1) := by decide +kernel
theorem dX8_placesAt_18 : decode cX8_placesAt 18 = .ok (.invokevirtual 173, 3) := by decide +kernel
theorem dX8_placesAt_21 : decode cX8_placesAt 21 = .ok (.invokevirtual 179, 3) := by decide +kernel
theorem dX8_placesAt_24 : decode cX8_placesAt 24 = .ok (.ireturn, 1) := by decide +kernel
theorem dX8_newEntries_0 : decode cX8_newEntries 0 = .ok (.iload_n 1, 1) := by decide +kernel
theorem dX8_newEntries_1 : decode cX8_newEntries 1 = .ok (.invokestatic 182, 3) := by decide +kernel
theorem dX8_newEntries_4 : decode cX8_newEntries 4 = .ok (.aload_n 0, 1) := by decide +kernel
theorem dX8_newEntries_5 : decode cX8_newEntries 5 = .ok (.invokevirtual 170, 3) := by decide +kernel
theorem dX8_newEntries_8 : decode cX8_newEntries 8 = .ok (.iconst 0, 1) := by decide +kernel
theorem dX8_newEntries_9 : decode cX8_newEntries 9 = .ok (.istore_n 2, 1) := by decide +kernel
theorem dX8_newEntries_10 : decode cX8_newEntries 10 = .ok (.iconst 0, 1) := by decide +kernel
theorem dX8_newEntries_11 : decode cX8_newEntries 11 = .ok (.istore_n 3, 1) := by decide +kernel
theorem dX8_newEntries_12 : decode cX8_newEntries 12 = .ok (.iload_n 3, 1) := by decide +kernel
theorem dX8_newEntries_13 : decode cX8_newEntries 13 = .ok (.bipush 8, 2) := by decide +kernel
theorem dX8_newEntries_15 : decode cX8_newEntries 15 = .ok (.if_icmp .ge 32, 3) := by decide +kernel
theorem dX8_newEntries_18 : decode cX8_newEntries 18 = .ok (.aload_n 0, 1) := by decide +kernel
theorem dX8_newEntries_19 : decode cX8_newEntries 19 = .ok (.iload_n 3, 1) := by decide +kernel
theorem dX8_newEntries_20 : decode cX8_newEntries 20 = .ok (.invokevirtual 185, 3) := by decide +kernel
theorem dX8_newEntries_23 : decode cX8_newEntries 23 = .ok (.ifCond .eq 18, 3) := by decide +kernel
theorem dX8_newEntries_26 : decode cX8_newEntries 26 = .ok (.aload_n 0, 1) := by decide +kernel
theorem dX8_newEntries_27 : decode cX8_newEntries 27 = .ok (.getfield 40, 3) := by decide +kernel
theorem dX8_newEntries_30 : decode cX8_newEntries 30 = .ok (.iload_n 1, 1) := by decide +kernel
theorem dX8_newEntries_31 : decode cX8_newEntries 31 = .ok (.iload_n 3, 1) := by decide +kernel
theorem dX8_newEntries_32 : decode cX8_newEntries 32 = .ok (.invokevirtual 128, 3) := by decide +kernel
theorem dX8_newEntries_35 : decode cX8_newEntries 35 = .ok (.ifCond .ne 6, 3) := by decide +kernel
theorem dX8_newEntries_38 : decode cX8_newEntries 38 = .ok (.iinc 2 1, 3) := by decide +kernel
theorem dX8_newEntries_41 : decode cX8_newEntries 41 = .ok (.iinc 3 1, 3) := by decide +kernel
theorem dX8_newEntries_44 : decode cX8_newEntries 44 = .ok (.goto (-32), 3) := by decide +kernel
theorem dX8_newEntries_47 : decode cX8_newEntries 47 = .ok (.iload_n 2, 1) := by decide +kernel
theorem dX8_newEntries_48 : decode cX8_newEntries 48 = .ok (.ireturn, 1) := by decide +kernel
theorem dX8_learn_0 : decode cX8_learn 0 = .ok (.iload_n 1, 1) := by decide +kernel
theorem dX8_learn_1 : decode cX8_learn 1 = .ok (.invokestatic 182, 3) := by decide +kernel
theorem dX8_learn_4 : decode cX8_learn 4 = .ok (.aload_n 0, 1) := by decide +kernel
theorem dX8_learn_5 : decode cX8_learn 5 = .ok (.iload_n 2, 1) := by decide +kernel
theorem dX8_learn_6 : decode cX8_learn 6 = .ok (.invokevirtual 125, 3) := by decide +kernel
theorem dX8_learn_9 : decode cX8_learn 9 = .ok (.aload_n 0, 1) := by decide +kernel
theorem dX8_learn_10 : decode cX8_learn 10 = .ok (.getfield 40, 3) := by decide +kernel
theorem dX8_learn_13 : decode cX8_learn 13 = .ok (.iload_n 1, 1) := by decide +kernel
theorem dX8_learn_14 : decode cX8_learn 14 = .ok (.iload_n 2, 1) := by decide +kernel
theorem dX8_learn_15 : decode cX8_learn 15 = .ok (.invokevirtual 128, 3) := by decide +kernel
theorem dX8_learn_18 : decode cX8_learn 18 = .ok (.ifCond .eq 13, 3) := by decide +kernel
theorem dX8_learn_21 : decode cX8_learn 21 = .ok (.new 69, 3) := by decide +kernel
theorem dX8_learn_24 : decode cX8_learn 24 = .ok (.dup, 1) := by decide +kernel
theorem dX8_learn_25 : decode cX8_learn 25 = .ok (.ldc 189, 2) := by decide +kernel
theorem dX8_learn_27 : decode cX8_learn 27 = .ok (.invokespecial 73, 3) := by decide +kernel
theorem dX8_learn_30 : decode cX8_learn 30 = .ok (.athrow, 1) := by decide +kernel
theorem dX8_learn_31 : decode cX8_learn 31 = .ok (.aload_n 0, 1) := by decide +kernel
theorem dX8_learn_32 : decode cX8_learn 32 = .ok (.getfield 40, 3) := by decide +kernel
theorem dX8_learn_35 : decode cX8_learn 35 = .ok (.iload_n 1, 1) := by decide +kernel
theorem dX8_learn_36 : decode cX8_learn 36 = .ok (.iload_n 2, 1) := by decide +kernel
theorem dX8_learn_37 : decode cX8_learn 37 = .ok (.iconst 1, 1) := by decide +kernel
theorem dX8_learn_38 : decode cX8_learn 38 = .ok (.aload_n 0, 1) := by decide +kernel
theorem dX8_learn_39 : decode cX8_learn 39 = .ok (.getfield 191, 3) := by decide +kernel
theorem dX8_learn_42 : decode cX8_learn 42 = .ok (.invokevirtual 194, 3) := by decide +kernel
theorem dX8_learn_45 : decode cX8_learn 45 = .ok (.aload_n 0, 1) := by decide +kernel
theorem dX8_learn_46 : decode cX8_learn 46 = .ok (.getfield 40, 3) := by decide +kernel
theorem dX8_learn_49 : decode cX8_learn 49 = .ok (.iload_n 1, 1) := by decide +kernel
theorem dX8_learn_50 : decode cX8_learn 50 = .ok (.invokevirtual 196, 3) := by decide +kernel
theorem dX8_learn_53 : decode cX8_learn 53 = .ok (.ireturn, 1) := by decide +kernel
theorem dX8_review_0 : decode cX8_review 0 = .ok (.iload_n 1, 1) := by decide +kernel
theorem dX8_review_1 : decode cX8_review 1 = .ok (.invokestatic 182, 3) := by decide +kernel
theorem dX8_review_4 : decode cX8_review 4 = .ok (.aload_n 0, 1) := by decide +kernel
theorem dX8_review_5 : decode cX8_review 5 = .ok (.iload_n 2, 1) := by decide +kernel
theorem dX8_review_6 : decode cX8_review 6 = .ok (.invokevirtual 125, 3) := by decide +kernel
theorem dX8_review_9 : decode cX8_review 9 = .ok (.aload_n 0, 1) := by decide +kernel
theorem dX8_review_10 : decode cX8_review 10 = .ok (.getfield 40, 3) := by decide +kernel
theorem dX8_review_13 : decode cX8_review 13 = .ok (.iload_n 1, 1) := by decide +kernel
theorem dX8_review_14 : decode cX8_review 14 = .ok (.iload_n 2, 1) := by decide +kernel
theorem dX8_review_15 : decode cX8_review 15 = .ok (.aload_n 0, 1) := by decide +kernel
theorem dX8_review_16 : decode cX8_review 16 = .ok (.getfield 191, 3) := by decide +kernel
theorem dX8_review_19 : decode cX8_review 19 = .ok (.invokevirtual 199, 3) := by decide +kernel
theorem dX8_review_22 : decode cX8_review 22 = .ok (.ifCond .ne 13, 3) := by decide +kernel
theorem dX8_review_25 : decode cX8_review 25 = .ok (.new 69, 3) := by decide +kernel
theorem dX8_review_28 : decode cX8_review 28 = .ok (.dup, 1) := by decide +kernel
theorem dX8_review_29 : decode cX8_review 29 = .ok (.ldc 203, 2) := by decide +kernel
theorem dX8_review_31 : decode cX8_review 31 = .ok (.invokespecial 73, 3) := by decide +kernel
theorem dX8_review_34 : decode cX8_review 34 = .ok (.athrow, 1) := by decide +kernel
theorem dX8_review_35 : decode cX8_review 35 = .ok (.iconst 2, 1) := by decide +kernel
theorem dX8_review_36 : decode cX8_review 36 = .ok (.aload_n 0, 1) := by decide +kernel
theorem dX8_review_37 : decode cX8_review 37 = .ok (.getfield 40, 3) := by decide +kernel
theorem dX8_review_40 : decode cX8_review 40 = .ok (.iload_n 1, 1) := by decide +kernel
theorem dX8_review_41 : decode cX8_review 41 = .ok (.iload_n 2, 1) := by decide +kernel
theorem dX8_review_42 : decode cX8_review 42 = .ok (.invokevirtual 205, 3) := by decide +kernel
theorem dX8_review_45 : decode cX8_review 45 = .ok (.imul, 1) := by decide +kernel
theorem dX8_review_46 : decode cX8_review 46 = .ok (.bipush 64, 2) := by decide +kernel
theorem dX8_review_48 : decode cX8_review 48 = .ok (.invokestatic 208, 3) := by decide +kernel
theorem dX8_review_51 : decode cX8_review 51 = .ok (.istore 4, 2) := by decide +kernel
theorem dX8_review_53 : decode cX8_review 53 = .ok (.iload_n 3, 1) := by decide +kernel
theorem dX8_review_54 : decode cX8_review 54 = .ok (.ifCond .eq 8, 3) := by decide +kernel
theorem dX8_review_57 : decode cX8_review 57 = .ok (.iload 4, 2) := by decide +kernel
theorem dX8_review_59 : decode cX8_review 59 = .ok (.goto 4, 3) := by decide +kernel
theorem dX8_review_62 : decode cX8_review 62 = .ok (.iconst 1, 1) := by decide +kernel
theorem dX8_review_63 : decode cX8_review 63 = .ok (.istore 5, 2) := by decide +kernel
theorem dX8_review_65 : decode cX8_review 65 = .ok (.aload_n 0, 1) := by decide +kernel
theorem dX8_review_66 : decode cX8_review 66 = .ok (.getfield 40, 3) := by decide +kernel
theorem dX8_review_69 : decode cX8_review 69 = .ok (.iload_n 1, 1) := by decide +kernel
theorem dX8_review_70 : decode cX8_review 70 = .ok (.iload_n 2, 1) := by decide +kernel
theorem dX8_review_71 : decode cX8_review 71 = .ok (.iload 5, 2) := by decide +kernel
theorem dX8_review_73 : decode cX8_review 73 = .ok (.aload_n 0, 1) := by decide +kernel
theorem dX8_review_74 : decode cX8_review 74 = .ok (.getfield 191, 3) := by decide +kernel
theorem dX8_review_77 : decode cX8_review 77 = .ok (.invokevirtual 194, 3) := by decide +kernel
theorem dX8_review_80 : decode cX8_review 80 = .ok (.iload 5, 2) := by decide +kernel
theorem dX8_review_82 : decode cX8_review 82 = .ok (.ireturn, 1) := by decide +kernel
theorem dX8_knows_0 : decode cX8_knows 0 = .ok (.iload_n 1, 1) := by decide +kernel
theorem dX8_knows_1 : decode cX8_knows 1 = .ok (.invokestatic 182, 3) := by decide +kernel
theorem dX8_knows_4 : decode cX8_knows 4 = .ok (.aload_n 0, 1) := by decide +kernel
theorem dX8_knows_5 : decode cX8_knows 5 = .ok (.iload_n 2, 1) := by decide +kernel
theorem dX8_knows_6 : decode cX8_knows 6 = .ok (.invokevirtual 125, 3) := by decide +kernel
theorem dX8_knows_9 : decode cX8_knows 9 = .ok (.aload_n 0, 1) := by decide +kernel
theorem dX8_knows_10 : decode cX8_knows 10 = .ok (.getfield 40, 3) := by decide +kernel
theorem dX8_knows_13 : decode cX8_knows 13 = .ok (.iload_n 1, 1) := by decide +kernel
theorem dX8_knows_14 : decode cX8_knows 14 = .ok (.iload_n 2, 1) := by decide +kernel
theorem dX8_knows_15 : decode cX8_knows 15 = .ok (.invokevirtual 205, 3) := by decide +kernel
theorem dX8_knows_18 : decode cX8_knows 18 = .ok (.bipush 8, 2) := by decide +kernel
theorem dX8_knows_20 : decode cX8_knows 20 = .ok (.if_icmp .lt 7, 3) := by decide +kernel
theorem dX8_knows_23 : decode cX8_knows 23 = .ok (.iconst 1, 1) := by decide +kernel
theorem dX8_knows_24 : decode cX8_knows 24 = .ok (.goto 4, 3) := by decide +kernel
theorem dX8_knows_27 : decode cX8_knows 27 = .ok (.iconst 0, 1) := by decide +kernel
theorem dX8_knows_28 : decode cX8_knows 28 = .ok (.ireturn, 1) := by decide +kernel
theorem dX8_due_0 : decode cX8_due 0 = .ok (.iload_n 1, 1) := by decide +kernel
theorem dX8_due_1 : decode cX8_due 1 = .ok (.invokestatic 182, 3) := by decide +kernel
theorem dX8_due_4 : decode cX8_due 4 = .ok (.iconst 0, 1) := by decide +kernel
theorem dX8_due_5 : decode cX8_due 5 = .ok (.istore_n 2, 1) := by decide +kernel
theorem dX8_due_6 : decode cX8_due 6 = .ok (.iconst 0, 1) := by decide +kernel
theorem dX8_due_7 : decode cX8_due 7 = .ok (.istore_n 3, 1) := by decide +kernel
theorem dX8_due_8 : decode cX8_due 8 = .ok (.iload_n 3, 1) := by decide +kernel
theorem dX8_due_9 : decode cX8_due 9 = .ok (.bipush 8, 2) := by decide +kernel
theorem dX8_due_11 : decode cX8_due 11 = .ok (.if_icmp .ge 28, 3) := by decide +kernel
theorem dX8_due_14 : decode cX8_due 14 = .ok (.aload_n 0, 1) := by decide +kernel
theorem dX8_due_15 : decode cX8_due 15 = .ok (.getfield 40, 3) := by decide +kernel
theorem dX8_due_18 : decode cX8_due 18 = .ok (.iload_n 1, 1) := by decide +kernel
theorem dX8_due_19 : decode cX8_due 19 = .ok (.iload_n 3, 1) := by decide +kernel
theorem dX8_due_20 : decode cX8_due 20 = .ok (.aload_n 0, 1) := by decide +kernel
theorem dX8_due_21 : decode cX8_due 21 = .ok (.getfield 191, 3) := by decide +kernel
theorem dX8_due_24 : decode cX8_due 24 = .ok (.invokevirtual 199, 3) := by decide +kernel
theorem dX8_due_27 : decode cX8_due 27 = .ok (.ifCond .eq 6, 3) := by decide +kernel
theorem dX8_due_30 : decode cX8_due 30 = .ok (.iinc 2 1, 3) := by decide +kernel
theorem dX8_due_33 : decode cX8_due 33 = .ok (.iinc 3 1, 3) := by decide +kernel
theorem dX8_due_36 : decode cX8_due 36 = .ok (.goto (-28), 3) := by decide +kernel
theorem dX8_due_39 : decode cX8_due 39 = .ok (.iload_n 2, 1) := by decide +kernel
theorem dX8_due_40 : decode cX8_due 40 = .ok (.ireturn, 1) := by decide +kernel
theorem dX8_nextDue_0 : decode cX8_nextDue 0 = .ok (.iload_n 1, 1) := by decide +kernel
theorem dX8_nextDue_1 : decode cX8_nextDue 1 = .ok (.invokestatic 182, 3) := by decide +kernel
theorem dX8_nextDue_4 : decode cX8_nextDue 4 = .ok (.aload_n 0, 1) := by decide +kernel
theorem dX8_nextDue_5 : decode cX8_nextDue 5 = .ok (.getfield 40, 3) := by decide +kernel
theorem dX8_nextDue_8 : decode cX8_nextDue 8 = .ok (.iload_n 1, 1) := by decide +kernel
theorem dX8_nextDue_9 : decode cX8_nextDue 9 = .ok (.invokevirtual 213, 3) := by decide +kernel
theorem dX8_nextDue_12 : decode cX8_nextDue 12 = .ok (.ireturn, 1) := by decide +kernel
theorem dX8_pass_0 : decode cX8_pass 0 = .ok (.iload_n 1, 1) := by decide +kernel
theorem dX8_pass_1 : decode cX8_pass 1 = .ok (.iconst 1, 1) := by decide +kernel
theorem dX8_pass_2 : decode cX8_pass 2 = .ok (.if_icmp .lt 9, 3) := by decide +kernel
theorem dX8_pass_5 : decode cX8_pass 5 = .ok (.iload_n 1, 1) := by decide +kernel
theorem dX8_pass_6 : decode cX8_pass 6 = .ok (.bipush 100, 2) := by decide +kernel
theorem dX8_pass_8 : decode cX8_pass 8 = .ok (.if_icmp .le 13, 3) := by decide +kernel
theorem dX8_pass_11 : decode cX8_pass 11 = .ok (.new 58, 3) := by decide +kernel
theorem dX8_pass_14 : decode cX8_pass 14 = .ok (.dup, 1) := by decide +kernel
theorem dX8_pass_15 : decode cX8_pass 15 = .ok (.ldc 216, 2) := by decide +kernel
theorem dX8_pass_17 : decode cX8_pass 17 = .ok (.invokespecial 62, 3) := by decide +kernel
theorem dX8_pass_20 : decode cX8_pass 20 = .ok (.athrow, 1) := by decide +kernel
theorem dX8_pass_21 : decode cX8_pass 21 = .ok (.aload_n 0, 1) := by decide +kernel
theorem dX8_pass_22 : decode cX8_pass 22 = .ok (.dup, 1) := by decide +kernel
theorem dX8_pass_23 : decode cX8_pass 23 = .ok (.getfield 191, 3) := by decide +kernel
theorem dX8_pass_26 : decode cX8_pass 26 = .ok (.iload_n 1, 1) := by decide +kernel
theorem dX8_pass_27 : decode cX8_pass 27 = .ok (.iadd, 1) := by decide +kernel
theorem dX8_pass_28 : decode cX8_pass 28 = .ok (.putfield 191, 3) := by decide +kernel
theorem dX8_pass_31 : decode cX8_pass 31 = .ok (.aload_n 0, 1) := by decide +kernel
theorem dX8_pass_32 : decode cX8_pass 32 = .ok (.getfield 191, 3) := by decide +kernel
theorem dX8_pass_35 : decode cX8_pass 35 = .ok (.ireturn, 1) := by decide +kernel
theorem dX8_needWord_0 : decode cX8_needWord 0 = .ok (.iload_n 0, 1) := by decide +kernel
theorem dX8_needWord_1 : decode cX8_needWord 1 = .ok (.ifCond .lt 9, 3) := by decide +kernel
theorem dX8_needWord_4 : decode cX8_needWord 4 = .ok (.iload_n 0, 1) := by decide +kernel
theorem dX8_needWord_5 : decode cX8_needWord 5 = .ok (.bipush 100, 2) := by decide +kernel
theorem dX8_needWord_7 : decode cX8_needWord 7 = .ok (.if_icmp .lt 13, 3) := by decide +kernel
theorem dX8_needWord_10 : decode cX8_needWord 10 = .ok (.new 218, 3) := by decide +kernel
theorem dX8_needWord_13 : decode cX8_needWord 13 = .ok (.dup, 1) := by decide +kernel
theorem dX8_needWord_14 : decode cX8_needWord 14 = .ok (.ldc 220, 2) := by decide +kernel
theorem dX8_needWord_16 : decode cX8_needWord 16 = .ok (.invokespecial 222, 3) := by decide +kernel
theorem dX8_needWord_19 : decode cX8_needWord 19 = .ok (.athrow, 1) := by decide +kernel
theorem dX8_needWord_20 : decode cX8_needWord 20 = .ok (.return_, 1) := by decide +kernel
theorem dX8_needCost_0 : decode cX8_needCost 0 = .ok (.iload_n 0, 1) := by decide +kernel
theorem dX8_needCost_1 : decode cX8_needCost 1 = .ok (.iconst 1, 1) := by decide +kernel
theorem dX8_needCost_2 : decode cX8_needCost 2 = .ok (.if_icmp .lt 9, 3) := by decide +kernel
theorem dX8_needCost_5 : decode cX8_needCost 5 = .ok (.iload_n 0, 1) := by decide +kernel
theorem dX8_needCost_6 : decode cX8_needCost 6 = .ok (.bipush 20, 2) := by decide +kernel
theorem dX8_needCost_8 : decode cX8_needCost 8 = .ok (.if_icmp .le 13, 3) := by decide +kernel
theorem dX8_needCost_11 : decode cX8_needCost 11 = .ok (.new 58, 3) := by decide +kernel
theorem dX8_needCost_14 : decode cX8_needCost 14 = .ok (.dup, 1) := by decide +kernel
theorem dX8_needCost_15 : decode cX8_needCost 15 = .ok (.ldc 145, 2) := by decide +kernel
theorem dX8_needCost_17 : decode cX8_needCost 17 = .ok (.invokespecial 62, 3) := by decide +kernel
theorem dX8_needCost_20 : decode cX8_needCost 20 = .ok (.athrow, 1) := by decide +kernel
theorem dX8_needCost_21 : decode cX8_needCost 21 = .ok (.return_, 1) := by decide +kernel
theorem dX8_needReader_0 : decode cX8_needReader 0 = .ok (.iload_n 0, 1) := by decide +kernel
theorem dX8_needReader_1 : decode cX8_needReader 1 = .ok (.ifCond .lt 8, 3) := by decide +kernel
theorem dX8_needReader_4 : decode cX8_needReader 4 = .ok (.iload_n 0, 1) := by decide +kernel
theorem dX8_needReader_5 : decode cX8_needReader 5 = .ok (.iconst 3, 1) := by decide +kernel
theorem dX8_needReader_6 : decode cX8_needReader 6 = .ok (.if_icmp .lt 13, 3) := by decide +kernel
theorem dX8_needReader_9 : decode cX8_needReader 9 = .ok (.new 218, 3) := by decide +kernel
theorem dX8_needReader_12 : decode cX8_needReader 12 = .ok (.dup, 1) := by decide +kernel
theorem dX8_needReader_13 : decode cX8_needReader 13 = .ok (.ldc 223, 2) := by decide +kernel
theorem dX8_needReader_15 : decode cX8_needReader 15 = .ok (.invokespecial 222, 3) := by decide +kernel
theorem dX8_needReader_18 : decode cX8_needReader 18 = .ok (.athrow, 1) := by decide +kernel
theorem dX8_needReader_19 : decode cX8_needReader 19 = .ok (.return_, 1) := by decide +kernel
theorem dX8_needEntry_0 : decode cX8_needEntry 0 = .ok (.iload_n 1, 1) := by decide +kernel
theorem dX8_needEntry_1 : decode cX8_needEntry 1 = .ok (.ifCond .lt 21, 3) := by decide +kernel
theorem dX8_needEntry_4 : decode cX8_needEntry 4 = .ok (.iload_n 1, 1) := by decide +kernel
theorem dX8_needEntry_5 : decode cX8_needEntry 5 = .ok (.aload_n 0, 1) := by decide +kernel
theorem dX8_needEntry_6 : decode cX8_needEntry 6 = .ok (.getfield 46, 3) := by decide +kernel
theorem dX8_needEntry_9 : decode cX8_needEntry 9 = .ok (.arraylength, 1) := by decide +kernel
theorem dX8_needEntry_10 : decode cX8_needEntry 10 = .ok (.if_icmp .ge 12, 3) := by decide +kernel
theorem dX8_needEntry_13 : decode cX8_needEntry 13 = .ok (.aload_n 0, 1) := by decide +kernel
theorem dX8_needEntry_14 : decode cX8_needEntry 14 = .ok (.getfield 46, 3) := by decide +kernel
theorem dX8_needEntry_17 : decode cX8_needEntry 17 = .ok (.iload_n 1, 1) := by decide +kernel
theorem dX8_needEntry_18 : decode cX8_needEntry 18 = .ok (.aaload, 1) := by decide +kernel
theorem dX8_needEntry_19 : decode cX8_needEntry 19 = .ok (.ifnonnull 13, 3) := by decide +kernel
theorem dX8_needEntry_22 : decode cX8_needEntry 22 = .ok (.new 225, 3) := by decide +kernel
theorem dX8_needEntry_25 : decode cX8_needEntry 25 = .ok (.dup, 1) := by decide +kernel
theorem dX8_needEntry_26 : decode cX8_needEntry 26 = .ok (.ldc 227, 2) := by decide +kernel
theorem dX8_needEntry_28 : decode cX8_needEntry 28 = .ok (.invokespecial 229, 3) := by decide +kernel
theorem dX8_needEntry_31 : decode cX8_needEntry 31 = .ok (.athrow, 1) := by decide +kernel
theorem dX8_needEntry_32 : decode cX8_needEntry 32 = .ok (.return_, 1) := by decide +kernel
theorem dX8_needRoomForEntry_0 : decode cX8_needRoomForEntry 0 = .ok (.aload_n 0, 1) := by decide +kernel
theorem dX8_needRoomForEntry_1 : decode cX8_needRoomForEntry 1 = .ok (.getfield 230, 3) := by decide +kernel
theorem dX8_needRoomForEntry_4 : decode cX8_needRoomForEntry 4 = .ok (.aload_n 0, 1) := by decide +kernel
theorem dX8_needRoomForEntry_5 : decode cX8_needRoomForEntry 5 = .ok (.getfield 46, 3) := by decide +kernel
theorem dX8_needRoomForEntry_8 : decode cX8_needRoomForEntry 8 = .ok (.arraylength, 1) := by decide +kernel
theorem dX8_needRoomForEntry_9 : decode cX8_needRoomForEntry 9 = .ok (.if_icmp .lt 13, 3) := by decide +kernel
theorem dX8_needRoomForEntry_12 : decode cX8_needRoomForEntry 12 = .ok (.new 69, 3) := by decide +kernel
theorem dX8_needRoomForEntry_15 : decode cX8_needRoomForEntry 15 = .ok (.dup, 1) := by decide +kernel
theorem dX8_needRoomForEntry_16 : decode cX8_needRoomForEntry 16 = .ok (.ldc 233, 2) := by decide +kernel
theorem dX8_needRoomForEntry_18 : decode cX8_needRoomForEntry 18 = .ok (.invokespecial 73, 3) := by decide +kernel
theorem dX8_needRoomForEntry_21 : decode cX8_needRoomForEntry 21 = .ok (.athrow, 1) := by decide +kernel
theorem dX8_needRoomForEntry_22 : decode cX8_needRoomForEntry 22 = .ok (.return_, 1) := by decide +kernel
theorem dX8_needPlace_0 : decode cX8_needPlace 0 = .ok (.aload_n 0, 1) := by decide +kernel
theorem dX8_needPlace_1 : decode cX8_needPlace 1 = .ok (.getfield 19, 3) := by decide +kernel
theorem dX8_needPlace_4 : decode cX8_needPlace 4 = .ok (.iload_n 1, 1) := by decide +kernel
theorem dX8_needPlace_5 : decode cX8_needPlace 5 = .ok (.invokevirtual 235, 3) := by decide +kernel
theorem dX8_needPlace_8 : decode cX8_needPlace 8 = .ok (.ifCond .ne 13, 3) := by decide +kernel
theorem dX8_needPlace_11 : decode cX8_needPlace 11 = .ok (.new 218, 3) := by decide +kernel
theorem dX8_needPlace_14 : decode cX8_needPlace 14 = .ok (.dup, 1) := by decide +kernel
theorem dX8_needPlace_15 : decode cX8_needPlace 15 = .ok (.ldc 238, 2) := by decide +kernel
theorem dX8_needPlace_17 : decode cX8_needPlace 17 = .ok (.invokespecial 222, 3) := by decide +kernel
theorem dX8_needPlace_20 : decode cX8_needPlace 20 = .ok (.athrow, 1) := by decide +kernel
theorem dX8_needPlace_21 : decode cX8_needPlace 21 = .ok (.return_, 1) := by decide +kernel
theorem dX8_keep_0 : decode cX8_keep 0 = .ok (.aload_n 0, 1) := by decide +kernel
theorem dX8_keep_1 : decode cX8_keep 1 = .ok (.getfield 230, 3) := by decide +kernel
theorem dX8_keep_4 : decode cX8_keep 4 = .ok (.istore_n 2, 1) := by decide +kernel
theorem dX8_keep_5 : decode cX8_keep 5 = .ok (.iload_n 2, 1) := by decide +kernel
theorem dX8_keep_6 : decode cX8_keep 6 = .ok (.aload_n 0, 1) := by decide +kernel
theorem dX8_keep_7 : decode cX8_keep 7 = .ok (.getfield 46, 3) := by decide +kernel
theorem dX8_keep_10 : decode cX8_keep 10 = .ok (.arraylength, 1) := by decide +kernel
theorem dX8_keep_11 : decode cX8_keep 11 = .ok (.if_icmp .ge 20, 3) := by decide +kernel
theorem dX8_keep_14 : decode cX8_keep 14 = .ok (.aload_n 0, 1) := by decide +kernel
theorem dX8_keep_15 : decode cX8_keep 15 = .ok (.getfield 46, 3) := by decide +kernel
theorem dX8_keep_18 : decode cX8_keep 18 = .ok (.iload_n 2, 1) := by decide +kernel
theorem dX8_keep_19 : decode cX8_keep 19 = .ok (.aload_n 1, 1) := by decide +kernel
theorem dX8_keep_20 : decode cX8_keep 20 = .ok (.aastore, 1) := by decide +kernel
theorem dX8_keep_21 : decode cX8_keep 21 = .ok (.aload_n 0, 1) := by decide +kernel
theorem dX8_keep_22 : decode cX8_keep 22 = .ok (.dup, 1) := by decide +kernel
theorem dX8_keep_23 : decode cX8_keep 23 = .ok (.getfield 230, 3) := by decide +kernel
theorem dX8_keep_26 : decode cX8_keep 26 = .ok (.iconst 1, 1) := by decide +kernel
theorem dX8_keep_27 : decode cX8_keep 27 = .ok (.iadd, 1) := by decide +kernel
theorem dX8_keep_28 : decode cX8_keep 28 = .ok (.putfield 230, 3) := by decide +kernel
theorem dX8_keep_31 : decode cX8_keep 31 = .ok (.iload_n 2, 1) := by decide +kernel
theorem dX8_keep_32 : decode cX8_keep 32 = .ok (.ireturn, 1) := by decide +kernel
theorem dX8_findStandings_0 : decode cX8_findStandings 0 = .ok (.aload_n 0, 1) := by decide +kernel
theorem dX8_findStandings_1 : decode cX8_findStandings 1 = .ok (.getfield 26, 3) := by decide +kernel
theorem dX8_findStandings_4 : decode cX8_findStandings 4 = .ok (.invokevirtual 240, 3) := by decide +kernel
theorem dX8_findStandings_7 : decode cX8_findStandings 7 = .ok (.iconst 0, 1) := by decide +kernel
theorem dX8_findStandings_8 : decode cX8_findStandings 8 = .ok (.istore_n 1, 1) := by decide +kernel
theorem dX8_findStandings_9 : decode cX8_findStandings 9 = .ok (.iload_n 1, 1) := by decide +kernel
theorem dX8_findStandings_10 : decode cX8_findStandings 10 = .ok (.aload_n 0, 1) := by decide +kernel
theorem dX8_findStandings_11 : decode cX8_findStandings 11 = .ok (.getfield 46, 3) := by decide +kernel
theorem dX8_findStandings_14 : decode cX8_findStandings 14 = .ok (.arraylength, 1) := by decide +kernel
theorem dX8_findStandings_15 : decode cX8_findStandings 15 = .ok (.if_icmp .ge 37, 3) := by decide +kernel
theorem dX8_findStandings_18 : decode cX8_findStandings 18 = .ok (.aload_n 0, 1) := by decide +kernel
theorem dX8_findStandings_19 : decode cX8_findStandings 19 = .ok (.getfield 46, 3) := by decide +kernel
theorem dX8_findStandings_22 : decode cX8_findStandings 22 = .ok (.iload_n 1, 1) := by decide +kernel
theorem dX8_findStandings_23 : decode cX8_findStandings 23 = .ok (.aaload, 1) := by decide +kernel
theorem dX8_findStandings_24 : decode cX8_findStandings 24 = .ok (.astore_n 2, 1) := by decide +kernel
theorem dX8_findStandings_25 : decode cX8_findStandings 25 = .ok (.aload_n 2, 1) := by decide +kernel
theorem dX8_findStandings_26 : decode cX8_findStandings 26 = .ok (.ifnull 20, 3) := by decide +kernel
theorem dX8_findStandings_29 : decode cX8_findStandings 29 = .ok (.aload_n 2, 1) := by decide +kernel
theorem dX8_findStandings_30 : decode cX8_findStandings 30 = .ok (.iload_n 1, 1) := by decide +kernel
theorem dX8_findStandings_31 : decode cX8_findStandings 31 = .ok (.aload_n 0, 1) := by decide +kernel
theorem dX8_findStandings_32 : decode cX8_findStandings 32 = .ok (.getfield 12, 3) := by decide +kernel
theorem dX8_findStandings_35 : decode cX8_findStandings 35 = .ok (.aload_n 0, 1) := by decide +kernel
theorem dX8_findStandings_36 : decode cX8_findStandings 36 = .ok (.getfield 19, 3) := by decide +kernel
theorem dX8_findStandings_39 : decode cX8_findStandings 39 = .ok (.aload_n 0, 1) := by decide +kernel
theorem dX8_findStandings_40 : decode cX8_findStandings 40 = .ok (.getfield 26, 3) := by decide +kernel
theorem dX8_findStandings_43 : decode cX8_findStandings 43 = .ok (.invokevirtual 242, 3) := by decide +kernel
theorem dX8_findStandings_46 : decode cX8_findStandings 46 = .ok (.iinc 1 1, 3) := by decide +kernel
theorem dX8_findStandings_49 : decode cX8_findStandings 49 = .ok (.goto (-40), 3) := by decide +kernel
theorem dX8_findStandings_52 : decode cX8_findStandings 52 = .ok (.return_, 1) := by decide +kernel
theorem dX8_chooseCover_0 : decode cX8_chooseCover 0 = .ok (.aload_n 0, 1) := by decide +kernel
theorem dX8_chooseCover_1 : decode cX8_chooseCover 1 = .ok (.invokevirtual 147, 3) := by decide +kernel
theorem dX8_chooseCover_4 : decode cX8_chooseCover 4 = .ok (.aload_n 0, 1) := by decide +kernel
theorem dX8_chooseCover_5 : decode cX8_chooseCover 5 = .ok (.getfield 33, 3) := by decide +kernel
theorem dX8_chooseCover_8 : decode cX8_chooseCover 8 = .ok (.aload_n 0, 1) := by decide +kernel
theorem dX8_chooseCover_9 : decode cX8_chooseCover 9 = .ok (.getfield 26, 3) := by decide +kernel
theorem dX8_chooseCover_12 : decode cX8_chooseCover 12 = .ok (.aload_n 0, 1) := by decide +kernel
theorem dX8_chooseCover_13 : decode cX8_chooseCover 13 = .ok (.getfield 19, 3) := by decide +kernel
theorem dX8_chooseCover_16 : decode cX8_chooseCover 16 = .ok (.getfield 153, 3) := by decide +kernel
theorem dX8_chooseCover_19 : decode cX8_chooseCover 19 = .ok (.aload_n 0, 1) := by decide +kernel
theorem dX8_chooseCover_20 : decode cX8_chooseCover 20 = .ok (.getfield 54, 3) := by decide +kernel
theorem dX8_chooseCover_23 : decode cX8_chooseCover 23 = .ok (.invokevirtual 156, 3) := by decide +kernel
theorem dX8_chooseCover_26 : decode cX8_chooseCover 26 = .ok (.aload_n 0, 1) := by decide +kernel
theorem dX8_chooseCover_27 : decode cX8_chooseCover 27 = .ok (.getfield 33, 3) := by decide +kernel
theorem dX8_chooseCover_30 : decode cX8_chooseCover 30 = .ok (.aload_n 0, 1) := by decide +kernel
theorem dX8_chooseCover_31 : decode cX8_chooseCover 31 = .ok (.getfield 26, 3) := by decide +kernel
theorem dX8_chooseCover_34 : decode cX8_chooseCover 34 = .ok (.invokevirtual 246, 3) := by decide +kernel
theorem dX8_chooseCover_37 : decode cX8_chooseCover 37 = .ok (.return_, 1) := by decide +kernel
theorem dX8_isInCover_0 : decode cX8_isInCover 0 = .ok (.iconst 0, 1) := by decide +kernel
theorem dX8_isInCover_1 : decode cX8_isInCover 1 = .ok (.istore_n 2, 1) := by decide +kernel
theorem dX8_isInCover_2 : decode cX8_isInCover 2 = .ok (.iload_n 2, 1) := by decide +kernel
theorem dX8_isInCover_3 : decode cX8_isInCover 3 = .ok (.bipush 6, 2) := by decide +kernel
theorem dX8_isInCover_5 : decode cX8_isInCover 5 = .ok (.if_icmp .ge 30, 3) := by decide +kernel
theorem dX8_isInCover_8 : decode cX8_isInCover 8 = .ok (.aload_n 0, 1) := by decide +kernel
theorem dX8_isInCover_9 : decode cX8_isInCover 9 = .ok (.getfield 26, 3) := by decide +kernel
theorem dX8_isInCover_12 : decode cX8_isInCover 12 = .ok (.aload_n 0, 1) := by decide +kernel
theorem dX8_isInCover_13 : decode cX8_isInCover 13 = .ok (.getfield 33, 3) := by decide +kernel
theorem dX8_isInCover_16 : decode cX8_isInCover 16 = .ok (.iload_n 2, 1) := by decide +kernel
theorem dX8_isInCover_17 : decode cX8_isInCover 17 = .ok (.invokevirtual 173, 3) := by decide +kernel
theorem dX8_isInCover_20 : decode cX8_isInCover 20 = .ok (.invokevirtual 176, 3) := by decide +kernel
theorem dX8_isInCover_23 : decode cX8_isInCover 23 = .ok (.iload_n 1, 1) := by decide +kernel
theorem dX8_isInCover_24 : decode cX8_isInCover 24 = .ok (.if_icmp .ne 5, 3) := by decide +kernel
theorem dX8_isInCover_27 : decode cX8_isInCover 27 = .ok (.iconst 1, 1) := by decide +kernel
theorem dX8_isInCover_28 : decode cX8_isInCover 28 = .ok (.ireturn, 1) := by decide +kernel
theorem dX8_isInCover_29 : decode cX8_isInCover 29 = .ok (.iinc 2 1, 3) := by decide +kernel
theorem dX8_isInCover_32 : decode cX8_isInCover 32 = .ok (.goto (-30), 3) := by decide +kernel
theorem dX8_isInCover_35 : decode cX8_isInCover 35 = .ok (.iconst 0, 1) := by decide +kernel
theorem dX8_isInCover_36 : decode cX8_isInCover 36 = .ok (.ireturn, 1) := by decide +kernel
theorem dX9_init_0 : decode cX9_init 0 = .ok (.aload_n 0, 1) := by decide +kernel
theorem dX9_init_1 : decode cX9_init 1 = .ok (.invokespecial 1, 3) := by decide +kernel
theorem dX9_init_4 : decode cX9_init 4 = .ok (.aload_n 0, 1) := by decide +kernel
theorem dX9_init_5 : decode cX9_init 5 = .ok (.bipush 6, 2) := by decide +kernel
theorem dX9_init_7 : decode cX9_init 7 = .ok (.newarray .int, 2) := by decide +kernel
theorem dX9_init_9 : decode cX9_init 9 = .ok (.putfield 7, 3) := by decide +kernel
theorem dX9_init_12 : decode cX9_init 12 = .ok (.aload_n 0, 1) := by decide +kernel
theorem dX9_init_13 : decode cX9_init 13 = .ok (.bipush 6, 2) := by decide +kernel
theorem dX9_init_15 : decode cX9_init 15 = .ok (.newarray .int, 2) := by decide +kernel
theorem dX9_init_17 : decode cX9_init 17 = .ok (.putfield 13, 3) := by decide +kernel
theorem dX9_init_20 : decode cX9_init 20 = .ok (.aload_n 0, 1) := by decide +kernel
theorem dX9_init_21 : decode cX9_init 21 = .ok (.iconst 4, 1) := by decide +kernel
theorem dX9_init_22 : decode cX9_init 22 = .ok (.newarray .int, 2) := by decide +kernel
theorem dX9_init_24 : decode cX9_init 24 = .ok (.putfield 16, 3) := by decide +kernel
theorem dX9_init_27 : decode cX9_init 27 = .ok (.aload_n 0, 1) := by decide +kernel
theorem dX9_init_28 : decode cX9_init 28 = .ok (.bipush 8, 2) := by decide +kernel
theorem dX9_init_30 : decode cX9_init 30 = .ok (.newarray .boolean, 2) := by decide +kernel
theorem dX9_init_32 : decode cX9_init 32 = .ok (.putfield 19, 3) := by decide +kernel
theorem dX9_init_35 : decode cX9_init 35 = .ok (.aload_n 0, 1) := by decide +kernel
theorem dX9_init_36 : decode cX9_init 36 = .ok (.bipush 8, 2) := by decide +kernel
theorem dX9_init_38 : decode cX9_init 38 = .ok (.newarray .int, 2) := by decide +kernel
theorem dX9_init_40 : decode cX9_init 40 = .ok (.putfield 23, 3) := by decide +kernel
theorem dX9_init_43 : decode cX9_init 43 = .ok (.aload_n 0, 1) := by decide +kernel
theorem dX9_init_44 : decode cX9_init 44 = .ok (.bipush 8, 2) := by decide +kernel
theorem dX9_init_46 : decode cX9_init 46 = .ok (.newarray .int, 2) := by decide +kernel
theorem dX9_init_48 : decode cX9_init 48 = .ok (.putfield 26, 3) := by decide +kernel
theorem dX9_init_51 : decode cX9_init 51 = .ok (.aload_n 0, 1) := by decide +kernel
theorem dX9_init_52 : decode cX9_init 52 = .ok (.bipush 8, 2) := by decide +kernel
theorem dX9_init_54 : decode cX9_init 54 = .ok (.newarray .int, 2) := by decide +kernel
theorem dX9_init_56 : decode cX9_init 56 = .ok (.putfield 29, 3) := by decide +kernel
theorem dX9_init_59 : decode cX9_init 59 = .ok (.aload_n 0, 1) := by decide +kernel
theorem dX9_init_60 : decode cX9_init 60 = .ok (.bipush 32, 2) := by decide +kernel
theorem dX9_init_62 : decode cX9_init 62 = .ok (.newarray .int, 2) := by decide +kernel
theorem dX9_init_64 : decode cX9_init 64 = .ok (.putfield 32, 3) := by decide +kernel
theorem dX9_init_67 : decode cX9_init 67 = .ok (.aload_n 0, 1) := by decide +kernel
theorem dX9_init_68 : decode cX9_init 68 = .ok (.bipush 6, 2) := by decide +kernel
theorem dX9_init_70 : decode cX9_init 70 = .ok (.newarray .int, 2) := by decide +kernel
theorem dX9_init_72 : decode cX9_init 72 = .ok (.putfield 35, 3) := by decide +kernel
theorem dX9_init_75 : decode cX9_init 75 = .ok (.aload_n 0, 1) := by decide +kernel
theorem dX9_init_76 : decode cX9_init 76 = .ok (.bipush 10, 2) := by decide +kernel
theorem dX9_init_78 : decode cX9_init 78 = .ok (.putfield 38, 3) := by decide +kernel
theorem dX9_init_81 : decode cX9_init 81 = .ok (.aload_n 0, 1) := by decide +kernel
theorem dX9_init_82 : decode cX9_init 82 = .ok (.sipush 160, 3) := by decide +kernel
theorem dX9_init_85 : decode cX9_init 85 = .ok (.newarray .int, 2) := by decide +kernel
theorem dX9_init_87 : decode cX9_init 87 = .ok (.putfield 42, 3) := by decide +kernel
theorem dX9_init_90 : decode cX9_init 90 = .ok (.aload_n 0, 1) := by decide +kernel
theorem dX9_init_91 : decode cX9_init 91 = .ok (.sipush 160, 3) := by decide +kernel
theorem dX9_init_94 : decode cX9_init 94 = .ok (.newarray .int, 2) := by decide +kernel
theorem dX9_init_96 : decode cX9_init 96 = .ok (.putfield 45, 3) := by decide +kernel
theorem dX9_init_99 : decode cX9_init 99 = .ok (.aload_n 0, 1) := by decide +kernel
theorem dX9_init_100 : decode cX9_init 100 = .ok (.bipush 64, 2) := by decide +kernel
theorem dX9_init_102 : decode cX9_init 102 = .ok (.newarray .int, 2) := by decide +kernel
theorem dX9_init_104 : decode cX9_init 104 = .ok (.putfield 48, 3) := by decide +kernel
theorem dX9_init_107 : decode cX9_init 107 = .ok (.aload_n 0, 1) := by decide +kernel
theorem dX9_init_108 : decode cX9_init 108 = .ok (.bipush 6, 2) := by decide +kernel
theorem dX9_init_110 : decode cX9_init 110 = .ok (.newarray .int, 2) := by decide +kernel
theorem dX9_init_112 : decode cX9_init 112 = .ok (.putfield 51, 3) := by decide +kernel
theorem dX9_init_115 : decode cX9_init 115 = .ok (.aload_n 0, 1) := by decide +kernel
theorem dX9_init_116 : decode cX9_init 116 = .ok (.bipush 6, 2) := by decide +kernel
theorem dX9_init_118 : decode cX9_init 118 = .ok (.newarray .int, 2) := by decide +kernel
theorem dX9_init_120 : decode cX9_init 120 = .ok (.putfield 54, 3) := by decide +kernel
theorem dX9_init_123 : decode cX9_init 123 = .ok (.aload_n 0, 1) := by decide +kernel
theorem dX9_init_124 : decode cX9_init 124 = .ok (.bipush 24, 2) := by decide +kernel
theorem dX9_init_126 : decode cX9_init 126 = .ok (.newarray .int, 2) := by decide +kernel
theorem dX9_init_128 : decode cX9_init 128 = .ok (.putfield 57, 3) := by decide +kernel
theorem dX9_init_131 : decode cX9_init 131 = .ok (.aload_n 0, 1) := by decide +kernel
theorem dX9_init_132 : decode cX9_init 132 = .ok (.bipush 24, 2) := by decide +kernel
theorem dX9_init_134 : decode cX9_init 134 = .ok (.newarray .int, 2) := by decide +kernel
theorem dX9_init_136 : decode cX9_init 136 = .ok (.putfield 60, 3) := by decide +kernel
theorem dX9_init_139 : decode cX9_init 139 = .ok (.aload_n 0, 1) := by decide +kernel
theorem dX9_init_140 : decode cX9_init 140 = .ok (.iconst 0, 1) := by decide +kernel
theorem dX9_init_141 : decode cX9_init 141 = .ok (.putfield 63, 3) := by decide +kernel
theorem dX9_init_144 : decode cX9_init 144 = .ok (.return_, 1) := by decide +kernel
theorem dX9_thrown_0 : decode cX9_thrown 0 = .ok (.aload_n 0, 1) := by decide +kernel
theorem dX9_thrown_1 : decode cX9_thrown 1 = .ok (.getfield 63, 3) := by decide +kernel
theorem dX9_thrown_4 : decode cX9_thrown 4 = .ok (.ireturn, 1) := by decide +kernel
theorem dX9_fails_0 : decode cX9_fails 0 = .ok (.aload_n 0, 1) := by decide +kernel
theorem dX9_fails_1 : decode cX9_fails 1 = .ok (.iload_n 1, 1) := by decide +kernel
theorem dX9_fails_2 : decode cX9_fails 2 = .ok (.putfield 63, 3) := by decide +kernel
theorem dX9_fails_5 : decode cX9_fails 5 = .ok (.iconst 0, 1) := by decide +kernel
theorem dX9_fails_6 : decode cX9_fails 6 = .ok (.ireturn, 1) := by decide +kernel
theorem dX9_in_0 : decode cX9_in 0 = .ok (.iload_n 0, 1) := by decide +kernel
theorem dX9_in_1 : decode cX9_in 1 = .ok (.iload_n 1, 1) := by decide +kernel
theorem dX9_in_2 : decode cX9_in 2 = .ok (.if_icmp .lt 12, 3) := by decide +kernel
theorem dX9_in_5 : decode cX9_in 5 = .ok (.iload_n 0, 1) := by decide +kernel
theorem dX9_in_6 : decode cX9_in 6 = .ok (.iload_n 2, 1) := by decide +kernel
theorem dX9_in_7 : decode cX9_in 7 = .ok (.if_icmp .gt 7, 3) := by decide +kernel
theorem dX9_in_10 : decode cX9_in 10 = .ok (.iconst 1, 1) := by decide +kernel
theorem dX9_in_11 : decode cX9_in 11 = .ok (.goto 4, 3) := by decide +kernel
theorem dX9_in_14 : decode cX9_in 14 = .ok (.iconst 0, 1) := by decide +kernel
theorem dX9_in_15 : decode cX9_in 15 = .ok (.ireturn, 1) := by decide +kernel
theorem dX9_isWord_0 : decode cX9_isWord 0 = .ok (.iload_n 0, 1) := by decide +kernel
theorem dX9_isWord_1 : decode cX9_isWord 1 = .ok (.iconst 0, 1) := by decide +kernel
theorem dX9_isWord_2 : decode cX9_isWord 2 = .ok (.bipush 99, 2) := by decide +kernel
theorem dX9_isWord_4 : decode cX9_isWord 4 = .ok (.invokestatic 66, 3) := by decide +kernel
theorem dX9_isWord_7 : decode cX9_isWord 7 = .ok (.ireturn, 1) := by decide +kernel
theorem dX9_isEntry_0 : decode cX9_isEntry 0 = .ok (.iload_n 1, 1) := by decide +kernel
theorem dX9_isEntry_1 : decode cX9_isEntry 1 = .ok (.iconst 0, 1) := by decide +kernel
theorem dX9_isEntry_2 : decode cX9_isEntry 2 = .ok (.aload_n 0, 1) := by decide +kernel
theorem dX9_isEntry_3 : decode cX9_isEntry 3 = .ok (.getfield 70, 3) := by decide +kernel
theorem dX9_isEntry_6 : decode cX9_isEntry 6 = .ok (.iconst 1, 1) := by decide +kernel
theorem dX9_isEntry_7 : decode cX9_isEntry 7 = .ok (.isub, 1) := by decide +kernel
theorem dX9_isEntry_8 : decode cX9_isEntry 8 = .ok (.invokestatic 66, 3) := by decide +kernel
theorem dX9_isEntry_11 : decode cX9_isEntry 11 = .ok (.ifCond .eq 16, 3) := by decide +kernel
theorem dX9_isEntry_14 : decode cX9_isEntry 14 = .ok (.aload_n 0, 1) := by decide +kernel
theorem dX9_isEntry_15 : decode cX9_isEntry 15 = .ok (.getfield 19, 3) := by decide +kernel
theorem dX9_isEntry_18 : decode cX9_isEntry 18 = .ok (.iload_n 1, 1) := by decide +kernel
theorem dX9_isEntry_19 : decode cX9_isEntry 19 = .ok (.baload, 1) := by decide +kernel
theorem dX9_isEntry_20 : decode cX9_isEntry 20 = .ok (.ifCond .eq 7, 3) := by decide +kernel
theorem dX9_isEntry_23 : decode cX9_isEntry 23 = .ok (.iconst 1, 1) := by decide +kernel
theorem dX9_isEntry_24 : decode cX9_isEntry 24 = .ok (.goto 4, 3) := by decide +kernel
theorem dX9_isEntry_27 : decode cX9_isEntry 27 = .ok (.iconst 0, 1) := by decide +kernel
theorem dX9_isEntry_28 : decode cX9_isEntry 28 = .ok (.ireturn, 1) := by decide +kernel
theorem dX9_addRule_0 : decode cX9_addRule 0 = .ok (.aload_n 0, 1) := by decide +kernel
theorem dX9_addRule_1 : decode cX9_addRule 1 = .ok (.iload_n 1, 1) := by decide +kernel
theorem dX9_addRule_2 : decode cX9_addRule 2 = .ok (.iconst 0, 1) := by decide +kernel
theorem dX9_addRule_3 : decode cX9_addRule 3 = .ok (.iconst 2, 1) := by decide +kernel
theorem dX9_addRule_4 : decode cX9_addRule 4 = .ok (.invokestatic 66, 3) := by decide +kernel
theorem dX9_addRule_7 : decode cX9_addRule 7 = .ok (.ifCond .eq 13, 3) := by decide +kernel
theorem dX9_addRule_10 : decode cX9_addRule 10 = .ok (.iload_n 2, 1) := by decide +kernel
theorem dX9_addRule_11 : decode cX9_addRule 11 = .ok (.iconst 1, 1) := by decide +kernel
theorem dX9_addRule_12 : decode cX9_addRule 12 = .ok (.bipush 50, 2) := by decide +kernel
theorem dX9_addRule_14 : decode cX9_addRule 14 = .ok (.invokestatic 66, 3) := by decide +kernel
theorem dX9_addRule_17 : decode cX9_addRule 17 = .ok (.ifCond .ne 7, 3) := by decide +kernel
theorem dX9_addRule_20 : decode cX9_addRule 20 = .ok (.iconst 1, 1) := by decide +kernel
theorem dX9_addRule_21 : decode cX9_addRule 21 = .ok (.goto 17, 3) := by decide +kernel
theorem dX9_addRule_24 : decode cX9_addRule 24 = .ok (.aload_n 0, 1) := by decide +kernel
theorem dX9_addRule_25 : decode cX9_addRule 25 = .ok (.getfield 73, 3) := by decide +kernel
theorem dX9_addRule_28 : decode cX9_addRule 28 = .ok (.bipush 6, 2) := by decide +kernel
theorem dX9_addRule_30 : decode cX9_addRule 30 = .ok (.if_icmp .ne 7, 3) := by decide +kernel
theorem dX9_addRule_33 : decode cX9_addRule 33 = .ok (.iconst 2, 1) := by decide +kernel
theorem dX9_addRule_34 : decode cX9_addRule 34 = .ok (.goto 4, 3) := by decide +kernel
theorem dX9_addRule_37 : decode cX9_addRule 37 = .ok (.iconst 0, 1) := by decide +kernel
theorem dX9_addRule_38 : decode cX9_addRule 38 = .ok (.putfield 63, 3) := by decide +kernel
theorem dX9_addRule_41 : decode cX9_addRule 41 = .ok (.aload_n 0, 1) := by decide +kernel
theorem dX9_addRule_42 : decode cX9_addRule 42 = .ok (.getfield 63, 3) := by decide +kernel
theorem dX9_addRule_45 : decode cX9_addRule 45 = .ok (.ifCond .le 5, 3) := by decide +kernel
theorem dX9_addRule_48 : decode cX9_addRule 48 = .ok (.iconst 0, 1) := by decide +kernel
theorem dX9_addRule_49 : decode cX9_addRule 49 = .ok (.ireturn, 1) := by decide +kernel
theorem dX9_addRule_50 : decode cX9_addRule 50 = .ok (.aload_n 0, 1) := by decide +kernel
theorem dX9_addRule_51 : decode cX9_addRule 51 = .ok (.getfield 7, 3) := by decide +kernel
theorem dX9_addRule_54 : decode cX9_addRule 54 = .ok (.aload_n 0, 1) := by decide +kernel
theorem dX9_addRule_55 : decode cX9_addRule 55 = .ok (.getfield 73, 3) := by decide +kernel
theorem dX9_addRule_58 : decode cX9_addRule 58 = .ok (.iload_n 1, 1) := by decide +kernel
theorem dX9_addRule_59 : decode cX9_addRule 59 = .ok (.iastore, 1) := by decide +kernel
theorem dX9_addRule_60 : decode cX9_addRule 60 = .ok (.aload_n 0, 1) := by decide +kernel
theorem dX9_addRule_61 : decode cX9_addRule 61 = .ok (.getfield 13, 3) := by decide +kernel
theorem dX9_addRule_64 : decode cX9_addRule 64 = .ok (.aload_n 0, 1) := by decide +kernel
theorem dX9_addRule_65 : decode cX9_addRule 65 = .ok (.getfield 73, 3) := by decide +kernel
theorem dX9_addRule_68 : decode cX9_addRule 68 = .ok (.iload_n 2, 1) := by decide +kernel
theorem dX9_addRule_69 : decode cX9_addRule 69 = .ok (.iastore, 1) := by decide +kernel
theorem dX9_addRule_70 : decode cX9_addRule 70 = .ok (.aload_n 0, 1) := by decide +kernel
theorem dX9_addRule_71 : decode cX9_addRule 71 = .ok (.dup, 1) := by decide +kernel
theorem dX9_addRule_72 : decode cX9_addRule 72 = .ok (.getfield 73, 3) := by decide +kernel
theorem dX9_addRule_75 : decode cX9_addRule 75 = .ok (.iconst 1, 1) := by decide +kernel
theorem dX9_addRule_76 : decode cX9_addRule 76 = .ok (.iadd, 1) := by decide +kernel
theorem dX9_addRule_77 : decode cX9_addRule 77 = .ok (.putfield 73, 3) := by decide +kernel
theorem dX9_addRule_80 : decode cX9_addRule 80 = .ok (.aload_n 0, 1) := by decide +kernel
theorem dX9_addRule_81 : decode cX9_addRule 81 = .ok (.getfield 73, 3) := by decide +kernel
theorem dX9_addRule_84 : decode cX9_addRule 84 = .ok (.iconst 1, 1) := by decide +kernel
theorem dX9_addRule_85 : decode cX9_addRule 85 = .ok (.isub, 1) := by decide +kernel
theorem dX9_addRule_86 : decode cX9_addRule 86 = .ok (.ireturn, 1) := by decide +kernel
theorem dX9_forms_0 : decode cX9_forms 0 = .ok (.iload_n 1, 1) := by decide +kernel
theorem dX9_forms_1 : decode cX9_forms 1 = .ok (.iload_n 2, 1) := by decide +kernel
theorem dX9_forms_2 : decode cX9_forms 2 = .ok (.if_icmp .ne 7, 3) := by decide +kernel
theorem dX9_forms_5 : decode cX9_forms 5 = .ok (.iconst 1, 1) := by decide +kernel
theorem dX9_forms_6 : decode cX9_forms 6 = .ok (.goto 4, 3) := by decide +kernel
theorem dX9_forms_9 : decode cX9_forms 9 = .ok (.iconst 0, 1) := by decide +kernel
theorem dX9_forms_10 : decode cX9_forms 10 = .ok (.istore_n 3, 1) := by decide +kernel
theorem dX9_forms_11 : decode cX9_forms 11 = .ok (.iconst 0, 1) := by decide +kernel
theorem dX9_forms_12 : decode cX9_forms 12 = .ok (.istore 4, 2) := by decide +kernel
theorem dX9_forms_14 : decode cX9_forms 14 = .ok (.iload 4, 2) := by decide +kernel
theorem dX9_forms_16 : decode cX9_forms 16 = .ok (.aload_n 0, 1) := by decide +kernel
theorem dX9_forms_17 : decode cX9_forms 17 = .ok (.getfield 73, 3) := by decide +kernel
theorem dX9_forms_20 : decode cX9_forms 20 = .ok (.if_icmp .ge 45, 3) := by decide +kernel
theorem dX9_forms_23 : decode cX9_forms 23 = .ok (.iload_n 3, 1) := by decide +kernel
theorem dX9_forms_24 : decode cX9_forms 24 = .ok (.ifCond .ne 29, 3) := by decide +kernel
theorem dX9_forms_27 : decode cX9_forms 27 = .ok (.aload_n 0, 1) := by decide +kernel
theorem dX9_forms_28 : decode cX9_forms 28 = .ok (.getfield 7, 3) := by decide +kernel
theorem dX9_forms_31 : decode cX9_forms 31 = .ok (.iload 4, 2) := by decide +kernel
theorem dX9_forms_33 : decode cX9_forms 33 = .ok (.iaload, 1) := by decide +kernel
theorem dX9_forms_34 : decode cX9_forms 34 = .ok (.iload_n 2, 1) := by decide +kernel
theorem dX9_forms_35 : decode cX9_forms 35 = .ok (.iconst 3, 1) := by decide +kernel
theorem dX9_forms_36 : decode cX9_forms 36 = .ok (.irem, 1) := by decide +kernel
theorem dX9_forms_37 : decode cX9_forms 37 = .ok (.if_icmp .ne 20, 3) := by decide +kernel
theorem dX9_forms_40 : decode cX9_forms 40 = .ok (.iload_n 1, 1) := by decide +kernel
theorem dX9_forms_41 : decode cX9_forms 41 = .ok (.iload_n 2, 1) := by decide +kernel
theorem dX9_forms_42 : decode cX9_forms 42 = .ok (.aload_n 0, 1) := by decide +kernel
theorem dX9_forms_43 : decode cX9_forms 43 = .ok (.getfield 13, 3) := by decide +kernel
theorem dX9_forms_46 : decode cX9_forms 46 = .ok (.iload 4, 2) := by decide +kernel
theorem dX9_forms_48 : decode cX9_forms 48 = .ok (.iaload, 1) := by decide +kernel
theorem dX9_forms_49 : decode cX9_forms 49 = .ok (.iadd, 1) := by decide +kernel
theorem dX9_forms_50 : decode cX9_forms 50 = .ok (.if_icmp .ne 7, 3) := by decide +kernel
theorem dX9_forms_53 : decode cX9_forms 53 = .ok (.iconst 1, 1) := by decide +kernel
theorem dX9_forms_54 : decode cX9_forms 54 = .ok (.goto 4, 3) := by decide +kernel
theorem dX9_forms_57 : decode cX9_forms 57 = .ok (.iconst 0, 1) := by decide +kernel
theorem dX9_forms_58 : decode cX9_forms 58 = .ok (.istore_n 3, 1) := by decide +kernel
theorem dX9_forms_59 : decode cX9_forms 59 = .ok (.iinc 4 1, 3) := by decide +kernel
theorem dX9_forms_62 : decode cX9_forms 62 = .ok (.goto (-48), 3) := by decide +kernel
theorem dX9_forms_65 : decode cX9_forms 65 = .ok (.iload_n 3, 1) := by decide +kernel
theorem dX9_forms_66 : decode cX9_forms 66 = .ok (.ireturn, 1) := by decide +kernel
theorem dX9_headwords_0 : decode cX9_headwords 0 = .ok (.aload_n 0, 1) := by decide +kernel
theorem dX9_headwords_1 : decode cX9_headwords 1 = .ok (.iload_n 1, 1) := by decide +kernel
theorem dX9_headwords_2 : decode cX9_headwords 2 = .ok (.invokestatic 76, 3) := by decide +kernel
theorem dX9_headwords_5 : decode cX9_headwords 5 = .ok (.ifCond .eq 7, 3) := by decide +kernel
theorem dX9_headwords_8 : decode cX9_headwords 8 = .ok (.iconst 0, 1) := by decide +kernel
theorem dX9_headwords_9 : decode cX9_headwords 9 = .ok (.goto 4, 3) := by decide +kernel
theorem dX9_headwords_12 : decode cX9_headwords 12 = .ok (.iconst 1, 1) := by decide +kernel
theorem dX9_headwords_13 : decode cX9_headwords 13 = .ok (.putfield 63, 3) := by decide +kernel
theorem dX9_headwords_16 : decode cX9_headwords 16 = .ok (.iconst 0, 1) := by decide +kernel
theorem dX9_headwords_17 : decode cX9_headwords 17 = .ok (.istore_n 2, 1) := by decide +kernel
theorem dX9_headwords_18 : decode cX9_headwords 18 = .ok (.iconst 0, 1) := by decide +kernel
theorem dX9_headwords_19 : decode cX9_headwords 19 = .ok (.istore_n 3, 1) := by decide +kernel
theorem dX9_headwords_20 : decode cX9_headwords 20 = .ok (.iload_n 3, 1) := by decide +kernel
theorem dX9_headwords_21 : decode cX9_headwords 21 = .ok (.bipush 100, 2) := by decide +kernel
theorem dX9_headwords_23 : decode cX9_headwords 23 = .ok (.if_icmp .ge 33, 3) := by decide +kernel
theorem dX9_headwords_26 : decode cX9_headwords 26 = .ok (.aload_n 0, 1) := by decide +kernel
theorem dX9_headwords_27 : decode cX9_headwords 27 = .ok (.getfield 63, 3) := by decide +kernel
theorem dX9_headwords_30 : decode cX9_headwords 30 = .ok (.ifCond .ne 26, 3) := by decide +kernel
theorem dX9_headwords_33 : decode cX9_headwords 33 = .ok (.iload_n 2, 1) := by decide +kernel
theorem dX9_headwords_34 : decode cX9_headwords 34 = .ok (.aload_n 0, 1) := by decide +kernel
theorem dX9_headwords_35 : decode cX9_headwords 35 = .ok (.iload_n 1, 1) := by decide +kernel
theorem dX9_headwords_36 : decode cX9_headwords 36 = .ok (.iload_n 3, 1) := by decide +kernel
theorem dX9_headwords_37 : decode cX9_headwords 37 = .ok (.invokevirtual 80, 3) := by decide +kernel
theorem dX9_headwords_40 : decode cX9_headwords 40 = .ok (.ifCond .eq 7, 3) := by decide +kernel
theorem dX9_headwords_43 : decode cX9_headwords 43 = .ok (.iconst 1, 1) := by decide +kernel
theorem dX9_headwords_44 : decode cX9_headwords 44 = .ok (.goto 4, 3) := by decide +kernel
theorem dX9_headwords_47 : decode cX9_headwords 47 = .ok (.iconst 0, 1) := by decide +kernel
theorem dX9_headwords_48 : decode cX9_headwords 48 = .ok (.iadd, 1) := by decide +kernel
theorem dX9_headwords_49 : decode cX9_headwords 49 = .ok (.istore_n 2, 1) := by decide +kernel
theorem dX9_headwords_50 : decode cX9_headwords 50 = .ok (.iinc 3 1, 3) := by decide +kernel
theorem dX9_headwords_53 : decode cX9_headwords 53 = .ok (.goto (-33), 3) := by decide +kernel
theorem dX9_headwords_56 : decode cX9_headwords 56 = .ok (.iload_n 2, 1) := by decide +kernel
theorem dX9_headwords_57 : decode cX9_headwords 57 = .ok (.ireturn, 1) := by decide +kernel
theorem dX9_isForm_0 : decode cX9_isForm 0 = .ok (.aload_n 0, 1) := by decide +kernel
theorem dX9_isForm_1 : decode cX9_isForm 1 = .ok (.iload_n 1, 1) := by decide +kernel
theorem dX9_isForm_2 : decode cX9_isForm 2 = .ok (.invokestatic 76, 3) := by decide +kernel
theorem dX9_isForm_5 : decode cX9_isForm 5 = .ok (.ifCond .eq 14, 3) := by decide +kernel
theorem dX9_isForm_8 : decode cX9_isForm 8 = .ok (.iload_n 2, 1) := by decide +kernel
theorem dX9_isForm_9 : decode cX9_isForm 9 = .ok (.invokestatic 76, 3) := by decide +kernel
theorem dX9_isForm_12 : decode cX9_isForm 12 = .ok (.ifCond .eq 7, 3) := by decide +kernel
theorem dX9_isForm_15 : decode cX9_isForm 15 = .ok (.iconst 0, 1) := by decide +kernel
theorem dX9_isForm_16 : decode cX9_isForm 16 = .ok (.goto 4, 3) := by decide +kernel
theorem dX9_isForm_19 : decode cX9_isForm 19 = .ok (.iconst 1, 1) := by decide +kernel
theorem dX9_isForm_20 : decode cX9_isForm 20 = .ok (.putfield 63, 3) := by decide +kernel
theorem dX9_isForm_23 : decode cX9_isForm 23 = .ok (.aload_n 0, 1) := by decide +kernel
theorem dX9_isForm_24 : decode cX9_isForm 24 = .ok (.getfield 63, 3) := by decide +kernel
theorem dX9_isForm_27 : decode cX9_isForm 27 = .ok (.ifCond .ne 16, 3) := by decide +kernel
theorem dX9_isForm_30 : decode cX9_isForm 30 = .ok (.aload_n 0, 1) := by decide +kernel
theorem dX9_isForm_31 : decode cX9_isForm 31 = .ok (.iload_n 1, 1) := by decide +kernel
theorem dX9_isForm_32 : decode cX9_isForm 32 = .ok (.iload_n 2, 1) := by decide +kernel
theorem dX9_isForm_33 : decode cX9_isForm 33 = .ok (.invokevirtual 80, 3) := by decide +kernel
theorem dX9_isForm_36 : decode cX9_isForm 36 = .ok (.ifCond .eq 7, 3) := by decide +kernel
theorem dX9_isForm_39 : decode cX9_isForm 39 = .ok (.iconst 1, 1) := by decide +kernel
theorem dX9_isForm_40 : decode cX9_isForm 40 = .ok (.goto 4, 3) := by decide +kernel
theorem dX9_isForm_43 : decode cX9_isForm 43 = .ok (.iconst 0, 1) := by decide +kernel
theorem dX9_isForm_44 : decode cX9_isForm 44 = .ok (.ireturn, 1) := by decide +kernel
theorem dX9_part_0 : decode cX9_part 0 = .ok (.aload_n 0, 1) := by decide +kernel
theorem dX9_part_1 : decode cX9_part 1 = .ok (.iload_n 1, 1) := by decide +kernel
theorem dX9_part_2 : decode cX9_part 2 = .ok (.iconst (-1), 1) := by decide +kernel
theorem dX9_part_3 : decode cX9_part 3 = .ok (.if_icmp .eq 14, 3) := by decide +kernel
theorem dX9_part_6 : decode cX9_part 6 = .ok (.iload_n 1, 1) := by decide +kernel
theorem dX9_part_7 : decode cX9_part 7 = .ok (.invokestatic 76, 3) := by decide +kernel
theorem dX9_part_10 : decode cX9_part 10 = .ok (.ifCond .ne 7, 3) := by decide +kernel
theorem dX9_part_13 : decode cX9_part 13 = .ok (.iconst 1, 1) := by decide +kernel
theorem dX9_part_14 : decode cX9_part 14 = .ok (.goto 28, 3) := by decide +kernel
theorem dX9_part_17 : decode cX9_part 17 = .ok (.aload_n 0, 1) := by decide +kernel
theorem dX9_part_18 : decode cX9_part 18 = .ok (.getfield 84, 3) := by decide +kernel
theorem dX9_part_21 : decode cX9_part 21 = .ok (.iconst 4, 1) := by decide +kernel
theorem dX9_part_22 : decode cX9_part 22 = .ok (.if_icmp .eq 15, 3) := by decide +kernel
theorem dX9_part_25 : decode cX9_part 25 = .ok (.iload_n 1, 1) := by decide +kernel
theorem dX9_part_26 : decode cX9_part 26 = .ok (.iconst (-1), 1) := by decide +kernel
theorem dX9_part_27 : decode cX9_part 27 = .ok (.if_icmp .ne 14, 3) := by decide +kernel
theorem dX9_part_30 : decode cX9_part 30 = .ok (.aload_n 0, 1) := by decide +kernel
theorem dX9_part_31 : decode cX9_part 31 = .ok (.getfield 84, 3) := by decide +kernel
theorem dX9_part_34 : decode cX9_part 34 = .ok (.ifCond .ne 7, 3) := by decide +kernel
theorem dX9_part_37 : decode cX9_part 37 = .ok (.iconst 2, 1) := by decide +kernel
theorem dX9_part_38 : decode cX9_part 38 = .ok (.goto 4, 3) := by decide +kernel
theorem dX9_part_41 : decode cX9_part 41 = .ok (.iconst 0, 1) := by decide +kernel
theorem dX9_part_42 : decode cX9_part 42 = .ok (.putfield 63, 3) := by decide +kernel
theorem dX9_part_45 : decode cX9_part 45 = .ok (.aload_n 0, 1) := by decide +kernel
theorem dX9_part_46 : decode cX9_part 46 = .ok (.getfield 63, 3) := by decide +kernel
theorem dX9_part_49 : decode cX9_part 49 = .ok (.ifCond .le 5, 3) := by decide +kernel
theorem dX9_part_52 : decode cX9_part 52 = .ok (.iconst 0, 1) := by decide +kernel
theorem dX9_part_53 : decode cX9_part 53 = .ok (.ireturn, 1) := by decide +kernel
theorem dX9_part_54 : decode cX9_part 54 = .ok (.aload_n 0, 1) := by decide +kernel
theorem dX9_part_55 : decode cX9_part 55 = .ok (.getfield 16, 3) := by decide +kernel
theorem dX9_part_58 : decode cX9_part 58 = .ok (.aload_n 0, 1) := by decide +kernel
theorem dX9_part_59 : decode cX9_part 59 = .ok (.getfield 84, 3) := by decide +kernel
theorem dX9_part_62 : decode cX9_part 62 = .ok (.iload_n 1, 1) := by decide +kernel
theorem dX9_part_63 : decode cX9_part 63 = .ok (.iastore, 1) := by decide +kernel
theorem dX9_part_64 : decode cX9_part 64 = .ok (.aload_n 0, 1) := by decide +kernel
theorem dX9_part_65 : decode cX9_part 65 = .ok (.dup, 1) := by decide +kernel
theorem dX9_part_66 : decode cX9_part 66 = .ok (.getfield 84, 3) := by decide +kernel
theorem dX9_part_69 : decode cX9_part 69 = .ok (.iconst 1, 1) := by decide +kernel
theorem dX9_part_70 : decode cX9_part 70 = .ok (.iadd, 1) := by decide +kernel
theorem dX9_part_71 : decode cX9_part 71 = .ok (.putfield 84, 3) := by decide +kernel
theorem dX9_part_74 : decode cX9_part 74 = .ok (.aload_n 0, 1) := by decide +kernel
theorem dX9_part_75 : decode cX9_part 75 = .ok (.getfield 84, 3) := by decide +kernel
theorem dX9_part_78 : decode cX9_part 78 = .ok (.ireturn, 1) := by decide +kernel
theorem dX9_makes_0 : decode cX9_makes 0 = .ok (.aload_n 0, 1) := by decide +kernel
theorem dX9_makes_1 : decode cX9_makes 1 = .ok (.getfield 19, 3) := by decide +kernel
theorem dX9_makes_4 : decode cX9_makes 4 = .ok (.aload_n 0, 1) := by decide +kernel
theorem dX9_makes_5 : decode cX9_makes 5 = .ok (.getfield 70, 3) := by decide +kernel
theorem dX9_makes_8 : decode cX9_makes 8 = .ok (.iconst 1, 1) := by decide +kernel
theorem dX9_makes_9 : decode cX9_makes 9 = .ok (.bastore, 1) := by decide +kernel
theorem dX9_makes_10 : decode cX9_makes 10 = .ok (.aload_n 0, 1) := by decide +kernel
theorem dX9_makes_11 : decode cX9_makes 11 = .ok (.getfield 23, 3) := by decide +kernel
theorem dX9_makes_14 : decode cX9_makes 14 = .ok (.aload_n 0, 1) := by decide +kernel
theorem dX9_makes_15 : decode cX9_makes 15 = .ok (.getfield 70, 3) := by decide +kernel
theorem dX9_makes_18 : decode cX9_makes 18 = .ok (.iload_n 1, 1) := by decide +kernel
theorem dX9_makes_19 : decode cX9_makes 19 = .ok (.iastore, 1) := by decide +kernel
theorem dX9_makes_20 : decode cX9_makes 20 = .ok (.aload_n 0, 1) := by decide +kernel
theorem dX9_makes_21 : decode cX9_makes 21 = .ok (.getfield 26, 3) := by decide +kernel
theorem dX9_makes_24 : decode cX9_makes 24 = .ok (.aload_n 0, 1) := by decide +kernel
theorem dX9_makes_25 : decode cX9_makes 25 = .ok (.getfield 70, 3) := by decide +kernel
theorem dX9_makes_28 : decode cX9_makes 28 = .ok (.iload_n 2, 1) := by decide +kernel
theorem dX9_makes_29 : decode cX9_makes 29 = .ok (.iastore, 1) := by decide +kernel
theorem dX9_makes_30 : decode cX9_makes 30 = .ok (.aload_n 0, 1) := by decide +kernel
theorem dX9_makes_31 : decode cX9_makes 31 = .ok (.dup, 1) := by decide +kernel
theorem dX9_makes_32 : decode cX9_makes 32 = .ok (.getfield 70, 3) := by decide +kernel
theorem dX9_makes_35 : decode cX9_makes 35 = .ok (.iconst 1, 1) := by decide +kernel
theorem dX9_makes_36 : decode cX9_makes 36 = .ok (.iadd, 1) := by decide +kernel
theorem dX9_makes_37 : decode cX9_makes 37 = .ok (.putfield 70, 3) := by decide +kernel
theorem dX9_makes_40 : decode cX9_makes 40 = .ok (.aload_n 0, 1) := by decide +kernel
theorem dX9_makes_41 : decode cX9_makes 41 = .ok (.getfield 70, 3) := by decide +kernel
theorem dX9_makes_44 : decode cX9_makes 44 = .ok (.iconst 1, 1) := by decide +kernel
theorem dX9_makes_45 : decode cX9_makes 45 = .ok (.isub, 1) := by decide +kernel
theorem dX9_makes_46 : decode cX9_makes 46 = .ok (.ireturn, 1) := by decide +kernel
theorem dX9_addPhrase_0 : decode cX9_addPhrase 0 = .ok (.aload_n 0, 1) := by decide +kernel
theorem dX9_addPhrase_1 : decode cX9_addPhrase 1 = .ok (.iload_n 1, 1) := by decide +kernel
theorem dX9_addPhrase_2 : decode cX9_addPhrase 2 = .ok (.iconst 1, 1) := by decide +kernel
theorem dX9_addPhrase_3 : decode cX9_addPhrase 3 = .ok (.bipush 20, 2) := by decide +kernel
theorem dX9_addPhrase_5 : decode cX9_addPhrase 5 = .ok (.invokestatic 66, 3) := by decide +kernel
theorem dX9_addPhrase_8 : decode cX9_addPhrase 8 = .ok (.ifCond .ne 7, 3) := by decide +kernel
theorem dX9_addPhrase_11 : decode cX9_addPhrase 11 = .ok (.iconst 1, 1) := by decide +kernel
theorem dX9_addPhrase_12 : decode cX9_addPhrase 12 = .ok (.goto 39, 3) := by decide +kernel
theorem dX9_addPhrase_15 : decode cX9_addPhrase 15 = .ok (.aload_n 0, 1) := by decide +kernel
theorem dX9_addPhrase_16 : decode cX9_addPhrase 16 = .ok (.getfield 84, 3) := by decide +kernel
theorem dX9_addPhrase_19 : decode cX9_addPhrase 19 = .ok (.ifCond .eq 27, 3) := by decide +kernel
theorem dX9_addPhrase_22 : decode cX9_addPhrase 22 = .ok (.aload_n 0, 1) := by decide +kernel
theorem dX9_addPhrase_23 : decode cX9_addPhrase 23 = .ok (.getfield 16, 3) := by decide +kernel
theorem dX9_addPhrase_26 : decode cX9_addPhrase 26 = .ok (.aload_n 0, 1) := by decide +kernel
theorem dX9_addPhrase_27 : decode cX9_addPhrase 27 = .ok (.getfield 84, 3) := by decide +kernel
theorem dX9_addPhrase_30 : decode cX9_addPhrase 30 = .ok (.iconst 1, 1) := by decide +kernel
theorem dX9_addPhrase_31 : decode cX9_addPhrase 31 = .ok (.isub, 1) := by decide +kernel
theorem dX9_addPhrase_32 : decode cX9_addPhrase 32 = .ok (.iaload, 1) := by decide +kernel
theorem dX9_addPhrase_33 : decode cX9_addPhrase 33 = .ok (.iconst (-1), 1) := by decide +kernel
theorem dX9_addPhrase_34 : decode cX9_addPhrase 34 = .ok (.if_icmp .eq 12, 3) := by decide +kernel
theorem dX9_addPhrase_37 : decode cX9_addPhrase 37 = .ok (.aload_n 0, 1) := by decide +kernel
theorem dX9_addPhrase_38 : decode cX9_addPhrase 38 = .ok (.getfield 70, 3) := by decide +kernel
theorem dX9_addPhrase_41 : decode cX9_addPhrase 41 = .ok (.bipush 8, 2) := by decide +kernel
theorem dX9_addPhrase_43 : decode cX9_addPhrase 43 = .ok (.if_icmp .ne 7, 3) := by decide +kernel
theorem dX9_addPhrase_46 : decode cX9_addPhrase 46 = .ok (.iconst 2, 1) := by decide +kernel
theorem dX9_addPhrase_47 : decode cX9_addPhrase 47 = .ok (.goto 4, 3) := by decide +kernel
theorem dX9_addPhrase_50 : decode cX9_addPhrase 50 = .ok (.iconst 0, 1) := by decide +kernel
theorem dX9_addPhrase_51 : decode cX9_addPhrase 51 = .ok (.putfield 63, 3) := by decide +kernel
theorem dX9_addPhrase_54 : decode cX9_addPhrase 54 = .ok (.aload_n 0, 1) := by decide +kernel
theorem dX9_addPhrase_55 : decode cX9_addPhrase 55 = .ok (.getfield 63, 3) := by decide +kernel
theorem dX9_addPhrase_58 : decode cX9_addPhrase 58 = .ok (.ifCond .le 5, 3) := by decide +kernel
theorem dX9_addPhrase_61 : decode cX9_addPhrase 61 = .ok (.iconst 0, 1) := by decide +kernel
theorem dX9_addPhrase_62 : decode cX9_addPhrase 62 = .ok (.ireturn, 1) := by decide +kernel
theorem dX9_addPhrase_63 : decode cX9_addPhrase 63 = .ok (.aload_n 0, 1) := by decide +kernel
theorem dX9_addPhrase_64 : decode cX9_addPhrase 64 = .ok (.getfield 29, 3) := by decide +kernel
theorem dX9_addPhrase_67 : decode cX9_addPhrase 67 = .ok (.aload_n 0, 1) := by decide +kernel
theorem dX9_addPhrase_68 : decode cX9_addPhrase 68 = .ok (.getfield 70, 3) := by decide +kernel
theorem dX9_addPhrase_71 : decode cX9_addPhrase 71 = .ok (.aload_n 0, 1) := by decide +kernel
theorem dX9_addPhrase_72 : decode cX9_addPhrase 72 = .ok (.getfield 84, 3) := by decide +kernel
theorem dX9_addPhrase_75 : decode cX9_addPhrase 75 = .ok (.iastore, 1) := by decide +kernel
theorem dX9_addPhrase_76 : decode cX9_addPhrase 76 = .ok (.iconst 0, 1) := by decide +kernel
theorem dX9_addPhrase_77 : decode cX9_addPhrase 77 = .ok (.istore_n 2, 1) := by decide +kernel
theorem dX9_addPhrase_78 : decode cX9_addPhrase 78 = .ok (.iload_n 2, 1) := by decide +kernel
theorem dX9_addPhrase_79 : decode cX9_addPhrase 79 = .ok (.aload_n 0, 1) := by decide +kernel
theorem dX9_addPhrase_80 : decode cX9_addPhrase 80 = .ok (.getfield 84, 3) := by decide +kernel
theorem dX9_addPhrase_83 : decode cX9_addPhrase 83 = .ok (.if_icmp .ge 28, 3) := by decide +kernel
theorem dX9_addPhrase_86 : decode cX9_addPhrase 86 = .ok (.aload_n 0, 1) := by decide +kernel
theorem dX9_addPhrase_87 : decode cX9_addPhrase 87 = .ok (.getfield 32, 3) := by decide +kernel
theorem dX9_addPhrase_90 : decode cX9_addPhrase 90 = .ok (.iconst 4, 1) := by decide +kernel
theorem dX9_addPhrase_91 : decode cX9_addPhrase 91 = .ok (.aload_n 0, 1) := by decide +kernel
theorem dX9_addPhrase_92 : decode cX9_addPhrase 92 = .ok (.getfield 70, 3) := by decide +kernel
theorem dX9_addPhrase_95 : decode cX9_addPhrase 95 = .ok (.imul, 1) := by decide +kernel
theorem dX9_addPhrase_96 : decode cX9_addPhrase 96 = .ok (.iload_n 2, 1) := by decide +kernel
theorem dX9_addPhrase_97 : decode cX9_addPhrase 97 = .ok (.iadd, 1) := by decide +kernel
theorem dX9_addPhrase_98 : decode cX9_addPhrase 98 = .ok (.aload_n 0, 1) := by decide +kernel
theorem dX9_addPhrase_99 : decode cX9_addPhrase 99 = .ok (.getfield 16, 3) := by decide +kernel
theorem dX9_addPhrase_102 : decode cX9_addPhrase 102 = .ok (.iload_n 2, 1) := by decide +kernel
theorem dX9_addPhrase_103 : decode cX9_addPhrase 103 = .ok (.iaload, 1) := by decide +kernel
theorem dX9_addPhrase_104 : decode cX9_addPhrase 104 = .ok (.iastore, 1) := by decide +kernel
theorem dX9_addPhrase_105 : decode cX9_addPhrase 105 = .ok (.iinc 2 1, 3) := by decide +kernel
theorem dX9_addPhrase_108 : decode cX9_addPhrase 108 = .ok (.goto (-30), 3) := by decide +kernel
theorem dX9_addPhrase_111 : decode cX9_addPhrase 111 = .ok (.aload_n 0, 1) := by decide +kernel
theorem dX9_addPhrase_112 : decode cX9_addPhrase 112 = .ok (.iconst 0, 1) := by decide +kernel
theorem dX9_addPhrase_113 : decode cX9_addPhrase 113 = .ok (.putfield 84, 3) := by decide +kernel
theorem dX9_addPhrase_116 : decode cX9_addPhrase 116 = .ok (.aload_n 0, 1) := by decide +kernel
theorem dX9_addPhrase_117 : decode cX9_addPhrase 117 = .ok (.iload_n 1, 1) := by decide +kernel
theorem dX9_addPhrase_118 : decode cX9_addPhrase 118 = .ok (.iconst (-1), 1) := by decide +kernel
theorem dX9_addPhrase_119 : decode cX9_addPhrase 119 = .ok (.invokevirtual 87, 3) := by decide +kernel
theorem dX9_addPhrase_122 : decode cX9_addPhrase 122 = .ok (.ireturn, 1) := by decide +kernel
theorem dX9_addSplit_0 : decode cX9_addSplit 0 = .ok (.aload_n 0, 1) := by decide +kernel
theorem dX9_addSplit_1 : decode cX9_addSplit 1 = .ok (.iload_n 1, 1) := by decide +kernel
theorem dX9_addSplit_2 : decode cX9_addSplit 2 = .ok (.invokestatic 76, 3) := by decide +kernel
theorem dX9_addSplit_5 : decode cX9_addSplit 5 = .ok (.ifCond .eq 10, 3) := by decide +kernel
theorem dX9_addSplit_8 : decode cX9_addSplit 8 = .ok (.iload_n 2, 1) := by decide +kernel
theorem dX9_addSplit_9 : decode cX9_addSplit 9 = .ok (.invokestatic 76, 3) := by decide +kernel
theorem dX9_addSplit_12 : decode cX9_addSplit 12 = .ok (.ifCond .ne 7, 3) := by decide +kernel
theorem dX9_addSplit_15 : decode cX9_addSplit 15 = .ok (.iconst 1, 1) := by decide +kernel
theorem dX9_addSplit_16 : decode cX9_addSplit 16 = .ok (.goto 41, 3) := by decide +kernel
theorem dX9_addSplit_19 : decode cX9_addSplit 19 = .ok (.iload_n 3, 1) := by decide +kernel
theorem dX9_addSplit_20 : decode cX9_addSplit 20 = .ok (.iconst 0, 1) := by decide +kernel
theorem dX9_addSplit_21 : decode cX9_addSplit 21 = .ok (.iconst 4, 1) := by decide +kernel
theorem dX9_addSplit_22 : decode cX9_addSplit 22 = .ok (.invokestatic 66, 3) := by decide +kernel
theorem dX9_addSplit_25 : decode cX9_addSplit 25 = .ok (.ifCond .eq 14, 3) := by decide +kernel
theorem dX9_addSplit_28 : decode cX9_addSplit 28 = .ok (.iload 4, 2) := by decide +kernel
theorem dX9_addSplit_30 : decode cX9_addSplit 30 = .ok (.iconst 1, 1) := by decide +kernel
theorem dX9_addSplit_31 : decode cX9_addSplit 31 = .ok (.bipush 20, 2) := by decide +kernel
theorem dX9_addSplit_33 : decode cX9_addSplit 33 = .ok (.invokestatic 66, 3) := by decide +kernel
theorem dX9_addSplit_36 : decode cX9_addSplit 36 = .ok (.ifCond .ne 7, 3) := by decide +kernel
theorem dX9_addSplit_39 : decode cX9_addSplit 39 = .ok (.iconst 2, 1) := by decide +kernel
theorem dX9_addSplit_40 : decode cX9_addSplit 40 = .ok (.goto 17, 3) := by decide +kernel
theorem dX9_addSplit_43 : decode cX9_addSplit 43 = .ok (.aload_n 0, 1) := by decide +kernel
theorem dX9_addSplit_44 : decode cX9_addSplit 44 = .ok (.getfield 70, 3) := by decide +kernel
theorem dX9_addSplit_47 : decode cX9_addSplit 47 = .ok (.bipush 8, 2) := by decide +kernel
theorem dX9_addSplit_49 : decode cX9_addSplit 49 = .ok (.if_icmp .ne 7, 3) := by decide +kernel
theorem dX9_addSplit_52 : decode cX9_addSplit 52 = .ok (.iconst 3, 1) := by decide +kernel
theorem dX9_addSplit_53 : decode cX9_addSplit 53 = .ok (.goto 4, 3) := by decide +kernel
theorem dX9_addSplit_56 : decode cX9_addSplit 56 = .ok (.iconst 0, 1) := by decide +kernel
theorem dX9_addSplit_57 : decode cX9_addSplit 57 = .ok (.putfield 63, 3) := by decide +kernel
theorem dX9_addSplit_60 : decode cX9_addSplit 60 = .ok (.aload_n 0, 1) := by decide +kernel
theorem dX9_addSplit_61 : decode cX9_addSplit 61 = .ok (.getfield 63, 3) := by decide +kernel
theorem dX9_addSplit_64 : decode cX9_addSplit 64 = .ok (.ifCond .le 5, 3) := by decide +kernel
theorem dX9_addSplit_67 : decode cX9_addSplit 67 = .ok (.iconst 0, 1) := by decide +kernel
theorem dX9_addSplit_68 : decode cX9_addSplit 68 = .ok (.ireturn, 1) := by decide +kernel
theorem dX9_addSplit_69 : decode cX9_addSplit 69 = .ok (.aload_n 0, 1) := by decide +kernel
theorem dX9_addSplit_70 : decode cX9_addSplit 70 = .ok (.getfield 32, 3) := by decide +kernel
theorem dX9_addSplit_73 : decode cX9_addSplit 73 = .ok (.iconst 4, 1) := by decide +kernel
theorem dX9_addSplit_74 : decode cX9_addSplit 74 = .ok (.aload_n 0, 1) := by decide +kernel
theorem dX9_addSplit_75 : decode cX9_addSplit 75 = .ok (.getfield 70, 3) := by decide +kernel
theorem dX9_addSplit_78 : decode cX9_addSplit 78 = .ok (.imul, 1) := by decide +kernel
theorem dX9_addSplit_79 : decode cX9_addSplit 79 = .ok (.iload_n 1, 1) := by decide +kernel
theorem dX9_addSplit_80 : decode cX9_addSplit 80 = .ok (.iastore, 1) := by decide +kernel
theorem dX9_addSplit_81 : decode cX9_addSplit 81 = .ok (.aload_n 0, 1) := by decide +kernel
theorem dX9_addSplit_82 : decode cX9_addSplit 82 = .ok (.getfield 32, 3) := by decide +kernel
theorem dX9_addSplit_85 : decode cX9_addSplit 85 = .ok (.iconst 4, 1) := by decide +kernel
theorem dX9_addSplit_86 : decode cX9_addSplit 86 = .ok (.aload_n 0, 1) := by decide +kernel
theorem dX9_addSplit_87 : decode cX9_addSplit 87 = .ok (.getfield 70, 3) := by decide +kernel
theorem dX9_addSplit_90 : decode cX9_addSplit 90 = .ok (.imul, 1) := by decide +kernel
theorem dX9_addSplit_91 : decode cX9_addSplit 91 = .ok (.iconst 1, 1) := by decide +kernel
theorem dX9_addSplit_92 : decode cX9_addSplit 92 = .ok (.iadd, 1) := by decide +kernel
theorem dX9_addSplit_93 : decode cX9_addSplit 93 = .ok (.iload_n 2, 1) := by decide +kernel
theorem dX9_addSplit_94 : decode cX9_addSplit 94 = .ok (.iastore, 1) := by decide +kernel
theorem dX9_addSplit_95 : decode cX9_addSplit 95 = .ok (.aload_n 0, 1) := by decide +kernel
theorem dX9_addSplit_96 : decode cX9_addSplit 96 = .ok (.iload 4, 2) := by decide +kernel
theorem dX9_addSplit_98 : decode cX9_addSplit 98 = .ok (.iload_n 3, 1) := by decide +kernel
theorem dX9_addSplit_99 : decode cX9_addSplit 99 = .ok (.invokevirtual 87, 3) := by decide +kernel
theorem dX9_addSplit_102 : decode cX9_addSplit 102 = .ok (.ireturn, 1) := by decide +kernel
theorem dX9_takeOut_0 : decode cX9_takeOut 0 = .ok (.aload_n 0, 1) := by decide +kernel
theorem dX9_takeOut_1 : decode cX9_takeOut 1 = .ok (.aload_n 0, 1) := by decide +kernel
theorem dX9_takeOut_2 : decode cX9_takeOut 2 = .ok (.iload_n 1, 1) := by decide +kernel
theorem dX9_takeOut_3 : decode cX9_takeOut 3 = .ok (.invokevirtual 91, 3) := by decide +kernel
theorem dX9_takeOut_6 : decode cX9_takeOut 6 = .ok (.ifCond .eq 7, 3) := by decide +kernel
theorem dX9_takeOut_9 : decode cX9_takeOut 9 = .ok (.iconst 0, 1) := by decide +kernel
theorem dX9_takeOut_10 : decode cX9_takeOut 10 = .ok (.goto 4, 3) := by decide +kernel
theorem dX9_takeOut_13 : decode cX9_takeOut 13 = .ok (.iconst 1, 1) := by decide +kernel
theorem dX9_takeOut_14 : decode cX9_takeOut 14 = .ok (.putfield 63, 3) := by decide +kernel
theorem dX9_takeOut_17 : decode cX9_takeOut 17 = .ok (.iconst 0, 1) := by decide +kernel
theorem dX9_takeOut_18 : decode cX9_takeOut 18 = .ok (.istore_n 2, 1) := by decide +kernel
theorem dX9_takeOut_19 : decode cX9_takeOut 19 = .ok (.iconst 0, 1) := by decide +kernel
theorem dX9_takeOut_20 : decode cX9_takeOut 20 = .ok (.istore_n 3, 1) := by decide +kernel
theorem dX9_takeOut_21 : decode cX9_takeOut 21 = .ok (.iload_n 3, 1) := by decide +kernel
theorem dX9_takeOut_22 : decode cX9_takeOut 22 = .ok (.iconst 3, 1) := by decide +kernel
theorem dX9_takeOut_23 : decode cX9_takeOut 23 = .ok (.if_icmp .ge 50, 3) := by decide +kernel
theorem dX9_takeOut_26 : decode cX9_takeOut 26 = .ok (.aload_n 0, 1) := by decide +kernel
theorem dX9_takeOut_27 : decode cX9_takeOut 27 = .ok (.getfield 63, 3) := by decide +kernel
theorem dX9_takeOut_30 : decode cX9_takeOut 30 = .ok (.ifCond .ne 43, 3) := by decide +kernel
theorem dX9_takeOut_33 : decode cX9_takeOut 33 = .ok (.iload_n 2, 1) := by decide +kernel
theorem dX9_takeOut_34 : decode cX9_takeOut 34 = .ok (.aload_n 0, 1) := by decide +kernel
theorem dX9_takeOut_35 : decode cX9_takeOut 35 = .ok (.getfield 57, 3) := by decide +kernel
theorem dX9_takeOut_38 : decode cX9_takeOut 38 = .ok (.bipush 8, 2) := by decide +kernel
theorem dX9_takeOut_40 : decode cX9_takeOut 40 = .ok (.iload_n 3, 1) := by decide +kernel
theorem dX9_takeOut_41 : decode cX9_takeOut 41 = .ok (.imul, 1) := by decide +kernel
theorem dX9_takeOut_42 : decode cX9_takeOut 42 = .ok (.iload_n 1, 1) := by decide +kernel
theorem dX9_takeOut_43 : decode cX9_takeOut 43 = .ok (.iadd, 1) := by decide +kernel
theorem dX9_takeOut_44 : decode cX9_takeOut 44 = .ok (.iaload, 1) := by decide +kernel
theorem dX9_takeOut_45 : decode cX9_takeOut 45 = .ok (.ifCond .le 7, 3) := by decide +kernel
theorem dX9_takeOut_48 : decode cX9_takeOut 48 = .ok (.iconst 1, 1) := by decide +kernel
theorem dX9_takeOut_49 : decode cX9_takeOut 49 = .ok (.goto 4, 3) := by decide +kernel
theorem dX9_takeOut_52 : decode cX9_takeOut 52 = .ok (.iconst 0, 1) := by decide +kernel
theorem dX9_takeOut_53 : decode cX9_takeOut 53 = .ok (.iadd, 1) := by decide +kernel
theorem dX9_takeOut_54 : decode cX9_takeOut 54 = .ok (.istore_n 2, 1) := by decide +kernel
theorem dX9_takeOut_55 : decode cX9_takeOut 55 = .ok (.aload_n 0, 1) := by decide +kernel
theorem dX9_takeOut_56 : decode cX9_takeOut 56 = .ok (.getfield 57, 3) := by decide +kernel
theorem dX9_takeOut_59 : decode cX9_takeOut 59 = .ok (.bipush 8, 2) := by decide +kernel
theorem dX9_takeOut_61 : decode cX9_takeOut 61 = .ok (.iload_n 3, 1) := by decide +kernel
theorem dX9_takeOut_62 : decode cX9_takeOut 62 = .ok (.imul, 1) := by decide +kernel
theorem dX9_takeOut_63 : decode cX9_takeOut 63 = .ok (.iload_n 1, 1) := by decide +kernel
theorem dX9_takeOut_64 : decode cX9_takeOut 64 = .ok (.iadd, 1) := by decide +kernel
theorem dX9_takeOut_65 : decode cX9_takeOut 65 = .ok (.iconst 0, 1) := by decide +kernel
theorem dX9_takeOut_66 : decode cX9_takeOut 66 = .ok (.iastore, 1) := by decide +kernel
theorem dX9_takeOut_67 : decode cX9_takeOut 67 = .ok (.iinc 3 1, 3) := by decide +kernel
theorem dX9_takeOut_70 : decode cX9_takeOut 70 = .ok (.goto (-49), 3) := by decide +kernel
theorem dX9_takeOut_73 : decode cX9_takeOut 73 = .ok (.aload_n 0, 1) := by decide +kernel
theorem dX9_takeOut_74 : decode cX9_takeOut 74 = .ok (.getfield 63, 3) := by decide +kernel
theorem dX9_takeOut_77 : decode cX9_takeOut 77 = .ok (.ifCond .ne 10, 3) := by decide +kernel
theorem dX9_takeOut_80 : decode cX9_takeOut 80 = .ok (.aload_n 0, 1) := by decide +kernel
theorem dX9_takeOut_81 : decode cX9_takeOut 81 = .ok (.getfield 19, 3) := by decide +kernel
theorem dX9_takeOut_84 : decode cX9_takeOut 84 = .ok (.iload_n 1, 1) := by decide +kernel
theorem dX9_takeOut_85 : decode cX9_takeOut 85 = .ok (.iconst 0, 1) := by decide +kernel
theorem dX9_takeOut_86 : decode cX9_takeOut 86 = .ok (.bastore, 1) := by decide +kernel
theorem dX9_takeOut_87 : decode cX9_takeOut 87 = .ok (.iload_n 2, 1) := by decide +kernel
theorem dX9_takeOut_88 : decode cX9_takeOut 88 = .ok (.ireturn, 1) := by decide +kernel
theorem dX9_entries_0 : decode cX9_entries 0 = .ok (.aload_n 0, 1) := by decide +kernel
theorem dX9_entries_1 : decode cX9_entries 1 = .ok (.iconst 0, 1) := by decide +kernel
theorem dX9_entries_2 : decode cX9_entries 2 = .ok (.putfield 63, 3) := by decide +kernel
theorem dX9_entries_5 : decode cX9_entries 5 = .ok (.iconst 0, 1) := by decide +kernel
theorem dX9_entries_6 : decode cX9_entries 6 = .ok (.istore_n 1, 1) := by decide +kernel
theorem dX9_entries_7 : decode cX9_entries 7 = .ok (.iconst 0, 1) := by decide +kernel
theorem dX9_entries_8 : decode cX9_entries 8 = .ok (.istore_n 2, 1) := by decide +kernel
theorem dX9_entries_9 : decode cX9_entries 9 = .ok (.iload_n 2, 1) := by decide +kernel
theorem dX9_entries_10 : decode cX9_entries 10 = .ok (.aload_n 0, 1) := by decide +kernel
theorem dX9_entries_11 : decode cX9_entries 11 = .ok (.getfield 70, 3) := by decide +kernel
theorem dX9_entries_14 : decode cX9_entries 14 = .ok (.if_icmp .ge 26, 3) := by decide +kernel
theorem dX9_entries_17 : decode cX9_entries 17 = .ok (.iload_n 1, 1) := by decide +kernel
theorem dX9_entries_18 : decode cX9_entries 18 = .ok (.aload_n 0, 1) := by decide +kernel
theorem dX9_entries_19 : decode cX9_entries 19 = .ok (.getfield 19, 3) := by decide +kernel
theorem dX9_entries_22 : decode cX9_entries 22 = .ok (.iload_n 2, 1) := by decide +kernel
theorem dX9_entries_23 : decode cX9_entries 23 = .ok (.baload, 1) := by decide +kernel
theorem dX9_entries_24 : decode cX9_entries 24 = .ok (.ifCond .eq 7, 3) := by decide +kernel
theorem dX9_entries_27 : decode cX9_entries 27 = .ok (.iconst 1, 1) := by decide +kernel
theorem dX9_entries_28 : decode cX9_entries 28 = .ok (.goto 4, 3) := by decide +kernel
theorem dX9_entries_31 : decode cX9_entries 31 = .ok (.iconst 0, 1) := by decide +kernel
theorem dX9_entries_32 : decode cX9_entries 32 = .ok (.iadd, 1) := by decide +kernel
theorem dX9_entries_33 : decode cX9_entries 33 = .ok (.istore_n 1, 1) := by decide +kernel
theorem dX9_entries_34 : decode cX9_entries 34 = .ok (.iinc 2 1, 3) := by decide +kernel
theorem dX9_entries_37 : decode cX9_entries 37 = .ok (.goto (-28), 3) := by decide +kernel
theorem dX9_entries_40 : decode cX9_entries 40 = .ok (.iload_n 1, 1) := by decide +kernel
theorem dX9_entries_41 : decode cX9_entries 41 = .ok (.ireturn, 1) := by decide +kernel
theorem dX9_say_0 : decode cX9_say 0 = .ok (.aload_n 0, 1) := by decide +kernel
theorem dX9_say_1 : decode cX9_say 1 = .ok (.iload_n 1, 1) := by decide +kernel
theorem dX9_say_2 : decode cX9_say 2 = .ok (.invokestatic 76, 3) := by decide +kernel
theorem dX9_say_5 : decode cX9_say 5 = .ok (.ifCond .ne 7, 3) := by decide +kernel
theorem dX9_say_8 : decode cX9_say 8 = .ok (.iconst 1, 1) := by decide +kernel
theorem dX9_say_9 : decode cX9_say 9 = .ok (.goto 17, 3) := by decide +kernel
theorem dX9_say_12 : decode cX9_say 12 = .ok (.aload_n 0, 1) := by decide +kernel
theorem dX9_say_13 : decode cX9_say 13 = .ok (.getfield 94, 3) := by decide +kernel
theorem dX9_say_16 : decode cX9_say 16 = .ok (.bipush 6, 2) := by decide +kernel
theorem dX9_say_18 : decode cX9_say 18 = .ok (.if_icmp .ne 7, 3) := by decide +kernel
theorem dX9_say_21 : decode cX9_say 21 = .ok (.iconst 2, 1) := by decide +kernel
theorem dX9_say_22 : decode cX9_say 22 = .ok (.goto 4, 3) := by decide +kernel
theorem dX9_say_25 : decode cX9_say 25 = .ok (.iconst 0, 1) := by decide +kernel
theorem dX9_say_26 : decode cX9_say 26 = .ok (.putfield 63, 3) := by decide +kernel
theorem dX9_say_29 : decode cX9_say 29 = .ok (.aload_n 0, 1) := by decide +kernel
theorem dX9_say_30 : decode cX9_say 30 = .ok (.getfield 63, 3) := by decide +kernel
theorem dX9_say_33 : decode cX9_say 33 = .ok (.ifCond .le 5, 3) := by decide +kernel
theorem dX9_say_36 : decode cX9_say 36 = .ok (.iconst 0, 1) := by decide +kernel
theorem dX9_say_37 : decode cX9_say 37 = .ok (.ireturn, 1) := by decide +kernel
theorem dX9_say_38 : decode cX9_say 38 = .ok (.aload_n 0, 1) := by decide +kernel
theorem dX9_say_39 : decode cX9_say 39 = .ok (.getfield 35, 3) := by decide +kernel
theorem dX9_say_42 : decode cX9_say 42 = .ok (.aload_n 0, 1) := by decide +kernel
theorem dX9_say_43 : decode cX9_say 43 = .ok (.getfield 94, 3) := by decide +kernel
theorem dX9_say_46 : decode cX9_say 46 = .ok (.iload_n 1, 1) := by decide +kernel
theorem dX9_say_47 : decode cX9_say 47 = .ok (.iastore, 1) := by decide +kernel
theorem dX9_say_48 : decode cX9_say 48 = .ok (.aload_n 0, 1) := by decide +kernel
theorem dX9_say_49 : decode cX9_say 49 = .ok (.dup, 1) := by decide +kernel
theorem dX9_say_50 : decode cX9_say 50 = .ok (.getfield 94, 3) := by decide +kernel
theorem dX9_say_53 : decode cX9_say 53 = .ok (.iconst 1, 1) := by decide +kernel
theorem dX9_say_54 : decode cX9_say 54 = .ok (.iadd, 1) := by decide +kernel
theorem dX9_say_55 : decode cX9_say 55 = .ok (.putfield 94, 3) := by decide +kernel
theorem dX9_say_58 : decode cX9_say 58 = .ok (.aload_n 0, 1) := by decide +kernel
theorem dX9_say_59 : decode cX9_say 59 = .ok (.getfield 94, 3) := by decide +kernel
theorem dX9_say_62 : decode cX9_say 62 = .ok (.ireturn, 1) := by decide +kernel
theorem dX9_clear_0 : decode cX9_clear 0 = .ok (.aload_n 0, 1) := by decide +kernel
theorem dX9_clear_1 : decode cX9_clear 1 = .ok (.iconst 0, 1) := by decide +kernel
theorem dX9_clear_2 : decode cX9_clear 2 = .ok (.putfield 63, 3) := by decide +kernel
theorem dX9_clear_5 : decode cX9_clear 5 = .ok (.aload_n 0, 1) := by decide +kernel
theorem dX9_clear_6 : decode cX9_clear 6 = .ok (.getfield 94, 3) := by decide +kernel
theorem dX9_clear_9 : decode cX9_clear 9 = .ok (.istore_n 1, 1) := by decide +kernel
theorem dX9_clear_10 : decode cX9_clear 10 = .ok (.aload_n 0, 1) := by decide +kernel
theorem dX9_clear_11 : decode cX9_clear 11 = .ok (.iconst 0, 1) := by decide +kernel
theorem dX9_clear_12 : decode cX9_clear 12 = .ok (.putfield 94, 3) := by decide +kernel
theorem dX9_clear_15 : decode cX9_clear 15 = .ok (.iload_n 1, 1) := by decide +kernel
theorem dX9_clear_16 : decode cX9_clear 16 = .ok (.ireturn, 1) := by decide +kernel
theorem dX9_setBare_0 : decode cX9_setBare 0 = .ok (.aload_n 0, 1) := by decide +kernel
theorem dX9_setBare_1 : decode cX9_setBare 1 = .ok (.iload_n 1, 1) := by decide +kernel
theorem dX9_setBare_2 : decode cX9_setBare 2 = .ok (.iconst 1, 1) := by decide +kernel
theorem dX9_setBare_3 : decode cX9_setBare 3 = .ok (.bipush 50, 2) := by decide +kernel
theorem dX9_setBare_5 : decode cX9_setBare 5 = .ok (.invokestatic 66, 3) := by decide +kernel
theorem dX9_setBare_8 : decode cX9_setBare 8 = .ok (.ifCond .eq 7, 3) := by decide +kernel
theorem dX9_setBare_11 : decode cX9_setBare 11 = .ok (.iconst 0, 1) := by decide +kernel
theorem dX9_setBare_12 : decode cX9_setBare 12 = .ok (.goto 4, 3) := by decide +kernel
theorem dX9_setBare_15 : decode cX9_setBare 15 = .ok (.iconst 1, 1) := by decide +kernel
theorem dX9_setBare_16 : decode cX9_setBare 16 = .ok (.putfield 63, 3) := by decide +kernel
theorem dX9_setBare_19 : decode cX9_setBare 19 = .ok (.aload_n 0, 1) := by decide +kernel
theorem dX9_setBare_20 : decode cX9_setBare 20 = .ok (.getfield 63, 3) := by decide +kernel
theorem dX9_setBare_23 : decode cX9_setBare 23 = .ok (.ifCond .le 5, 3) := by decide +kernel
theorem dX9_setBare_26 : decode cX9_setBare 26 = .ok (.iconst 0, 1) := by decide +kernel
theorem dX9_setBare_27 : decode cX9_setBare 27 = .ok (.ireturn, 1) := by decide +kernel
theorem dX9_setBare_28 : decode cX9_setBare 28 = .ok (.aload_n 0, 1) := by decide +kernel
theorem dX9_setBare_29 : decode cX9_setBare 29 = .ok (.getfield 38, 3) := by decide +kernel
theorem dX9_setBare_32 : decode cX9_setBare 32 = .ok (.istore_n 2, 1) := by decide +kernel
theorem dX9_setBare_33 : decode cX9_setBare 33 = .ok (.aload_n 0, 1) := by decide +kernel
theorem dX9_setBare_34 : decode cX9_setBare 34 = .ok (.iload_n 1, 1) := by decide +kernel
theorem dX9_setBare_35 : decode cX9_setBare 35 = .ok (.putfield 38, 3) := by decide +kernel
theorem dX9_setBare_38 : decode cX9_setBare 38 = .ok (.iload_n 2, 1) := by decide +kernel
theorem dX9_setBare_39 : decode cX9_setBare 39 = .ok (.ireturn, 1) := by decide +kernel
theorem dX9_stands_0 : decode cX9_stands 0 = .ok (.iconst 0, 1) := by decide +kernel
theorem dX9_stands_1 : decode cX9_stands 1 = .ok (.istore_n 3, 1) := by decide +kernel
theorem dX9_stands_2 : decode cX9_stands 2 = .ok (.iload_n 2, 1) := by decide +kernel
theorem dX9_stands_3 : decode cX9_stands 3 = .ok (.iload_n 3, 1) := by decide +kernel
theorem dX9_stands_4 : decode cX9_stands 4 = .ok (.ishr, 1) := by decide +kernel
theorem dX9_stands_5 : decode cX9_stands 5 = .ok (.iconst 1, 1) := by decide +kernel
theorem dX9_stands_6 : decode cX9_stands 6 = .ok (.iand, 1) := by decide +kernel
theorem dX9_stands_7 : decode cX9_stands 7 = .ok (.ifCond .ne 9, 3) := by decide +kernel
theorem dX9_stands_10 : decode cX9_stands 10 = .ok (.iinc 3 1, 3) := by decide +kernel
theorem dX9_stands_13 : decode cX9_stands 13 = .ok (.goto (-11), 3) := by decide +kernel
theorem dX9_stands_16 : decode cX9_stands 16 = .ok (.aload_n 0, 1) := by decide +kernel
theorem dX9_stands_17 : decode cX9_stands 17 = .ok (.getfield 26, 3) := by decide +kernel
theorem dX9_stands_20 : decode cX9_stands 20 = .ok (.iload_n 1, 1) := by decide +kernel
theorem dX9_stands_21 : decode cX9_stands 21 = .ok (.iaload, 1) := by decide +kernel
theorem dX9_stands_22 : decode cX9_stands 22 = .ok (.iconst (-1), 1) := by decide +kernel
theorem dX9_stands_23 : decode cX9_stands 23 = .ok (.if_icmp .eq 131, 3) := by decide +kernel
theorem dX9_stands_26 : decode cX9_stands 26 = .ok (.iload_n 3, 1) := by decide +kernel
theorem dX9_stands_27 : decode cX9_stands 27 = .ok (.iconst 1, 1) := by decide +kernel
theorem dX9_stands_28 : decode cX9_stands 28 = .ok (.iadd, 1) := by decide +kernel
theorem dX9_stands_29 : decode cX9_stands 29 = .ok (.istore 4, 2) := by decide +kernel
theorem dX9_stands_31 : decode cX9_stands 31 = .ok (.iload 4, 2) := by decide +kernel
theorem dX9_stands_33 : decode cX9_stands 33 = .ok (.aload_n 0, 1) := by decide +kernel
theorem dX9_stands_34 : decode cX9_stands 34 = .ok (.getfield 94, 3) := by decide +kernel
theorem dX9_stands_37 : decode cX9_stands 37 = .ok (.if_icmp .ge 18, 3) := by decide +kernel
theorem dX9_stands_40 : decode cX9_stands 40 = .ok (.iload_n 2, 1) := by decide +kernel
theorem dX9_stands_41 : decode cX9_stands 41 = .ok (.iload 4, 2) := by decide +kernel
theorem dX9_stands_43 : decode cX9_stands 43 = .ok (.ishr, 1) := by decide +kernel
theorem dX9_stands_44 : decode cX9_stands 44 = .ok (.iconst 1, 1) := by decide +kernel
theorem dX9_stands_45 : decode cX9_stands 45 = .ok (.iand, 1) := by decide +kernel
theorem dX9_stands_46 : decode cX9_stands 46 = .ok (.ifCond .ne 9, 3) := by decide +kernel
theorem dX9_stands_49 : decode cX9_stands 49 = .ok (.iinc 4 1, 3) := by decide +kernel
theorem dX9_stands_52 : decode cX9_stands 52 = .ok (.goto (-21), 3) := by decide +kernel
theorem dX9_stands_55 : decode cX9_stands 55 = .ok (.iload 4, 2) := by decide +kernel
theorem dX9_stands_57 : decode cX9_stands 57 = .ok (.aload_n 0, 1) := by decide +kernel
theorem dX9_stands_58 : decode cX9_stands 58 = .ok (.getfield 94, 3) := by decide +kernel
theorem dX9_stands_61 : decode cX9_stands 61 = .ok (.if_icmp .ge 34, 3) := by decide +kernel
theorem dX9_stands_64 : decode cX9_stands 64 = .ok (.iload_n 2, 1) := by decide +kernel
theorem dX9_stands_65 : decode cX9_stands 65 = .ok (.iconst 1, 1) := by decide +kernel
theorem dX9_stands_66 : decode cX9_stands 66 = .ok (.iload_n 3, 1) := by decide +kernel
theorem dX9_stands_67 : decode cX9_stands 67 = .ok (.ishl, 1) := by decide +kernel
theorem dX9_stands_68 : decode cX9_stands 68 = .ok (.iconst 1, 1) := by decide +kernel
theorem dX9_stands_69 : decode cX9_stands 69 = .ok (.iload 4, 2) := by decide +kernel
theorem dX9_stands_71 : decode cX9_stands 71 = .ok (.ishl, 1) := by decide +kernel
theorem dX9_stands_72 : decode cX9_stands 72 = .ok (.ior, 1) := by decide +kernel
theorem dX9_stands_73 : decode cX9_stands 73 = .ok (.if_icmp .ne 22, 3) := by decide +kernel
theorem dX9_stands_76 : decode cX9_stands 76 = .ok (.iload 4, 2) := by decide +kernel
theorem dX9_stands_78 : decode cX9_stands 78 = .ok (.iload_n 3, 1) := by decide +kernel
theorem dX9_stands_79 : decode cX9_stands 79 = .ok (.isub, 1) := by decide +kernel
theorem dX9_stands_80 : decode cX9_stands 80 = .ok (.iconst 1, 1) := by decide +kernel
theorem dX9_stands_81 : decode cX9_stands 81 = .ok (.isub, 1) := by decide +kernel
theorem dX9_stands_82 : decode cX9_stands 82 = .ok (.aload_n 0, 1) := by decide +kernel
theorem dX9_stands_83 : decode cX9_stands 83 = .ok (.getfield 26, 3) := by decide +kernel
theorem dX9_stands_86 : decode cX9_stands 86 = .ok (.iload_n 1, 1) := by decide +kernel
theorem dX9_stands_87 : decode cX9_stands 87 = .ok (.iaload, 1) := by decide +kernel
theorem dX9_stands_88 : decode cX9_stands 88 = .ok (.if_icmp .gt 7, 3) := by decide +kernel
theorem dX9_stands_91 : decode cX9_stands 91 = .ok (.iconst 1, 1) := by decide +kernel
theorem dX9_stands_92 : decode cX9_stands 92 = .ok (.goto 4, 3) := by decide +kernel
theorem dX9_stands_95 : decode cX9_stands 95 = .ok (.iconst 0, 1) := by decide +kernel
theorem dX9_stands_96 : decode cX9_stands 96 = .ok (.istore 5, 2) := by decide +kernel
theorem dX9_stands_98 : decode cX9_stands 98 = .ok (.iload 5, 2) := by decide +kernel
theorem dX9_stands_100 : decode cX9_stands 100 = .ok (.ifCond .eq 52, 3) := by decide +kernel
theorem dX9_stands_103 : decode cX9_stands 103 = .ok (.aload_n 0, 1) := by decide +kernel
theorem dX9_stands_104 : decode cX9_stands 104 = .ok (.aload_n 0, 1) := by decide +kernel
theorem dX9_stands_105 : decode cX9_stands 105 = .ok (.getfield 35, 3) := by decide +kernel
theorem dX9_stands_108 : decode cX9_stands 108 = .ok (.iload_n 3, 1) := by decide +kernel
theorem dX9_stands_109 : decode cX9_stands 109 = .ok (.iaload, 1) := by decide +kernel
theorem dX9_stands_110 : decode cX9_stands 110 = .ok (.aload_n 0, 1) := by decide +kernel
theorem dX9_stands_111 : decode cX9_stands 111 = .ok (.getfield 32, 3) := by decide +kernel
theorem dX9_stands_114 : decode cX9_stands 114 = .ok (.iconst 4, 1) := by decide +kernel
theorem dX9_stands_115 : decode cX9_stands 115 = .ok (.iload_n 1, 1) := by decide +kernel
theorem dX9_stands_116 : decode cX9_stands 116 = .ok (.imul, 1) := by decide +kernel
theorem dX9_stands_117 : decode cX9_stands 117 = .ok (.iaload, 1) := by decide +kernel
theorem dX9_stands_118 : decode cX9_stands 118 = .ok (.invokevirtual 80, 3) := by decide +kernel
theorem dX9_stands_121 : decode cX9_stands 121 = .ok (.ifCond .eq 31, 3) := by decide +kernel
theorem dX9_stands_124 : decode cX9_stands 124 = .ok (.aload_n 0, 1) := by decide +kernel
theorem dX9_stands_125 : decode cX9_stands 125 = .ok (.aload_n 0, 1) := by decide +kernel
theorem dX9_stands_126 : decode cX9_stands 126 = .ok (.getfield 35, 3) := by decide +kernel
theorem dX9_stands_129 : decode cX9_stands 129 = .ok (.iload 4, 2) := by decide +kernel
theorem dX9_stands_131 : decode cX9_stands 131 = .ok (.iaload, 1) := by decide +kernel
theorem dX9_stands_132 : decode cX9_stands 132 = .ok (.aload_n 0, 1) := by decide +kernel
theorem dX9_stands_133 : decode cX9_stands 133 = .ok (.getfield 32, 3) := by decide +kernel
theorem dX9_stands_136 : decode cX9_stands 136 = .ok (.iconst 4, 1) := by decide +kernel
theorem dX9_stands_137 : decode cX9_stands 137 = .ok (.iload_n 1, 1) := by decide +kernel
theorem dX9_stands_138 : decode cX9_stands 138 = .ok (.imul, 1) := by decide +kernel
theorem dX9_stands_139 : decode cX9_stands 139 = .ok (.iconst 1, 1) := by decide +kernel
theorem dX9_stands_140 : decode cX9_stands 140 = .ok (.iadd, 1) := by decide +kernel
theorem dX9_stands_141 : decode cX9_stands 141 = .ok (.iaload, 1) := by decide +kernel
theorem dX9_stands_142 : decode cX9_stands 142 = .ok (.invokevirtual 80, 3) := by decide +kernel
theorem dX9_stands_145 : decode cX9_stands 145 = .ok (.ifCond .eq 7, 3) := by decide +kernel
theorem dX9_stands_148 : decode cX9_stands 148 = .ok (.iconst 1, 1) := by decide +kernel
theorem dX9_stands_149 : decode cX9_stands 149 = .ok (.goto 4, 3) := by decide +kernel
theorem dX9_stands_152 : decode cX9_stands 152 = .ok (.iconst 0, 1) := by decide +kernel
theorem dX9_stands_153 : decode cX9_stands 153 = .ok (.ireturn, 1) := by decide +kernel
theorem dX9_stands_154 : decode cX9_stands 154 = .ok (.iconst 0, 1) := by decide +kernel
theorem dX9_stands_155 : decode cX9_stands 155 = .ok (.istore 4, 2) := by decide +kernel
theorem dX9_stands_157 : decode cX9_stands 157 = .ok (.iload_n 3, 1) := by decide +kernel
theorem dX9_stands_158 : decode cX9_stands 158 = .ok (.aload_n 0, 1) := by decide +kernel
theorem dX9_stands_159 : decode cX9_stands 159 = .ok (.getfield 29, 3) := by decide +kernel
theorem dX9_stands_162 : decode cX9_stands 162 = .ok (.iload_n 1, 1) := by decide +kernel
theorem dX9_stands_163 : decode cX9_stands 163 = .ok (.iaload, 1) := by decide +kernel
theorem dX9_stands_164 : decode cX9_stands 164 = .ok (.iadd, 1) := by decide +kernel
theorem dX9_stands_165 : decode cX9_stands 165 = .ok (.aload_n 0, 1) := by decide +kernel
theorem dX9_stands_166 : decode cX9_stands 166 = .ok (.getfield 94, 3) := by decide +kernel
theorem dX9_stands_169 : decode cX9_stands 169 = .ok (.if_icmp .gt 7, 3) := by decide +kernel
theorem dX9_stands_172 : decode cX9_stands 172 = .ok (.iconst 1, 1) := by decide +kernel
theorem dX9_stands_173 : decode cX9_stands 173 = .ok (.goto 4, 3) := by decide +kernel
theorem dX9_stands_176 : decode cX9_stands 176 = .ok (.iconst 0, 1) := by decide +kernel
theorem dX9_stands_177 : decode cX9_stands 177 = .ok (.istore 5, 2) := by decide +kernel
theorem dX9_stands_179 : decode cX9_stands 179 = .ok (.iconst 0, 1) := by decide +kernel
theorem dX9_stands_180 : decode cX9_stands 180 = .ok (.istore 6, 2) := by decide +kernel
theorem dX9_stands_182 : decode cX9_stands 182 = .ok (.iload 6, 2) := by decide +kernel
theorem dX9_stands_184 : decode cX9_stands 184 = .ok (.aload_n 0, 1) := by decide +kernel
theorem dX9_stands_185 : decode cX9_stands 185 = .ok (.getfield 29, 3) := by decide +kernel
theorem dX9_stands_188 : decode cX9_stands 188 = .ok (.iload_n 1, 1) := by decide +kernel
theorem dX9_stands_189 : decode cX9_stands 189 = .ok (.iaload, 1) := by decide +kernel
theorem dX9_stands_190 : decode cX9_stands 190 = .ok (.if_icmp .ge 79, 3) := by decide +kernel
theorem dX9_stands_193 : decode cX9_stands 193 = .ok (.iload 5, 2) := by decide +kernel
theorem dX9_stands_195 : decode cX9_stands 195 = .ok (.ifCond .eq 74, 3) := by decide +kernel
theorem dX9_stands_198 : decode cX9_stands 198 = .ok (.aload_n 0, 1) := by decide +kernel
theorem dX9_stands_199 : decode cX9_stands 199 = .ok (.getfield 32, 3) := by decide +kernel
theorem dX9_stands_202 : decode cX9_stands 202 = .ok (.iconst 4, 1) := by decide +kernel
theorem dX9_stands_203 : decode cX9_stands 203 = .ok (.iload_n 1, 1) := by decide +kernel
theorem dX9_stands_204 : decode cX9_stands 204 = .ok (.imul, 1) := by decide +kernel
theorem dX9_stands_205 : decode cX9_stands 205 = .ok (.iload 6, 2) := by decide +kernel
theorem dX9_stands_207 : decode cX9_stands 207 = .ok (.iadd, 1) := by decide +kernel
theorem dX9_stands_208 : decode cX9_stands 208 = .ok (.iaload, 1) := by decide +kernel
theorem dX9_stands_209 : decode cX9_stands 209 = .ok (.istore 7, 2) := by decide +kernel
theorem dX9_stands_211 : decode cX9_stands 211 = .ok (.iload 4, 2) := by decide +kernel
theorem dX9_stands_213 : decode cX9_stands 213 = .ok (.iload 7, 2) := by decide +kernel
theorem dX9_stands_215 : decode cX9_stands 215 = .ok (.iconst (-1), 1) := by decide +kernel
theorem dX9_stands_216 : decode cX9_stands 216 = .ok (.if_icmp .ne 7, 3) := by decide +kernel
theorem dX9_stands_219 : decode cX9_stands 219 = .ok (.iconst 0, 1) := by decide +kernel
theorem dX9_stands_220 : decode cX9_stands 220 = .ok (.goto 9, 3) := by decide +kernel
theorem dX9_stands_223 : decode cX9_stands 223 = .ok (.iconst 1, 1) := by decide +kernel
theorem dX9_stands_224 : decode cX9_stands 224 = .ok (.iload_n 3, 1) := by decide +kernel
theorem dX9_stands_225 : decode cX9_stands 225 = .ok (.iload 6, 2) := by decide +kernel
theorem dX9_stands_227 : decode cX9_stands 227 = .ok (.iadd, 1) := by decide +kernel
theorem dX9_stands_228 : decode cX9_stands 228 = .ok (.ishl, 1) := by decide +kernel
theorem dX9_stands_229 : decode cX9_stands 229 = .ok (.ior, 1) := by decide +kernel
theorem dX9_stands_230 : decode cX9_stands 230 = .ok (.istore 4, 2) := by decide +kernel
theorem dX9_stands_232 : decode cX9_stands 232 = .ok (.iload 7, 2) := by decide +kernel
theorem dX9_stands_234 : decode cX9_stands 234 = .ok (.iconst (-1), 1) := by decide +kernel
theorem dX9_stands_235 : decode cX9_stands 235 = .ok (.if_icmp .eq 21, 3) := by decide +kernel
theorem dX9_stands_238 : decode cX9_stands 238 = .ok (.aload_n 0, 1) := by decide +kernel
theorem dX9_stands_239 : decode cX9_stands 239 = .ok (.aload_n 0, 1) := by decide +kernel
theorem dX9_stands_240 : decode cX9_stands 240 = .ok (.getfield 35, 3) := by decide +kernel
theorem dX9_stands_243 : decode cX9_stands 243 = .ok (.iload_n 3, 1) := by decide +kernel
theorem dX9_stands_244 : decode cX9_stands 244 = .ok (.iload 6, 2) := by decide +kernel
theorem dX9_stands_246 : decode cX9_stands 246 = .ok (.iadd, 1) := by decide +kernel
theorem dX9_stands_247 : decode cX9_stands 247 = .ok (.iaload, 1) := by decide +kernel
theorem dX9_stands_248 : decode cX9_stands 248 = .ok (.iload 7, 2) := by decide +kernel
theorem dX9_stands_250 : decode cX9_stands 250 = .ok (.invokevirtual 80, 3) := by decide +kernel
theorem dX9_stands_253 : decode cX9_stands 253 = .ok (.ifCond .eq 7, 3) := by decide +kernel
theorem dX9_stands_256 : decode cX9_stands 256 = .ok (.iconst 1, 1) := by decide +kernel
theorem dX9_stands_257 : decode cX9_stands 257 = .ok (.goto 4, 3) := by decide +kernel
theorem dX9_stands_260 : decode cX9_stands 260 = .ok (.iconst 0, 1) := by decide +kernel
theorem dX9_stands_261 : decode cX9_stands 261 = .ok (.istore 5, 2) := by decide +kernel
theorem dX9_stands_263 : decode cX9_stands 263 = .ok (.iinc 6 1, 3) := by decide +kernel
theorem dX9_stands_266 : decode cX9_stands 266 = .ok (.goto (-84), 3) := by decide +kernel
theorem dX9_stands_269 : decode cX9_stands 269 = .ok (.iload 5, 2) := by decide +kernel
theorem dX9_stands_271 : decode cX9_stands 271 = .ok (.ifCond .eq 13, 3) := by decide +kernel
theorem dX9_stands_274 : decode cX9_stands 274 = .ok (.iload 4, 2) := by decide +kernel
theorem dX9_stands_276 : decode cX9_stands 276 = .ok (.iload_n 2, 1) := by decide +kernel
theorem dX9_stands_277 : decode cX9_stands 277 = .ok (.if_icmp .ne 7, 3) := by decide +kernel
theorem dX9_stands_280 : decode cX9_stands 280 = .ok (.iconst 1, 1) := by decide +kernel
theorem dX9_stands_281 : decode cX9_stands 281 = .ok (.goto 4, 3) := by decide +kernel
theorem dX9_stands_284 : decode cX9_stands 284 = .ok (.iconst 0, 1) := by decide +kernel
theorem dX9_stands_285 : decode cX9_stands 285 = .ok (.ireturn, 1) := by decide +kernel
theorem dX9_finds_0 : decode cX9_finds 0 = .ok (.aload_n 0, 1) := by decide +kernel
theorem dX9_finds_1 : decode cX9_finds 1 = .ok (.iconst 0, 1) := by decide +kernel
theorem dX9_finds_2 : decode cX9_finds 2 = .ok (.putfield 97, 3) := by decide +kernel
theorem dX9_finds_5 : decode cX9_finds 5 = .ok (.iconst 0, 1) := by decide +kernel
theorem dX9_finds_6 : decode cX9_finds 6 = .ok (.istore_n 1, 1) := by decide +kernel
theorem dX9_finds_7 : decode cX9_finds 7 = .ok (.iload_n 1, 1) := by decide +kernel
theorem dX9_finds_8 : decode cX9_finds 8 = .ok (.aload_n 0, 1) := by decide +kernel
theorem dX9_finds_9 : decode cX9_finds 9 = .ok (.getfield 70, 3) := by decide +kernel
theorem dX9_finds_12 : decode cX9_finds 12 = .ok (.if_icmp .ge 75, 3) := by decide +kernel
theorem dX9_finds_15 : decode cX9_finds 15 = .ok (.iconst 1, 1) := by decide +kernel
theorem dX9_finds_16 : decode cX9_finds 16 = .ok (.istore_n 2, 1) := by decide +kernel
theorem dX9_finds_17 : decode cX9_finds 17 = .ok (.iload_n 2, 1) := by decide +kernel
theorem dX9_finds_18 : decode cX9_finds 18 = .ok (.iconst 1, 1) := by decide +kernel
theorem dX9_finds_19 : decode cX9_finds 19 = .ok (.aload_n 0, 1) := by decide +kernel
theorem dX9_finds_20 : decode cX9_finds 20 = .ok (.getfield 94, 3) := by decide +kernel
theorem dX9_finds_23 : decode cX9_finds 23 = .ok (.ishl, 1) := by decide +kernel
theorem dX9_finds_24 : decode cX9_finds 24 = .ok (.if_icmp .ge 57, 3) := by decide +kernel
theorem dX9_finds_27 : decode cX9_finds 27 = .ok (.aload_n 0, 1) := by decide +kernel
theorem dX9_finds_28 : decode cX9_finds 28 = .ok (.getfield 19, 3) := by decide +kernel
theorem dX9_finds_31 : decode cX9_finds 31 = .ok (.iload_n 1, 1) := by decide +kernel
theorem dX9_finds_32 : decode cX9_finds 32 = .ok (.baload, 1) := by decide +kernel
theorem dX9_finds_33 : decode cX9_finds 33 = .ok (.ifCond .eq 48, 3) := by decide +kernel
theorem dX9_finds_36 : decode cX9_finds 36 = .ok (.aload_n 0, 1) := by decide +kernel
theorem dX9_finds_37 : decode cX9_finds 37 = .ok (.iload_n 1, 1) := by decide +kernel
theorem dX9_finds_38 : decode cX9_finds 38 = .ok (.iload_n 2, 1) := by decide +kernel
theorem dX9_finds_39 : decode cX9_finds 39 = .ok (.invokevirtual 100, 3) := by decide +kernel
theorem dX9_finds_42 : decode cX9_finds 42 = .ok (.ifCond .eq 33, 3) := by decide +kernel
theorem dX9_finds_45 : decode cX9_finds 45 = .ok (.aload_n 0, 1) := by decide +kernel
theorem dX9_finds_46 : decode cX9_finds 46 = .ok (.getfield 42, 3) := by decide +kernel
theorem dX9_finds_49 : decode cX9_finds 49 = .ok (.aload_n 0, 1) := by decide +kernel
theorem dX9_finds_50 : decode cX9_finds 50 = .ok (.getfield 97, 3) := by decide +kernel
theorem dX9_finds_53 : decode cX9_finds 53 = .ok (.iload_n 1, 1) := by decide +kernel
theorem dX9_finds_54 : decode cX9_finds 54 = .ok (.iastore, 1) := by decide +kernel
theorem dX9_finds_55 : decode cX9_finds 55 = .ok (.aload_n 0, 1) := by decide +kernel
theorem dX9_finds_56 : decode cX9_finds 56 = .ok (.getfield 45, 3) := by decide +kernel
theorem dX9_finds_59 : decode cX9_finds 59 = .ok (.aload_n 0, 1) := by decide +kernel
theorem dX9_finds_60 : decode cX9_finds 60 = .ok (.getfield 97, 3) := by decide +kernel
theorem dX9_finds_63 : decode cX9_finds 63 = .ok (.iload_n 2, 1) := by decide +kernel
theorem dX9_finds_64 : decode cX9_finds 64 = .ok (.iastore, 1) := by decide +kernel
theorem dX9_finds_65 : decode cX9_finds 65 = .ok (.aload_n 0, 1) := by decide +kernel
theorem dX9_finds_66 : decode cX9_finds 66 = .ok (.dup, 1) := by decide +kernel
theorem dX9_finds_67 : decode cX9_finds 67 = .ok (.getfield 97, 3) := by decide +kernel
theorem dX9_finds_70 : decode cX9_finds 70 = .ok (.iconst 1, 1) := by decide +kernel
theorem dX9_finds_71 : decode cX9_finds 71 = .ok (.iadd, 1) := by decide +kernel
theorem dX9_finds_72 : decode cX9_finds 72 = .ok (.putfield 97, 3) := by decide +kernel
theorem dX9_finds_75 : decode cX9_finds 75 = .ok (.iinc 2 1, 3) := by decide +kernel
theorem dX9_finds_78 : decode cX9_finds 78 = .ok (.goto (-61), 3) := by decide +kernel
theorem dX9_finds_81 : decode cX9_finds 81 = .ok (.iinc 1 1, 3) := by decide +kernel
theorem dX9_finds_84 : decode cX9_finds 84 = .ok (.goto (-77), 3) := by decide +kernel
theorem dX9_finds_87 : decode cX9_finds 87 = .ok (.return_, 1) := by decide +kernel
theorem dX9_firstFree_0 : decode cX9_firstFree 0 = .ok (.iconst 0, 1) := by decide +kernel
theorem dX9_firstFree_1 : decode cX9_firstFree 1 = .ok (.istore_n 2, 1) := by decide +kernel
theorem dX9_firstFree_2 : decode cX9_firstFree 2 = .ok (.iload_n 1, 1) := by decide +kernel
theorem dX9_firstFree_3 : decode cX9_firstFree 3 = .ok (.iload_n 2, 1) := by decide +kernel
theorem dX9_firstFree_4 : decode cX9_firstFree 4 = .ok (.ishr, 1) := by decide +kernel
theorem dX9_firstFree_5 : decode cX9_firstFree 5 = .ok (.iconst 1, 1) := by decide +kernel
theorem dX9_firstFree_6 : decode cX9_firstFree 6 = .ok (.iand, 1) := by decide +kernel
theorem dX9_firstFree_7 : decode cX9_firstFree 7 = .ok (.iconst 1, 1) := by decide +kernel
theorem dX9_firstFree_8 : decode cX9_firstFree 8 = .ok (.if_icmp .ne 9, 3) := by decide +kernel
theorem dX9_firstFree_11 : decode cX9_firstFree 11 = .ok (.iinc 2 1, 3) := by decide +kernel
theorem dX9_firstFree_14 : decode cX9_firstFree 14 = .ok (.goto (-12), 3) := by decide +kernel
theorem dX9_firstFree_17 : decode cX9_firstFree 17 = .ok (.iload_n 2, 1) := by decide +kernel
theorem dX9_firstFree_18 : decode cX9_firstFree 18 = .ok (.ireturn, 1) := by decide +kernel
theorem dX9_covers_0 : decode cX9_covers 0 = .ok (.aload_n 0, 1) := by decide +kernel
theorem dX9_covers_1 : decode cX9_covers 1 = .ok (.invokevirtual 103, 3) := by decide +kernel
theorem dX9_covers_4 : decode cX9_covers 4 = .ok (.iconst 1, 1) := by decide +kernel
theorem dX9_covers_5 : decode cX9_covers 5 = .ok (.aload_n 0, 1) := by decide +kernel
theorem dX9_covers_6 : decode cX9_covers 6 = .ok (.getfield 94, 3) := by decide +kernel
theorem dX9_covers_9 : decode cX9_covers 9 = .ok (.ishl, 1) := by decide +kernel
theorem dX9_covers_10 : decode cX9_covers 10 = .ok (.iconst 1, 1) := by decide +kernel
theorem dX9_covers_11 : decode cX9_covers 11 = .ok (.isub, 1) := by decide +kernel
theorem dX9_covers_12 : decode cX9_covers 12 = .ok (.istore_n 1, 1) := by decide +kernel
theorem dX9_covers_13 : decode cX9_covers 13 = .ok (.aload_n 0, 1) := by decide +kernel
theorem dX9_covers_14 : decode cX9_covers 14 = .ok (.getfield 48, 3) := by decide +kernel
theorem dX9_covers_17 : decode cX9_covers 17 = .ok (.iload_n 1, 1) := by decide +kernel
theorem dX9_covers_18 : decode cX9_covers 18 = .ok (.iconst 0, 1) := by decide +kernel
theorem dX9_covers_19 : decode cX9_covers 19 = .ok (.iastore, 1) := by decide +kernel
theorem dX9_covers_20 : decode cX9_covers 20 = .ok (.iload_n 1, 1) := by decide +kernel
theorem dX9_covers_21 : decode cX9_covers 21 = .ok (.iconst 1, 1) := by decide +kernel
theorem dX9_covers_22 : decode cX9_covers 22 = .ok (.isub, 1) := by decide +kernel
theorem dX9_covers_23 : decode cX9_covers 23 = .ok (.istore_n 2, 1) := by decide +kernel
theorem dX9_covers_24 : decode cX9_covers 24 = .ok (.iload_n 2, 1) := by decide +kernel
theorem dX9_covers_25 : decode cX9_covers 25 = .ok (.ifCond .lt 159, 3) := by decide +kernel
theorem dX9_covers_28 : decode cX9_covers 28 = .ok (.aload_n 0, 1) := by decide +kernel
theorem dX9_covers_29 : decode cX9_covers 29 = .ok (.iload_n 2, 1) := by decide +kernel
theorem dX9_covers_30 : decode cX9_covers 30 = .ok (.invokevirtual 106, 3) := by decide +kernel
theorem dX9_covers_33 : decode cX9_covers 33 = .ok (.istore_n 3, 1) := by decide +kernel
theorem dX9_covers_34 : decode cX9_covers 34 = .ok (.aload_n 0, 1) := by decide +kernel
theorem dX9_covers_35 : decode cX9_covers 35 = .ok (.getfield 48, 3) := by decide +kernel
theorem dX9_covers_38 : decode cX9_covers 38 = .ok (.iload_n 2, 1) := by decide +kernel
theorem dX9_covers_39 : decode cX9_covers 39 = .ok (.aload_n 0, 1) := by decide +kernel
theorem dX9_covers_40 : decode cX9_covers 40 = .ok (.getfield 38, 3) := by decide +kernel
theorem dX9_covers_43 : decode cX9_covers 43 = .ok (.aload_n 0, 1) := by decide +kernel
theorem dX9_covers_44 : decode cX9_covers 44 = .ok (.getfield 48, 3) := by decide +kernel
theorem dX9_covers_47 : decode cX9_covers 47 = .ok (.iload_n 2, 1) := by decide +kernel
theorem dX9_covers_48 : decode cX9_covers 48 = .ok (.iconst 1, 1) := by decide +kernel
theorem dX9_covers_49 : decode cX9_covers 49 = .ok (.iload_n 3, 1) := by decide +kernel
theorem dX9_covers_50 : decode cX9_covers 50 = .ok (.ishl, 1) := by decide +kernel
theorem dX9_covers_51 : decode cX9_covers 51 = .ok (.ior, 1) := by decide +kernel
theorem dX9_covers_52 : decode cX9_covers 52 = .ok (.iaload, 1) := by decide +kernel
theorem dX9_covers_53 : decode cX9_covers 53 = .ok (.iadd, 1) := by decide +kernel
theorem dX9_covers_54 : decode cX9_covers 54 = .ok (.iastore, 1) := by decide +kernel
theorem dX9_covers_55 : decode cX9_covers 55 = .ok (.iconst 0, 1) := by decide +kernel
theorem dX9_covers_56 : decode cX9_covers 56 = .ok (.istore 4, 2) := by decide +kernel
theorem dX9_covers_58 : decode cX9_covers 58 = .ok (.iload 4, 2) := by decide +kernel
theorem dX9_covers_60 : decode cX9_covers 60 = .ok (.aload_n 0, 1) := by decide +kernel
theorem dX9_covers_61 : decode cX9_covers 61 = .ok (.getfield 97, 3) := by decide +kernel
theorem dX9_covers_64 : decode cX9_covers 64 = .ok (.if_icmp .ge 114, 3) := by decide +kernel
theorem dX9_covers_67 : decode cX9_covers 67 = .ok (.aload_n 0, 1) := by decide +kernel
theorem dX9_covers_68 : decode cX9_covers 68 = .ok (.getfield 45, 3) := by decide +kernel
theorem dX9_covers_71 : decode cX9_covers 71 = .ok (.iload 4, 2) := by decide +kernel
theorem dX9_covers_73 : decode cX9_covers 73 = .ok (.iaload, 1) := by decide +kernel
theorem dX9_covers_74 : decode cX9_covers 74 = .ok (.iload_n 3, 1) := by decide +kernel
theorem dX9_covers_75 : decode cX9_covers 75 = .ok (.ishr, 1) := by decide +kernel
theorem dX9_covers_76 : decode cX9_covers 76 = .ok (.iconst 1, 1) := by decide +kernel
theorem dX9_covers_77 : decode cX9_covers 77 = .ok (.iand, 1) := by decide +kernel
theorem dX9_covers_78 : decode cX9_covers 78 = .ok (.iconst 1, 1) := by decide +kernel
theorem dX9_covers_79 : decode cX9_covers 79 = .ok (.if_icmp .ne 19, 3) := by decide +kernel
theorem dX9_covers_82 : decode cX9_covers 82 = .ok (.aload_n 0, 1) := by decide +kernel
theorem dX9_covers_83 : decode cX9_covers 83 = .ok (.getfield 45, 3) := by decide +kernel
theorem dX9_covers_86 : decode cX9_covers 86 = .ok (.iload 4, 2) := by decide +kernel
theorem dX9_covers_88 : decode cX9_covers 88 = .ok (.iaload, 1) := by decide +kernel
theorem dX9_covers_89 : decode cX9_covers 89 = .ok (.iload_n 2, 1) := by decide +kernel
theorem dX9_covers_90 : decode cX9_covers 90 = .ok (.iand, 1) := by decide +kernel
theorem dX9_covers_91 : decode cX9_covers 91 = .ok (.ifCond .ne 7, 3) := by decide +kernel
theorem dX9_covers_94 : decode cX9_covers 94 = .ok (.iconst 1, 1) := by decide +kernel
theorem dX9_covers_95 : decode cX9_covers 95 = .ok (.goto 4, 3) := by decide +kernel
theorem dX9_covers_98 : decode cX9_covers 98 = .ok (.iconst 0, 1) := by decide +kernel
theorem dX9_covers_99 : decode cX9_covers 99 = .ok (.istore 5, 2) := by decide +kernel
theorem dX9_covers_101 : decode cX9_covers 101 = .ok (.iload 5, 2) := by decide +kernel
theorem dX9_covers_103 : decode cX9_covers 103 = .ok (.ifCond .eq 33, 3) := by decide +kernel
theorem dX9_covers_106 : decode cX9_covers 106 = .ok (.aload_n 0, 1) := by decide +kernel
theorem dX9_covers_107 : decode cX9_covers 107 = .ok (.getfield 23, 3) := by decide +kernel
theorem dX9_covers_110 : decode cX9_covers 110 = .ok (.aload_n 0, 1) := by decide +kernel
theorem dX9_covers_111 : decode cX9_covers 111 = .ok (.getfield 42, 3) := by decide +kernel
theorem dX9_covers_114 : decode cX9_covers 114 = .ok (.iload 4, 2) := by decide +kernel
theorem dX9_covers_116 : decode cX9_covers 116 = .ok (.iaload, 1) := by decide +kernel
theorem dX9_covers_117 : decode cX9_covers 117 = .ok (.iaload, 1) := by decide +kernel
theorem dX9_covers_118 : decode cX9_covers 118 = .ok (.aload_n 0, 1) := by decide +kernel
theorem dX9_covers_119 : decode cX9_covers 119 = .ok (.getfield 48, 3) := by decide +kernel
theorem dX9_covers_122 : decode cX9_covers 122 = .ok (.iload_n 2, 1) := by decide +kernel
theorem dX9_covers_123 : decode cX9_covers 123 = .ok (.aload_n 0, 1) := by decide +kernel
theorem dX9_covers_124 : decode cX9_covers 124 = .ok (.getfield 45, 3) := by decide +kernel
theorem dX9_covers_127 : decode cX9_covers 127 = .ok (.iload 4, 2) := by decide +kernel
theorem dX9_covers_129 : decode cX9_covers 129 = .ok (.iaload, 1) := by decide +kernel
theorem dX9_covers_130 : decode cX9_covers 130 = .ok (.ior, 1) := by decide +kernel
theorem dX9_covers_131 : decode cX9_covers 131 = .ok (.iaload, 1) := by decide +kernel
theorem dX9_covers_132 : decode cX9_covers 132 = .ok (.iadd, 1) := by decide +kernel
theorem dX9_covers_133 : decode cX9_covers 133 = .ok (.goto 9, 3) := by decide +kernel
theorem dX9_covers_136 : decode cX9_covers 136 = .ok (.aload_n 0, 1) := by decide +kernel
theorem dX9_covers_137 : decode cX9_covers 137 = .ok (.getfield 48, 3) := by decide +kernel
theorem dX9_covers_140 : decode cX9_covers 140 = .ok (.iload_n 2, 1) := by decide +kernel
theorem dX9_covers_141 : decode cX9_covers 141 = .ok (.iaload, 1) := by decide +kernel
theorem dX9_covers_142 : decode cX9_covers 142 = .ok (.istore 6, 2) := by decide +kernel
theorem dX9_covers_144 : decode cX9_covers 144 = .ok (.aload_n 0, 1) := by decide +kernel
theorem dX9_covers_145 : decode cX9_covers 145 = .ok (.getfield 48, 3) := by decide +kernel
theorem dX9_covers_148 : decode cX9_covers 148 = .ok (.iload_n 2, 1) := by decide +kernel
theorem dX9_covers_149 : decode cX9_covers 149 = .ok (.iload 6, 2) := by decide +kernel
theorem dX9_covers_151 : decode cX9_covers 151 = .ok (.aload_n 0, 1) := by decide +kernel
theorem dX9_covers_152 : decode cX9_covers 152 = .ok (.getfield 48, 3) := by decide +kernel
theorem dX9_covers_155 : decode cX9_covers 155 = .ok (.iload_n 2, 1) := by decide +kernel
theorem dX9_covers_156 : decode cX9_covers 156 = .ok (.iaload, 1) := by decide +kernel
theorem dX9_covers_157 : decode cX9_covers 157 = .ok (.if_icmp .ge 8, 3) := by decide +kernel
theorem dX9_covers_160 : decode cX9_covers 160 = .ok (.iload 6, 2) := by decide +kernel
theorem dX9_covers_162 : decode cX9_covers 162 = .ok (.goto 9, 3) := by decide +kernel
theorem dX9_covers_165 : decode cX9_covers 165 = .ok (.aload_n 0, 1) := by decide +kernel
theorem dX9_covers_166 : decode cX9_covers 166 = .ok (.getfield 48, 3) := by decide +kernel
theorem dX9_covers_169 : decode cX9_covers 169 = .ok (.iload_n 2, 1) := by decide +kernel
theorem dX9_covers_170 : decode cX9_covers 170 = .ok (.iaload, 1) := by decide +kernel
theorem dX9_covers_171 : decode cX9_covers 171 = .ok (.iastore, 1) := by decide +kernel
theorem dX9_covers_172 : decode cX9_covers 172 = .ok (.iinc 4 1, 3) := by decide +kernel
theorem dX9_covers_175 : decode cX9_covers 175 = .ok (.goto (-117), 3) := by decide +kernel
theorem dX9_covers_178 : decode cX9_covers 178 = .ok (.iinc 2 (-1), 3) := by decide +kernel
theorem dX9_covers_181 : decode cX9_covers 181 = .ok (.goto (-157), 3) := by decide +kernel
theorem dX9_covers_184 : decode cX9_covers 184 = .ok (.iconst 0, 1) := by decide +kernel
theorem dX9_covers_185 : decode cX9_covers 185 = .ok (.istore_n 2, 1) := by decide +kernel
theorem dX9_covers_186 : decode cX9_covers 186 = .ok (.iload_n 2, 1) := by decide +kernel
theorem dX9_covers_187 : decode cX9_covers 187 = .ok (.iload_n 1, 1) := by decide +kernel
theorem dX9_covers_188 : decode cX9_covers 188 = .ok (.if_icmp .ge 19, 3) := by decide +kernel
theorem dX9_covers_191 : decode cX9_covers 191 = .ok (.iload_n 2, 1) := by decide +kernel
theorem dX9_covers_192 : decode cX9_covers 192 = .ok (.aload_n 0, 1) := by decide +kernel
theorem dX9_covers_193 : decode cX9_covers 193 = .ok (.iload_n 2, 1) := by decide +kernel
theorem dX9_covers_194 : decode cX9_covers 194 = .ok (.aload_n 0, 1) := by decide +kernel
theorem dX9_covers_195 : decode cX9_covers 195 = .ok (.iload_n 2, 1) := by decide +kernel
theorem dX9_covers_196 : decode cX9_covers 196 = .ok (.invokevirtual 106, 3) := by decide +kernel
theorem dX9_covers_199 : decode cX9_covers 199 = .ok (.invokevirtual 110, 3) := by decide +kernel
theorem dX9_covers_202 : decode cX9_covers 202 = .ok (.ior, 1) := by decide +kernel
theorem dX9_covers_203 : decode cX9_covers 203 = .ok (.istore_n 2, 1) := by decide +kernel
theorem dX9_covers_204 : decode cX9_covers 204 = .ok (.goto (-18), 3) := by decide +kernel
theorem dX9_covers_207 : decode cX9_covers 207 = .ok (.aload_n 0, 1) := by decide +kernel
theorem dX9_covers_208 : decode cX9_covers 208 = .ok (.getfield 48, 3) := by decide +kernel
theorem dX9_covers_211 : decode cX9_covers 211 = .ok (.iconst 0, 1) := by decide +kernel
theorem dX9_covers_212 : decode cX9_covers 212 = .ok (.iaload, 1) := by decide +kernel
theorem dX9_covers_213 : decode cX9_covers 213 = .ok (.ireturn, 1) := by decide +kernel
theorem dX9_chooses_0 : decode cX9_chooses 0 = .ok (.iconst 0, 1) := by decide +kernel
theorem dX9_chooses_1 : decode cX9_chooses 1 = .ok (.istore_n 3, 1) := by decide +kernel
theorem dX9_chooses_2 : decode cX9_chooses 2 = .ok (.iload_n 3, 1) := by decide +kernel
theorem dX9_chooses_3 : decode cX9_chooses 3 = .ok (.aload_n 0, 1) := by decide +kernel
theorem dX9_chooses_4 : decode cX9_chooses 4 = .ok (.getfield 97, 3) := by decide +kernel
theorem dX9_chooses_7 : decode cX9_chooses 7 = .ok (.if_icmp .ge 146, 3) := by decide +kernel
theorem dX9_chooses_10 : decode cX9_chooses 10 = .ok (.aload_n 0, 1) := by decide +kernel
theorem dX9_chooses_11 : decode cX9_chooses 11 = .ok (.getfield 45, 3) := by decide +kernel
theorem dX9_chooses_14 : decode cX9_chooses 14 = .ok (.iload_n 3, 1) := by decide +kernel
theorem dX9_chooses_15 : decode cX9_chooses 15 = .ok (.iaload, 1) := by decide +kernel
theorem dX9_chooses_16 : decode cX9_chooses 16 = .ok (.iload_n 2, 1) := by decide +kernel
theorem dX9_chooses_17 : decode cX9_chooses 17 = .ok (.ishr, 1) := by decide +kernel
theorem dX9_chooses_18 : decode cX9_chooses 18 = .ok (.iconst 1, 1) := by decide +kernel
theorem dX9_chooses_19 : decode cX9_chooses 19 = .ok (.iand, 1) := by decide +kernel
theorem dX9_chooses_20 : decode cX9_chooses 20 = .ok (.iconst 1, 1) := by decide +kernel
theorem dX9_chooses_21 : decode cX9_chooses 21 = .ok (.if_icmp .ne 18, 3) := by decide +kernel
theorem dX9_chooses_24 : decode cX9_chooses 24 = .ok (.aload_n 0, 1) := by decide +kernel
theorem dX9_chooses_25 : decode cX9_chooses 25 = .ok (.getfield 45, 3) := by decide +kernel
theorem dX9_chooses_28 : decode cX9_chooses 28 = .ok (.iload_n 3, 1) := by decide +kernel
theorem dX9_chooses_29 : decode cX9_chooses 29 = .ok (.iaload, 1) := by decide +kernel
theorem dX9_chooses_30 : decode cX9_chooses 30 = .ok (.iload_n 1, 1) := by decide +kernel
theorem dX9_chooses_31 : decode cX9_chooses 31 = .ok (.iand, 1) := by decide +kernel
theorem dX9_chooses_32 : decode cX9_chooses 32 = .ok (.ifCond .ne 7, 3) := by decide +kernel
theorem dX9_chooses_35 : decode cX9_chooses 35 = .ok (.iconst 1, 1) := by decide +kernel
theorem dX9_chooses_36 : decode cX9_chooses 36 = .ok (.goto 4, 3) := by decide +kernel
theorem dX9_chooses_39 : decode cX9_chooses 39 = .ok (.iconst 0, 1) := by decide +kernel
theorem dX9_chooses_40 : decode cX9_chooses 40 = .ok (.istore 4, 2) := by decide +kernel
theorem dX9_chooses_42 : decode cX9_chooses 42 = .ok (.iload 4, 2) := by decide +kernel
theorem dX9_chooses_44 : decode cX9_chooses 44 = .ok (.ifCond .eq 103, 3) := by decide +kernel
theorem dX9_chooses_47 : decode cX9_chooses 47 = .ok (.aload_n 0, 1) := by decide +kernel
theorem dX9_chooses_48 : decode cX9_chooses 48 = .ok (.getfield 23, 3) := by decide +kernel
theorem dX9_chooses_51 : decode cX9_chooses 51 = .ok (.aload_n 0, 1) := by decide +kernel
theorem dX9_chooses_52 : decode cX9_chooses 52 = .ok (.getfield 42, 3) := by decide +kernel
theorem dX9_chooses_55 : decode cX9_chooses 55 = .ok (.iload_n 3, 1) := by decide +kernel
theorem dX9_chooses_56 : decode cX9_chooses 56 = .ok (.iaload, 1) := by decide +kernel
theorem dX9_chooses_57 : decode cX9_chooses 57 = .ok (.iaload, 1) := by decide +kernel
theorem dX9_chooses_58 : decode cX9_chooses 58 = .ok (.aload_n 0, 1) := by decide +kernel
theorem dX9_chooses_59 : decode cX9_chooses 59 = .ok (.getfield 48, 3) := by decide +kernel
theorem dX9_chooses_62 : decode cX9_chooses 62 = .ok (.iload_n 1, 1) := by decide +kernel
theorem dX9_chooses_63 : decode cX9_chooses 63 = .ok (.aload_n 0, 1) := by decide +kernel
theorem dX9_chooses_64 : decode cX9_chooses 64 = .ok (.getfield 45, 3) := by decide +kernel
theorem dX9_chooses_67 : decode cX9_chooses 67 = .ok (.iload_n 3, 1) := by decide +kernel
theorem dX9_chooses_68 : decode cX9_chooses 68 = .ok (.iaload, 1) := by decide +kernel
theorem dX9_chooses_69 : decode cX9_chooses 69 = .ok (.ior, 1) := by decide +kernel
theorem dX9_chooses_70 : decode cX9_chooses 70 = .ok (.iaload, 1) := by decide +kernel
theorem dX9_chooses_71 : decode cX9_chooses 71 = .ok (.iadd, 1) := by decide +kernel
theorem dX9_chooses_72 : decode cX9_chooses 72 = .ok (.aload_n 0, 1) := by decide +kernel
theorem dX9_chooses_73 : decode cX9_chooses 73 = .ok (.getfield 48, 3) := by decide +kernel
theorem dX9_chooses_76 : decode cX9_chooses 76 = .ok (.iload_n 1, 1) := by decide +kernel
theorem dX9_chooses_77 : decode cX9_chooses 77 = .ok (.iaload, 1) := by decide +kernel
theorem dX9_chooses_78 : decode cX9_chooses 78 = .ok (.if_icmp .ne 69, 3) := by decide +kernel
theorem dX9_chooses_81 : decode cX9_chooses 81 = .ok (.iconst 0, 1) := by decide +kernel
theorem dX9_chooses_82 : decode cX9_chooses 82 = .ok (.istore 5, 2) := by decide +kernel
theorem dX9_chooses_84 : decode cX9_chooses 84 = .ok (.iload 5, 2) := by decide +kernel
theorem dX9_chooses_86 : decode cX9_chooses 86 = .ok (.aload_n 0, 1) := by decide +kernel
theorem dX9_chooses_87 : decode cX9_chooses 87 = .ok (.getfield 94, 3) := by decide +kernel
theorem dX9_chooses_90 : decode cX9_chooses 90 = .ok (.if_icmp .ge 50, 3) := by decide +kernel
theorem dX9_chooses_93 : decode cX9_chooses 93 = .ok (.aload_n 0, 1) := by decide +kernel
theorem dX9_chooses_94 : decode cX9_chooses 94 = .ok (.getfield 45, 3) := by decide +kernel
theorem dX9_chooses_97 : decode cX9_chooses 97 = .ok (.iload_n 3, 1) := by decide +kernel
theorem dX9_chooses_98 : decode cX9_chooses 98 = .ok (.iaload, 1) := by decide +kernel
theorem dX9_chooses_99 : decode cX9_chooses 99 = .ok (.iload 5, 2) := by decide +kernel
theorem dX9_chooses_101 : decode cX9_chooses 101 = .ok (.ishr, 1) := by decide +kernel
theorem dX9_chooses_102 : decode cX9_chooses 102 = .ok (.iconst 1, 1) := by decide +kernel
theorem dX9_chooses_103 : decode cX9_chooses 103 = .ok (.iand, 1) := by decide +kernel
theorem dX9_chooses_104 : decode cX9_chooses 104 = .ok (.iconst 1, 1) := by decide +kernel
theorem dX9_chooses_105 : decode cX9_chooses 105 = .ok (.if_icmp .ne 29, 3) := by decide +kernel
theorem dX9_chooses_108 : decode cX9_chooses 108 = .ok (.aload_n 0, 1) := by decide +kernel
theorem dX9_chooses_109 : decode cX9_chooses 109 = .ok (.getfield 51, 3) := by decide +kernel
theorem dX9_chooses_112 : decode cX9_chooses 112 = .ok (.iload 5, 2) := by decide +kernel
theorem dX9_chooses_114 : decode cX9_chooses 114 = .ok (.aload_n 0, 1) := by decide +kernel
theorem dX9_chooses_115 : decode cX9_chooses 115 = .ok (.getfield 42, 3) := by decide +kernel
theorem dX9_chooses_118 : decode cX9_chooses 118 = .ok (.iload_n 3, 1) := by decide +kernel
theorem dX9_chooses_119 : decode cX9_chooses 119 = .ok (.iaload, 1) := by decide +kernel
theorem dX9_chooses_120 : decode cX9_chooses 120 = .ok (.iastore, 1) := by decide +kernel
theorem dX9_chooses_121 : decode cX9_chooses 121 = .ok (.aload_n 0, 1) := by decide +kernel
theorem dX9_chooses_122 : decode cX9_chooses 122 = .ok (.getfield 54, 3) := by decide +kernel
theorem dX9_chooses_125 : decode cX9_chooses 125 = .ok (.iload 5, 2) := by decide +kernel
theorem dX9_chooses_127 : decode cX9_chooses 127 = .ok (.aload_n 0, 1) := by decide +kernel
theorem dX9_chooses_128 : decode cX9_chooses 128 = .ok (.getfield 45, 3) := by decide +kernel
theorem dX9_chooses_131 : decode cX9_chooses 131 = .ok (.iload_n 3, 1) := by decide +kernel
theorem dX9_chooses_132 : decode cX9_chooses 132 = .ok (.iaload, 1) := by decide +kernel
theorem dX9_chooses_133 : decode cX9_chooses 133 = .ok (.iastore, 1) := by decide +kernel
theorem dX9_chooses_134 : decode cX9_chooses 134 = .ok (.iinc 5 1, 3) := by decide +kernel
theorem dX9_chooses_137 : decode cX9_chooses 137 = .ok (.goto (-53), 3) := by decide +kernel
theorem dX9_chooses_140 : decode cX9_chooses 140 = .ok (.aload_n 0, 1) := by decide +kernel
theorem dX9_chooses_141 : decode cX9_chooses 141 = .ok (.getfield 45, 3) := by decide +kernel
theorem dX9_chooses_144 : decode cX9_chooses 144 = .ok (.iload_n 3, 1) := by decide +kernel
theorem dX9_chooses_145 : decode cX9_chooses 145 = .ok (.iaload, 1) := by decide +kernel
theorem dX9_chooses_146 : decode cX9_chooses 146 = .ok (.ireturn, 1) := by decide +kernel
theorem dX9_chooses_147 : decode cX9_chooses 147 = .ok (.iinc 3 1, 3) := by decide +kernel
theorem dX9_chooses_150 : decode cX9_chooses 150 = .ok (.goto (-148), 3) := by decide +kernel
theorem dX9_chooses_153 : decode cX9_chooses 153 = .ok (.aload_n 0, 1) := by decide +kernel
theorem dX9_chooses_154 : decode cX9_chooses 154 = .ok (.getfield 51, 3) := by decide +kernel
theorem dX9_chooses_157 : decode cX9_chooses 157 = .ok (.iload_n 2, 1) := by decide +kernel
theorem dX9_chooses_158 : decode cX9_chooses 158 = .ok (.iconst (-1), 1) := by decide +kernel
theorem dX9_chooses_159 : decode cX9_chooses 159 = .ok (.iastore, 1) := by decide +kernel
theorem dX9_chooses_160 : decode cX9_chooses 160 = .ok (.aload_n 0, 1) := by decide +kernel
theorem dX9_chooses_161 : decode cX9_chooses 161 = .ok (.getfield 54, 3) := by decide +kernel
theorem dX9_chooses_164 : decode cX9_chooses 164 = .ok (.iload_n 2, 1) := by decide +kernel
theorem dX9_chooses_165 : decode cX9_chooses 165 = .ok (.iconst 0, 1) := by decide +kernel
theorem dX9_chooses_166 : decode cX9_chooses 166 = .ok (.iastore, 1) := by decide +kernel
theorem dX9_chooses_167 : decode cX9_chooses 167 = .ok (.iconst 1, 1) := by decide +kernel
theorem dX9_chooses_168 : decode cX9_chooses 168 = .ok (.iload_n 2, 1) := by decide +kernel
theorem dX9_chooses_169 : decode cX9_chooses 169 = .ok (.ishl, 1) := by decide +kernel
theorem dX9_chooses_170 : decode cX9_chooses 170 = .ok (.ireturn, 1) := by decide +kernel
theorem dX9_standings_0 : decode cX9_standings 0 = .ok (.aload_n 0, 1) := by decide +kernel
theorem dX9_standings_1 : decode cX9_standings 1 = .ok (.iconst 0, 1) := by decide +kernel
theorem dX9_standings_2 : decode cX9_standings 2 = .ok (.putfield 63, 3) := by decide +kernel
theorem dX9_standings_5 : decode cX9_standings 5 = .ok (.aload_n 0, 1) := by decide +kernel
theorem dX9_standings_6 : decode cX9_standings 6 = .ok (.invokevirtual 103, 3) := by decide +kernel
theorem dX9_standings_9 : decode cX9_standings 9 = .ok (.aload_n 0, 1) := by decide +kernel
theorem dX9_standings_10 : decode cX9_standings 10 = .ok (.getfield 97, 3) := by decide +kernel
theorem dX9_standings_13 : decode cX9_standings 13 = .ok (.ireturn, 1) := by decide +kernel
theorem dX9_cost_0 : decode cX9_cost 0 = .ok (.aload_n 0, 1) := by decide +kernel
theorem dX9_cost_1 : decode cX9_cost 1 = .ok (.iconst 0, 1) := by decide +kernel
theorem dX9_cost_2 : decode cX9_cost 2 = .ok (.putfield 63, 3) := by decide +kernel
theorem dX9_cost_5 : decode cX9_cost 5 = .ok (.aload_n 0, 1) := by decide +kernel
theorem dX9_cost_6 : decode cX9_cost 6 = .ok (.invokevirtual 113, 3) := by decide +kernel
theorem dX9_cost_9 : decode cX9_cost 9 = .ok (.ireturn, 1) := by decide +kernel
theorem dX9_costByAll_0 : decode cX9_costByAll 0 = .ok (.aload_n 0, 1) := by decide +kernel
theorem dX9_costByAll_1 : decode cX9_costByAll 1 = .ok (.iconst 0, 1) := by decide +kernel
theorem dX9_costByAll_2 : decode cX9_costByAll 2 = .ok (.putfield 63, 3) := by decide +kernel
theorem dX9_costByAll_5 : decode cX9_costByAll 5 = .ok (.aload_n 0, 1) := by decide +kernel
theorem dX9_costByAll_6 : decode cX9_costByAll 6 = .ok (.invokevirtual 113, 3) := by decide +kernel
theorem dX9_costByAll_9 : decode cX9_costByAll 9 = .ok (.ireturn, 1) := by decide +kernel
theorem dX9_told_0 : decode cX9_told 0 = .ok (.aload_n 0, 1) := by decide +kernel
theorem dX9_told_1 : decode cX9_told 1 = .ok (.iload_n 2, 1) := by decide +kernel
theorem dX9_told_2 : decode cX9_told 2 = .ok (.iconst 0, 1) := by decide +kernel
theorem dX9_told_3 : decode cX9_told 3 = .ok (.aload_n 0, 1) := by decide +kernel
theorem dX9_told_4 : decode cX9_told 4 = .ok (.getfield 94, 3) := by decide +kernel
theorem dX9_told_7 : decode cX9_told 7 = .ok (.iconst 1, 1) := by decide +kernel
theorem dX9_told_8 : decode cX9_told 8 = .ok (.isub, 1) := by decide +kernel
theorem dX9_told_9 : decode cX9_told 9 = .ok (.invokestatic 66, 3) := by decide +kernel
theorem dX9_told_12 : decode cX9_told 12 = .ok (.ifCond .eq 7, 3) := by decide +kernel
theorem dX9_told_15 : decode cX9_told 15 = .ok (.iconst 0, 1) := by decide +kernel
theorem dX9_told_16 : decode cX9_told 16 = .ok (.goto 4, 3) := by decide +kernel
theorem dX9_told_19 : decode cX9_told 19 = .ok (.iconst 1, 1) := by decide +kernel
theorem dX9_told_20 : decode cX9_told 20 = .ok (.putfield 63, 3) := by decide +kernel
theorem dX9_told_23 : decode cX9_told 23 = .ok (.aload_n 0, 1) := by decide +kernel
theorem dX9_told_24 : decode cX9_told 24 = .ok (.getfield 63, 3) := by decide +kernel
theorem dX9_told_27 : decode cX9_told 27 = .ok (.ifCond .le 5, 3) := by decide +kernel
theorem dX9_told_30 : decode cX9_told 30 = .ok (.iconst 0, 1) := by decide +kernel
theorem dX9_told_31 : decode cX9_told 31 = .ok (.ireturn, 1) := by decide +kernel
theorem dX9_told_32 : decode cX9_told 32 = .ok (.aload_n 0, 1) := by decide +kernel
theorem dX9_told_33 : decode cX9_told 33 = .ok (.invokevirtual 113, 3) := by decide +kernel
theorem dX9_told_36 : decode cX9_told 36 = .ok (.pop, 1) := by decide +kernel
theorem dX9_told_37 : decode cX9_told 37 = .ok (.aload_n 1, 1) := by decide +kernel
theorem dX9_told_38 : decode cX9_told 38 = .ok (.iload_n 2, 1) := by decide +kernel
theorem dX9_told_39 : decode cX9_told 39 = .ok (.iaload, 1) := by decide +kernel
theorem dX9_told_40 : decode cX9_told 40 = .ok (.ireturn, 1) := by decide +kernel
theorem dX9_glossAt_0 : decode cX9_glossAt 0 = .ok (.aload_n 0, 1) := by decide +kernel
theorem dX9_glossAt_1 : decode cX9_glossAt 1 = .ok (.aload_n 0, 1) := by decide +kernel
theorem dX9_glossAt_2 : decode cX9_glossAt 2 = .ok (.getfield 51, 3) := by decide +kernel
theorem dX9_glossAt_5 : decode cX9_glossAt 5 = .ok (.iload_n 1, 1) := by decide +kernel
theorem dX9_glossAt_6 : decode cX9_glossAt 6 = .ok (.invokevirtual 117, 3) := by decide +kernel
theorem dX9_glossAt_9 : decode cX9_glossAt 9 = .ok (.ireturn, 1) := by decide +kernel
theorem dX9_placesAt_0 : decode cX9_placesAt 0 = .ok (.aload_n 0, 1) := by decide +kernel
theorem dX9_placesAt_1 : decode cX9_placesAt 1 = .ok (.aload_n 0, 1) := by decide +kernel
theorem dX9_placesAt_2 : decode cX9_placesAt 2 = .ok (.getfield 54, 3) := by decide +kernel
theorem dX9_placesAt_5 : decode cX9_placesAt 5 = .ok (.iload_n 1, 1) := by decide +kernel
theorem dX9_placesAt_6 : decode cX9_placesAt 6 = .ok (.invokevirtual 117, 3) := by decide +kernel
theorem dX9_placesAt_9 : decode cX9_placesAt 9 = .ok (.ireturn, 1) := by decide +kernel
theorem dX9_isReader_0 : decode cX9_isReader 0 = .ok (.aload_n 0, 1) := by decide +kernel
theorem dX9_isReader_1 : decode cX9_isReader 1 = .ok (.iload_n 1, 1) := by decide +kernel
theorem dX9_isReader_2 : decode cX9_isReader 2 = .ok (.iconst 0, 1) := by decide +kernel
theorem dX9_isReader_3 : decode cX9_isReader 3 = .ok (.iconst 2, 1) := by decide +kernel
theorem dX9_isReader_4 : decode cX9_isReader 4 = .ok (.invokestatic 66, 3) := by decide +kernel
theorem dX9_isReader_7 : decode cX9_isReader 7 = .ok (.ifCond .eq 7, 3) := by decide +kernel
theorem dX9_isReader_10 : decode cX9_isReader 10 = .ok (.iconst 0, 1) := by decide +kernel
theorem dX9_isReader_11 : decode cX9_isReader 11 = .ok (.goto 4, 3) := by decide +kernel
theorem dX9_isReader_14 : decode cX9_isReader 14 = .ok (.iconst 1, 1) := by decide +kernel
theorem dX9_isReader_15 : decode cX9_isReader 15 = .ok (.putfield 63, 3) := by decide +kernel
theorem dX9_isReader_18 : decode cX9_isReader 18 = .ok (.aload_n 0, 1) := by decide +kernel
theorem dX9_isReader_19 : decode cX9_isReader 19 = .ok (.getfield 63, 3) := by decide +kernel
theorem dX9_isReader_22 : decode cX9_isReader 22 = .ok (.ifCond .ne 7, 3) := by decide +kernel
theorem dX9_isReader_25 : decode cX9_isReader 25 = .ok (.iconst 1, 1) := by decide +kernel
theorem dX9_isReader_26 : decode cX9_isReader 26 = .ok (.goto 4, 3) := by decide +kernel
theorem dX9_isReader_29 : decode cX9_isReader 29 = .ok (.iconst 0, 1) := by decide +kernel
theorem dX9_isReader_30 : decode cX9_isReader 30 = .ok (.ireturn, 1) := by decide +kernel
theorem dX9_newEntries_0 : decode cX9_newEntries 0 = .ok (.aload_n 0, 1) := by decide +kernel
theorem dX9_newEntries_1 : decode cX9_newEntries 1 = .ok (.iload_n 1, 1) := by decide +kernel
theorem dX9_newEntries_2 : decode cX9_newEntries 2 = .ok (.invokevirtual 121, 3) := by decide +kernel
theorem dX9_newEntries_5 : decode cX9_newEntries 5 = .ok (.ifCond .ne 5, 3) := by decide +kernel
theorem dX9_newEntries_8 : decode cX9_newEntries 8 = .ok (.iconst 0, 1) := by decide +kernel
theorem dX9_newEntries_9 : decode cX9_newEntries 9 = .ok (.ireturn, 1) := by decide +kernel
theorem dX9_newEntries_10 : decode cX9_newEntries 10 = .ok (.aload_n 0, 1) := by decide +kernel
theorem dX9_newEntries_11 : decode cX9_newEntries 11 = .ok (.invokevirtual 113, 3) := by decide +kernel
theorem dX9_newEntries_14 : decode cX9_newEntries 14 = .ok (.pop, 1) := by decide +kernel
theorem dX9_newEntries_15 : decode cX9_newEntries 15 = .ok (.iconst 0, 1) := by decide +kernel
theorem dX9_newEntries_16 : decode cX9_newEntries 16 = .ok (.istore_n 2, 1) := by decide +kernel
theorem dX9_newEntries_17 : decode cX9_newEntries 17 = .ok (.iconst 0, 1) := by decide +kernel
theorem dX9_newEntries_18 : decode cX9_newEntries 18 = .ok (.istore_n 3, 1) := by decide +kernel
theorem dX9_newEntries_19 : decode cX9_newEntries 19 = .ok (.iload_n 3, 1) := by decide +kernel
theorem dX9_newEntries_20 : decode cX9_newEntries 20 = .ok (.aload_n 0, 1) := by decide +kernel
theorem dX9_newEntries_21 : decode cX9_newEntries 21 = .ok (.getfield 70, 3) := by decide +kernel
theorem dX9_newEntries_24 : decode cX9_newEntries 24 = .ok (.if_icmp .ge 80, 3) := by decide +kernel
theorem dX9_newEntries_27 : decode cX9_newEntries 27 = .ok (.iconst 0, 1) := by decide +kernel
theorem dX9_newEntries_28 : decode cX9_newEntries 28 = .ok (.istore 4, 2) := by decide +kernel
theorem dX9_newEntries_30 : decode cX9_newEntries 30 = .ok (.iconst 0, 1) := by decide +kernel
theorem dX9_newEntries_31 : decode cX9_newEntries 31 = .ok (.istore 5, 2) := by decide +kernel
theorem dX9_newEntries_33 : decode cX9_newEntries 33 = .ok (.iload 5, 2) := by decide +kernel
theorem dX9_newEntries_35 : decode cX9_newEntries 35 = .ok (.aload_n 0, 1) := by decide +kernel
theorem dX9_newEntries_36 : decode cX9_newEntries 36 = .ok (.getfield 94, 3) := by decide +kernel
theorem dX9_newEntries_39 : decode cX9_newEntries 39 = .ok (.if_icmp .ge 32, 3) := by decide +kernel
theorem dX9_newEntries_42 : decode cX9_newEntries 42 = .ok (.iload 4, 2) := by decide +kernel
theorem dX9_newEntries_44 : decode cX9_newEntries 44 = .ok (.ifCond .ne 14, 3) := by decide +kernel
theorem dX9_newEntries_47 : decode cX9_newEntries 47 = .ok (.aload_n 0, 1) := by decide +kernel
theorem dX9_newEntries_48 : decode cX9_newEntries 48 = .ok (.getfield 51, 3) := by decide +kernel
theorem dX9_newEntries_51 : decode cX9_newEntries 51 = .ok (.iload 5, 2) := by decide +kernel
theorem dX9_newEntries_53 : decode cX9_newEntries 53 = .ok (.iaload, 1) := by decide +kernel
theorem dX9_newEntries_54 : decode cX9_newEntries 54 = .ok (.iload_n 3, 1) := by decide +kernel
theorem dX9_newEntries_55 : decode cX9_newEntries 55 = .ok (.if_icmp .ne 7, 3) := by decide +kernel
theorem dX9_newEntries_58 : decode cX9_newEntries 58 = .ok (.iconst 1, 1) := by decide +kernel
theorem dX9_newEntries_59 : decode cX9_newEntries 59 = .ok (.goto 4, 3) := by decide +kernel
theorem dX9_newEntries_62 : decode cX9_newEntries 62 = .ok (.iconst 0, 1) := by decide +kernel
theorem dX9_newEntries_63 : decode cX9_newEntries 63 = .ok (.istore 4, 2) := by decide +kernel
theorem dX9_newEntries_65 : decode cX9_newEntries 65 = .ok (.iinc 5 1, 3) := by decide +kernel
theorem dX9_newEntries_68 : decode cX9_newEntries 68 = .ok (.goto (-35), 3) := by decide +kernel
theorem dX9_newEntries_71 : decode cX9_newEntries 71 = .ok (.iload_n 2, 1) := by decide +kernel
theorem dX9_newEntries_72 : decode cX9_newEntries 72 = .ok (.iload 4, 2) := by decide +kernel
theorem dX9_newEntries_74 : decode cX9_newEntries 74 = .ok (.ifCond .eq 21, 3) := by decide +kernel
theorem dX9_newEntries_77 : decode cX9_newEntries 77 = .ok (.aload_n 0, 1) := by decide +kernel
theorem dX9_newEntries_78 : decode cX9_newEntries 78 = .ok (.getfield 57, 3) := by decide +kernel
theorem dX9_newEntries_81 : decode cX9_newEntries 81 = .ok (.bipush 8, 2) := by decide +kernel
theorem dX9_newEntries_83 : decode cX9_newEntries 83 = .ok (.iload_n 1, 1) := by decide +kernel
theorem dX9_newEntries_84 : decode cX9_newEntries 84 = .ok (.imul, 1) := by decide +kernel
theorem dX9_newEntries_85 : decode cX9_newEntries 85 = .ok (.iload_n 3, 1) := by decide +kernel
theorem dX9_newEntries_86 : decode cX9_newEntries 86 = .ok (.iadd, 1) := by decide +kernel
theorem dX9_newEntries_87 : decode cX9_newEntries 87 = .ok (.iaload, 1) := by decide +kernel
theorem dX9_newEntries_88 : decode cX9_newEntries 88 = .ok (.ifCond .ne 7, 3) := by decide +kernel
theorem dX9_newEntries_91 : decode cX9_newEntries 91 = .ok (.iconst 1, 1) := by decide +kernel
theorem dX9_newEntries_92 : decode cX9_newEntries 92 = .ok (.goto 4, 3) := by decide +kernel
theorem dX9_newEntries_95 : decode cX9_newEntries 95 = .ok (.iconst 0, 1) := by decide +kernel
theorem dX9_newEntries_96 : decode cX9_newEntries 96 = .ok (.iadd, 1) := by decide +kernel
theorem dX9_newEntries_97 : decode cX9_newEntries 97 = .ok (.istore_n 2, 1) := by decide +kernel
theorem dX9_newEntries_98 : decode cX9_newEntries 98 = .ok (.iinc 3 1, 3) := by decide +kernel
theorem dX9_newEntries_101 : decode cX9_newEntries 101 = .ok (.goto (-82), 3) := by decide +kernel
theorem dX9_newEntries_104 : decode cX9_newEntries 104 = .ok (.iload_n 2, 1) := by decide +kernel
theorem dX9_newEntries_105 : decode cX9_newEntries 105 = .ok (.ireturn, 1) := by decide +kernel
theorem dX9_barsCard_0 : decode cX9_barsCard 0 = .ok (.aload_n 0, 1) := by decide +kernel
theorem dX9_barsCard_1 : decode cX9_barsCard 1 = .ok (.iload_n 1, 1) := by decide +kernel
theorem dX9_barsCard_2 : decode cX9_barsCard 2 = .ok (.iconst 0, 1) := by decide +kernel
theorem dX9_barsCard_3 : decode cX9_barsCard 3 = .ok (.iconst 2, 1) := by decide +kernel
theorem dX9_barsCard_4 : decode cX9_barsCard 4 = .ok (.invokestatic 66, 3) := by decide +kernel
theorem dX9_barsCard_7 : decode cX9_barsCard 7 = .ok (.ifCond .ne 7, 3) := by decide +kernel
theorem dX9_barsCard_10 : decode cX9_barsCard 10 = .ok (.iconst 1, 1) := by decide +kernel
theorem dX9_barsCard_11 : decode cX9_barsCard 11 = .ok (.goto 16, 3) := by decide +kernel
theorem dX9_barsCard_14 : decode cX9_barsCard 14 = .ok (.aload_n 0, 1) := by decide +kernel
theorem dX9_barsCard_15 : decode cX9_barsCard 15 = .ok (.iload_n 2, 1) := by decide +kernel
theorem dX9_barsCard_16 : decode cX9_barsCard 16 = .ok (.invokevirtual 91, 3) := by decide +kernel
theorem dX9_barsCard_19 : decode cX9_barsCard 19 = .ok (.ifCond .eq 7, 3) := by decide +kernel
theorem dX9_barsCard_22 : decode cX9_barsCard 22 = .ok (.iconst 0, 1) := by decide +kernel
theorem dX9_barsCard_23 : decode cX9_barsCard 23 = .ok (.goto 4, 3) := by decide +kernel
theorem dX9_barsCard_26 : decode cX9_barsCard 26 = .ok (.iconst 2, 1) := by decide +kernel
theorem dX9_barsCard_27 : decode cX9_barsCard 27 = .ok (.putfield 63, 3) := by decide +kernel
theorem dX9_barsCard_30 : decode cX9_barsCard 30 = .ok (.aload_n 0, 1) := by decide +kernel
theorem dX9_barsCard_31 : decode cX9_barsCard 31 = .ok (.getfield 63, 3) := by decide +kernel
theorem dX9_barsCard_34 : decode cX9_barsCard 34 = .ok (.ireturn, 1) := by decide +kernel
theorem dX9_cards_0 : decode cX9_cards 0 = .ok (.iconst 0, 1) := by decide +kernel
theorem dX9_cards_1 : decode cX9_cards 1 = .ok (.istore_n 2, 1) := by decide +kernel
theorem dX9_cards_2 : decode cX9_cards 2 = .ok (.iconst 0, 1) := by decide +kernel
theorem dX9_cards_3 : decode cX9_cards 3 = .ok (.istore_n 3, 1) := by decide +kernel
theorem dX9_cards_4 : decode cX9_cards 4 = .ok (.iload_n 3, 1) := by decide +kernel
theorem dX9_cards_5 : decode cX9_cards 5 = .ok (.bipush 8, 2) := by decide +kernel
theorem dX9_cards_7 : decode cX9_cards 7 = .ok (.if_icmp .ge 31, 3) := by decide +kernel
theorem dX9_cards_10 : decode cX9_cards 10 = .ok (.iload_n 2, 1) := by decide +kernel
theorem dX9_cards_11 : decode cX9_cards 11 = .ok (.aload_n 0, 1) := by decide +kernel
theorem dX9_cards_12 : decode cX9_cards 12 = .ok (.getfield 57, 3) := by decide +kernel
theorem dX9_cards_15 : decode cX9_cards 15 = .ok (.bipush 8, 2) := by decide +kernel
theorem dX9_cards_17 : decode cX9_cards 17 = .ok (.iload_n 1, 1) := by decide +kernel
theorem dX9_cards_18 : decode cX9_cards 18 = .ok (.imul, 1) := by decide +kernel
theorem dX9_cards_19 : decode cX9_cards 19 = .ok (.iload_n 3, 1) := by decide +kernel
theorem dX9_cards_20 : decode cX9_cards 20 = .ok (.iadd, 1) := by decide +kernel
theorem dX9_cards_21 : decode cX9_cards 21 = .ok (.iaload, 1) := by decide +kernel
theorem dX9_cards_22 : decode cX9_cards 22 = .ok (.ifCond .le 7, 3) := by decide +kernel
theorem dX9_cards_25 : decode cX9_cards 25 = .ok (.iconst 1, 1) := by decide +kernel
theorem dX9_cards_26 : decode cX9_cards 26 = .ok (.goto 4, 3) := by decide +kernel
theorem dX9_cards_29 : decode cX9_cards 29 = .ok (.iconst 0, 1) := by decide +kernel
theorem dX9_cards_30 : decode cX9_cards 30 = .ok (.iadd, 1) := by decide +kernel
theorem dX9_cards_31 : decode cX9_cards 31 = .ok (.istore_n 2, 1) := by decide +kernel
theorem dX9_cards_32 : decode cX9_cards 32 = .ok (.iinc 3 1, 3) := by decide +kernel
theorem dX9_cards_35 : decode cX9_cards 35 = .ok (.goto (-31), 3) := by decide +kernel
theorem dX9_cards_38 : decode cX9_cards 38 = .ok (.iload_n 2, 1) := by decide +kernel
theorem dX9_cards_39 : decode cX9_cards 39 = .ok (.ireturn, 1) := by decide +kernel
theorem dX9_learn_0 : decode cX9_learn 0 = .ok (.aload_n 0, 1) := by decide +kernel
theorem dX9_learn_1 : decode cX9_learn 1 = .ok (.iload_n 1, 1) := by decide +kernel
theorem dX9_learn_2 : decode cX9_learn 2 = .ok (.iload_n 2, 1) := by decide +kernel
theorem dX9_learn_3 : decode cX9_learn 3 = .ok (.invokevirtual 124, 3) := by decide +kernel
theorem dX9_learn_6 : decode cX9_learn 6 = .ok (.ifCond .le 5, 3) := by decide +kernel
theorem dX9_learn_9 : decode cX9_learn 9 = .ok (.iconst 0, 1) := by decide +kernel
theorem dX9_learn_10 : decode cX9_learn 10 = .ok (.ireturn, 1) := by decide +kernel
theorem dX9_learn_11 : decode cX9_learn 11 = .ok (.bipush 8, 2) := by decide +kernel
theorem dX9_learn_13 : decode cX9_learn 13 = .ok (.iload_n 1, 1) := by decide +kernel
theorem dX9_learn_14 : decode cX9_learn 14 = .ok (.imul, 1) := by decide +kernel
theorem dX9_learn_15 : decode cX9_learn 15 = .ok (.iload_n 2, 1) := by decide +kernel
theorem dX9_learn_16 : decode cX9_learn 16 = .ok (.iadd, 1) := by decide +kernel
theorem dX9_learn_17 : decode cX9_learn 17 = .ok (.istore_n 3, 1) := by decide +kernel
theorem dX9_learn_18 : decode cX9_learn 18 = .ok (.aload_n 0, 1) := by decide +kernel
theorem dX9_learn_19 : decode cX9_learn 19 = .ok (.getfield 57, 3) := by decide +kernel
theorem dX9_learn_22 : decode cX9_learn 22 = .ok (.iload_n 3, 1) := by decide +kernel
theorem dX9_learn_23 : decode cX9_learn 23 = .ok (.iaload, 1) := by decide +kernel
theorem dX9_learn_24 : decode cX9_learn 24 = .ok (.ifCond .le 9, 3) := by decide +kernel
theorem dX9_learn_27 : decode cX9_learn 27 = .ok (.aload_n 0, 1) := by decide +kernel
theorem dX9_learn_28 : decode cX9_learn 28 = .ok (.iconst 3, 1) := by decide +kernel
theorem dX9_learn_29 : decode cX9_learn 29 = .ok (.invokevirtual 127, 3) := by decide +kernel
theorem dX9_learn_32 : decode cX9_learn 32 = .ok (.ireturn, 1) := by decide +kernel
theorem dX9_learn_33 : decode cX9_learn 33 = .ok (.aload_n 0, 1) := by decide +kernel
theorem dX9_learn_34 : decode cX9_learn 34 = .ok (.getfield 57, 3) := by decide +kernel
theorem dX9_learn_37 : decode cX9_learn 37 = .ok (.iload_n 3, 1) := by decide +kernel
theorem dX9_learn_38 : decode cX9_learn 38 = .ok (.iconst 1, 1) := by decide +kernel
theorem dX9_learn_39 : decode cX9_learn 39 = .ok (.iastore, 1) := by decide +kernel
theorem dX9_learn_40 : decode cX9_learn 40 = .ok (.aload_n 0, 1) := by decide +kernel
theorem dX9_learn_41 : decode cX9_learn 41 = .ok (.getfield 60, 3) := by decide +kernel
theorem dX9_learn_44 : decode cX9_learn 44 = .ok (.iload_n 3, 1) := by decide +kernel
theorem dX9_learn_45 : decode cX9_learn 45 = .ok (.aload_n 0, 1) := by decide +kernel
theorem dX9_learn_46 : decode cX9_learn 46 = .ok (.getfield 130, 3) := by decide +kernel
theorem dX9_learn_49 : decode cX9_learn 49 = .ok (.iconst 1, 1) := by decide +kernel
theorem dX9_learn_50 : decode cX9_learn 50 = .ok (.iadd, 1) := by decide +kernel
theorem dX9_learn_51 : decode cX9_learn 51 = .ok (.iastore, 1) := by decide +kernel
theorem dX9_learn_52 : decode cX9_learn 52 = .ok (.aload_n 0, 1) := by decide +kernel
theorem dX9_learn_53 : decode cX9_learn 53 = .ok (.iload_n 1, 1) := by decide +kernel
theorem dX9_learn_54 : decode cX9_learn 54 = .ok (.invokevirtual 133, 3) := by decide +kernel
theorem dX9_learn_57 : decode cX9_learn 57 = .ok (.ireturn, 1) := by decide +kernel
theorem dX9_review_0 : decode cX9_review 0 = .ok (.aload_n 0, 1) := by decide +kernel
theorem dX9_review_1 : decode cX9_review 1 = .ok (.iload_n 1, 1) := by decide +kernel
theorem dX9_review_2 : decode cX9_review 2 = .ok (.iload_n 2, 1) := by decide +kernel
theorem dX9_review_3 : decode cX9_review 3 = .ok (.invokevirtual 124, 3) := by decide +kernel
theorem dX9_review_6 : decode cX9_review 6 = .ok (.ifCond .le 5, 3) := by decide +kernel
theorem dX9_review_9 : decode cX9_review 9 = .ok (.iconst 0, 1) := by decide +kernel
theorem dX9_review_10 : decode cX9_review 10 = .ok (.ireturn, 1) := by decide +kernel
theorem dX9_review_11 : decode cX9_review 11 = .ok (.bipush 8, 2) := by decide +kernel
theorem dX9_review_13 : decode cX9_review 13 = .ok (.iload_n 1, 1) := by decide +kernel
theorem dX9_review_14 : decode cX9_review 14 = .ok (.imul, 1) := by decide +kernel
theorem dX9_review_15 : decode cX9_review 15 = .ok (.iload_n 2, 1) := by decide +kernel
theorem dX9_review_16 : decode cX9_review 16 = .ok (.iadd, 1) := by decide +kernel
theorem dX9_review_17 : decode cX9_review 17 = .ok (.istore 4, 2) := by decide +kernel
theorem dX9_review_19 : decode cX9_review 19 = .ok (.aload_n 0, 1) := by decide +kernel
theorem dX9_review_20 : decode cX9_review 20 = .ok (.getfield 57, 3) := by decide +kernel
theorem dX9_review_23 : decode cX9_review 23 = .ok (.iload 4, 2) := by decide +kernel
theorem dX9_review_25 : decode cX9_review 25 = .ok (.iaload, 1) := by decide +kernel
theorem dX9_review_26 : decode cX9_review 26 = .ok (.ifCond .eq 17, 3) := by decide +kernel
theorem dX9_review_29 : decode cX9_review 29 = .ok (.aload_n 0, 1) := by decide +kernel
theorem dX9_review_30 : decode cX9_review 30 = .ok (.getfield 60, 3) := by decide +kernel
theorem dX9_review_33 : decode cX9_review 33 = .ok (.iload 4, 2) := by decide +kernel
theorem dX9_review_35 : decode cX9_review 35 = .ok (.iaload, 1) := by decide +kernel
theorem dX9_review_36 : decode cX9_review 36 = .ok (.aload_n 0, 1) := by decide +kernel
theorem dX9_review_37 : decode cX9_review 37 = .ok (.getfield 130, 3) := by decide +kernel
theorem dX9_review_40 : decode cX9_review 40 = .ok (.if_icmp .le 9, 3) := by decide +kernel
theorem dX9_review_43 : decode cX9_review 43 = .ok (.aload_n 0, 1) := by decide +kernel
theorem dX9_review_44 : decode cX9_review 44 = .ok (.iconst 3, 1) := by decide +kernel
theorem dX9_review_45 : decode cX9_review 45 = .ok (.invokevirtual 127, 3) := by decide +kernel
theorem dX9_review_48 : decode cX9_review 48 = .ok (.ireturn, 1) := by decide +kernel
theorem dX9_review_49 : decode cX9_review 49 = .ok (.aload_n 0, 1) := by decide +kernel
theorem dX9_review_50 : decode cX9_review 50 = .ok (.getfield 57, 3) := by decide +kernel
theorem dX9_review_53 : decode cX9_review 53 = .ok (.iload 4, 2) := by decide +kernel
theorem dX9_review_55 : decode cX9_review 55 = .ok (.iload_n 3, 1) := by decide +kernel
theorem dX9_review_56 : decode cX9_review 56 = .ok (.ifCond .ne 7, 3) := by decide +kernel
theorem dX9_review_59 : decode cX9_review 59 = .ok (.iconst 1, 1) := by decide +kernel
theorem dX9_review_60 : decode cX9_review 60 = .ok (.goto 29, 3) := by decide +kernel
theorem dX9_review_63 : decode cX9_review 63 = .ok (.aload_n 0, 1) := by decide +kernel
theorem dX9_review_64 : decode cX9_review 64 = .ok (.getfield 57, 3) := by decide +kernel
theorem dX9_review_67 : decode cX9_review 67 = .ok (.iload 4, 2) := by decide +kernel
theorem dX9_review_69 : decode cX9_review 69 = .ok (.iaload, 1) := by decide +kernel
theorem dX9_review_70 : decode cX9_review 70 = .ok (.bipush 64, 2) := by decide +kernel
theorem dX9_review_72 : decode cX9_review 72 = .ok (.if_icmp .ne 8, 3) := by decide +kernel
theorem dX9_review_75 : decode cX9_review 75 = .ok (.bipush 64, 2) := by decide +kernel
theorem dX9_review_77 : decode cX9_review 77 = .ok (.goto 12, 3) := by decide +kernel
theorem dX9_review_80 : decode cX9_review 80 = .ok (.iconst 2, 1) := by decide +kernel
theorem dX9_review_81 : decode cX9_review 81 = .ok (.aload_n 0, 1) := by decide +kernel
theorem dX9_review_82 : decode cX9_review 82 = .ok (.getfield 57, 3) := by decide +kernel
theorem dX9_review_85 : decode cX9_review 85 = .ok (.iload 4, 2) := by decide +kernel
theorem dX9_review_87 : decode cX9_review 87 = .ok (.iaload, 1) := by decide +kernel
theorem dX9_review_88 : decode cX9_review 88 = .ok (.imul, 1) := by decide +kernel
theorem dX9_review_89 : decode cX9_review 89 = .ok (.iastore, 1) := by decide +kernel
theorem dX9_review_90 : decode cX9_review 90 = .ok (.aload_n 0, 1) := by decide +kernel
theorem dX9_review_91 : decode cX9_review 91 = .ok (.getfield 60, 3) := by decide +kernel
theorem dX9_review_94 : decode cX9_review 94 = .ok (.iload 4, 2) := by decide +kernel
theorem dX9_review_96 : decode cX9_review 96 = .ok (.aload_n 0, 1) := by decide +kernel
theorem dX9_review_97 : decode cX9_review 97 = .ok (.getfield 130, 3) := by decide +kernel
theorem dX9_review_100 : decode cX9_review 100 = .ok (.aload_n 0, 1) := by decide +kernel
theorem dX9_review_101 : decode cX9_review 101 = .ok (.getfield 57, 3) := by decide +kernel
theorem dX9_review_104 : decode cX9_review 104 = .ok (.iload 4, 2) := by decide +kernel
theorem dX9_review_106 : decode cX9_review 106 = .ok (.iaload, 1) := by decide +kernel
theorem dX9_review_107 : decode cX9_review 107 = .ok (.iadd, 1) := by decide +kernel
theorem dX9_review_108 : decode cX9_review 108 = .ok (.iastore, 1) := by decide +kernel
theorem dX9_review_109 : decode cX9_review 109 = .ok (.aload_n 0, 1) := by decide +kernel
theorem dX9_review_110 : decode cX9_review 110 = .ok (.getfield 57, 3) := by decide +kernel
theorem dX9_review_113 : decode cX9_review 113 = .ok (.iload 4, 2) := by decide +kernel
theorem dX9_review_115 : decode cX9_review 115 = .ok (.iaload, 1) := by decide +kernel
theorem dX9_review_116 : decode cX9_review 116 = .ok (.ireturn, 1) := by decide +kernel
theorem dX9_knows_0 : decode cX9_knows 0 = .ok (.aload_n 0, 1) := by decide +kernel
theorem dX9_knows_1 : decode cX9_knows 1 = .ok (.iload_n 1, 1) := by decide +kernel
theorem dX9_knows_2 : decode cX9_knows 2 = .ok (.iload_n 2, 1) := by decide +kernel
theorem dX9_knows_3 : decode cX9_knows 3 = .ok (.invokevirtual 124, 3) := by decide +kernel
theorem dX9_knows_6 : decode cX9_knows 6 = .ok (.ifCond .ne 23, 3) := by decide +kernel
theorem dX9_knows_9 : decode cX9_knows 9 = .ok (.aload_n 0, 1) := by decide +kernel
theorem dX9_knows_10 : decode cX9_knows 10 = .ok (.getfield 57, 3) := by decide +kernel
theorem dX9_knows_13 : decode cX9_knows 13 = .ok (.bipush 8, 2) := by decide +kernel
theorem dX9_knows_15 : decode cX9_knows 15 = .ok (.iload_n 1, 1) := by decide +kernel
theorem dX9_knows_16 : decode cX9_knows 16 = .ok (.imul, 1) := by decide +kernel
theorem dX9_knows_17 : decode cX9_knows 17 = .ok (.iload_n 2, 1) := by decide +kernel
theorem dX9_knows_18 : decode cX9_knows 18 = .ok (.iadd, 1) := by decide +kernel
theorem dX9_knows_19 : decode cX9_knows 19 = .ok (.iaload, 1) := by decide +kernel
theorem dX9_knows_20 : decode cX9_knows 20 = .ok (.bipush 8, 2) := by decide +kernel
theorem dX9_knows_22 : decode cX9_knows 22 = .ok (.if_icmp .lt 7, 3) := by decide +kernel
theorem dX9_knows_25 : decode cX9_knows 25 = .ok (.iconst 1, 1) := by decide +kernel
theorem dX9_knows_26 : decode cX9_knows 26 = .ok (.goto 4, 3) := by decide +kernel
theorem dX9_knows_29 : decode cX9_knows 29 = .ok (.iconst 0, 1) := by decide +kernel
theorem dX9_knows_30 : decode cX9_knows 30 = .ok (.ireturn, 1) := by decide +kernel
theorem dX9_due_0 : decode cX9_due 0 = .ok (.iconst 0, 1) := by decide +kernel
theorem dX9_due_1 : decode cX9_due 1 = .ok (.istore_n 2, 1) := by decide +kernel
theorem dX9_due_2 : decode cX9_due 2 = .ok (.aload_n 0, 1) := by decide +kernel
theorem dX9_due_3 : decode cX9_due 3 = .ok (.iload_n 1, 1) := by decide +kernel
theorem dX9_due_4 : decode cX9_due 4 = .ok (.invokevirtual 121, 3) := by decide +kernel
theorem dX9_due_7 : decode cX9_due 7 = .ok (.istore_n 3, 1) := by decide +kernel
theorem dX9_due_8 : decode cX9_due 8 = .ok (.iconst 0, 1) := by decide +kernel
theorem dX9_due_9 : decode cX9_due 9 = .ok (.istore 4, 2) := by decide +kernel
theorem dX9_due_11 : decode cX9_due 11 = .ok (.iload 4, 2) := by decide +kernel
theorem dX9_due_13 : decode cX9_due 13 = .ok (.bipush 8, 2) := by decide +kernel
theorem dX9_due_15 : decode cX9_due 15 = .ok (.if_icmp .ge 54, 3) := by decide +kernel
theorem dX9_due_18 : decode cX9_due 18 = .ok (.iload_n 3, 1) := by decide +kernel
theorem dX9_due_19 : decode cX9_due 19 = .ok (.ifCond .eq 50, 3) := by decide +kernel
theorem dX9_due_22 : decode cX9_due 22 = .ok (.bipush 8, 2) := by decide +kernel
theorem dX9_due_24 : decode cX9_due 24 = .ok (.iload_n 1, 1) := by decide +kernel
theorem dX9_due_25 : decode cX9_due 25 = .ok (.imul, 1) := by decide +kernel
theorem dX9_due_26 : decode cX9_due 26 = .ok (.iload 4, 2) := by decide +kernel
theorem dX9_due_28 : decode cX9_due 28 = .ok (.iadd, 1) := by decide +kernel
theorem dX9_due_29 : decode cX9_due 29 = .ok (.istore 5, 2) := by decide +kernel
theorem dX9_due_31 : decode cX9_due 31 = .ok (.iload_n 2, 1) := by decide +kernel
theorem dX9_due_32 : decode cX9_due 32 = .ok (.aload_n 0, 1) := by decide +kernel
theorem dX9_due_33 : decode cX9_due 33 = .ok (.getfield 57, 3) := by decide +kernel
theorem dX9_due_36 : decode cX9_due 36 = .ok (.iload 5, 2) := by decide +kernel
theorem dX9_due_38 : decode cX9_due 38 = .ok (.iaload, 1) := by decide +kernel
theorem dX9_due_39 : decode cX9_due 39 = .ok (.ifCond .le 21, 3) := by decide +kernel
theorem dX9_due_42 : decode cX9_due 42 = .ok (.aload_n 0, 1) := by decide +kernel
theorem dX9_due_43 : decode cX9_due 43 = .ok (.getfield 60, 3) := by decide +kernel
theorem dX9_due_46 : decode cX9_due 46 = .ok (.iload 5, 2) := by decide +kernel
theorem dX9_due_48 : decode cX9_due 48 = .ok (.iaload, 1) := by decide +kernel
theorem dX9_due_49 : decode cX9_due 49 = .ok (.aload_n 0, 1) := by decide +kernel
theorem dX9_due_50 : decode cX9_due 50 = .ok (.getfield 130, 3) := by decide +kernel
theorem dX9_due_53 : decode cX9_due 53 = .ok (.if_icmp .gt 7, 3) := by decide +kernel
theorem dX9_due_56 : decode cX9_due 56 = .ok (.iconst 1, 1) := by decide +kernel
theorem dX9_due_57 : decode cX9_due 57 = .ok (.goto 4, 3) := by decide +kernel
theorem dX9_due_60 : decode cX9_due 60 = .ok (.iconst 0, 1) := by decide +kernel
theorem dX9_due_61 : decode cX9_due 61 = .ok (.iadd, 1) := by decide +kernel
theorem dX9_due_62 : decode cX9_due 62 = .ok (.istore_n 2, 1) := by decide +kernel
theorem dX9_due_63 : decode cX9_due 63 = .ok (.iinc 4 1, 3) := by decide +kernel
theorem dX9_due_66 : decode cX9_due 66 = .ok (.goto (-55), 3) := by decide +kernel
theorem dX9_due_69 : decode cX9_due 69 = .ok (.iload_n 2, 1) := by decide +kernel
theorem dX9_due_70 : decode cX9_due 70 = .ok (.ireturn, 1) := by decide +kernel
theorem dX9_nextDue_0 : decode cX9_nextDue 0 = .ok (.iconst (-1), 1) := by decide +kernel
theorem dX9_nextDue_1 : decode cX9_nextDue 1 = .ok (.istore_n 2, 1) := by decide +kernel
theorem dX9_nextDue_2 : decode cX9_nextDue 2 = .ok (.aload_n 0, 1) := by decide +kernel
theorem dX9_nextDue_3 : decode cX9_nextDue 3 = .ok (.iload_n 1, 1) := by decide +kernel
theorem dX9_nextDue_4 : decode cX9_nextDue 4 = .ok (.invokevirtual 121, 3) := by decide +kernel
theorem dX9_nextDue_7 : decode cX9_nextDue 7 = .ok (.istore_n 3, 1) := by decide +kernel
theorem dX9_nextDue_8 : decode cX9_nextDue 8 = .ok (.iconst 0, 1) := by decide +kernel
theorem dX9_nextDue_9 : decode cX9_nextDue 9 = .ok (.istore 4, 2) := by decide +kernel
theorem dX9_nextDue_11 : decode cX9_nextDue 11 = .ok (.iload 4, 2) := by decide +kernel
theorem dX9_nextDue_13 : decode cX9_nextDue 13 = .ok (.bipush 8, 2) := by decide +kernel
theorem dX9_nextDue_15 : decode cX9_nextDue 15 = .ok (.if_icmp .ge 65, 3) := by decide +kernel
theorem dX9_nextDue_18 : decode cX9_nextDue 18 = .ok (.iload_n 3, 1) := by decide +kernel
theorem dX9_nextDue_19 : decode cX9_nextDue 19 = .ok (.ifCond .eq 61, 3) := by decide +kernel
theorem dX9_nextDue_22 : decode cX9_nextDue 22 = .ok (.bipush 8, 2) := by decide +kernel
theorem dX9_nextDue_24 : decode cX9_nextDue 24 = .ok (.iload_n 1, 1) := by decide +kernel
theorem dX9_nextDue_25 : decode cX9_nextDue 25 = .ok (.imul, 1) := by decide +kernel
theorem dX9_nextDue_26 : decode cX9_nextDue 26 = .ok (.iload 4, 2) := by decide +kernel
theorem dX9_nextDue_28 : decode cX9_nextDue 28 = .ok (.iadd, 1) := by decide +kernel
theorem dX9_nextDue_29 : decode cX9_nextDue 29 = .ok (.istore 5, 2) := by decide +kernel
theorem dX9_nextDue_31 : decode cX9_nextDue 31 = .ok (.aload_n 0, 1) := by decide +kernel
theorem dX9_nextDue_32 : decode cX9_nextDue 32 = .ok (.getfield 57, 3) := by decide +kernel
theorem dX9_nextDue_35 : decode cX9_nextDue 35 = .ok (.iload 5, 2) := by decide +kernel
theorem dX9_nextDue_37 : decode cX9_nextDue 37 = .ok (.iaload, 1) := by decide +kernel
theorem dX9_nextDue_38 : decode cX9_nextDue 38 = .ok (.ifCond .le 34, 3) := by decide +kernel
theorem dX9_nextDue_41 : decode cX9_nextDue 41 = .ok (.iload_n 2, 1) := by decide +kernel
theorem dX9_nextDue_42 : decode cX9_nextDue 42 = .ok (.iconst (-1), 1) := by decide +kernel
theorem dX9_nextDue_43 : decode cX9_nextDue 43 = .ok (.if_icmp .eq 24, 3) := by decide +kernel
theorem dX9_nextDue_46 : decode cX9_nextDue 46 = .ok (.aload_n 0, 1) := by decide +kernel
theorem dX9_nextDue_47 : decode cX9_nextDue 47 = .ok (.getfield 60, 3) := by decide +kernel
theorem dX9_nextDue_50 : decode cX9_nextDue 50 = .ok (.iload 5, 2) := by decide +kernel
theorem dX9_nextDue_52 : decode cX9_nextDue 52 = .ok (.iaload, 1) := by decide +kernel
theorem dX9_nextDue_53 : decode cX9_nextDue 53 = .ok (.aload_n 0, 1) := by decide +kernel
theorem dX9_nextDue_54 : decode cX9_nextDue 54 = .ok (.getfield 60, 3) := by decide +kernel
theorem dX9_nextDue_57 : decode cX9_nextDue 57 = .ok (.bipush 8, 2) := by decide +kernel
theorem dX9_nextDue_59 : decode cX9_nextDue 59 = .ok (.iload_n 1, 1) := by decide +kernel
theorem dX9_nextDue_60 : decode cX9_nextDue 60 = .ok (.imul, 1) := by decide +kernel
theorem dX9_nextDue_61 : decode cX9_nextDue 61 = .ok (.iload_n 2, 1) := by decide +kernel
theorem dX9_nextDue_62 : decode cX9_nextDue 62 = .ok (.iadd, 1) := by decide +kernel
theorem dX9_nextDue_63 : decode cX9_nextDue 63 = .ok (.iaload, 1) := by decide +kernel
theorem dX9_nextDue_64 : decode cX9_nextDue 64 = .ok (.if_icmp .ge 8, 3) := by decide +kernel
theorem dX9_nextDue_67 : decode cX9_nextDue 67 = .ok (.iload 4, 2) := by decide +kernel
theorem dX9_nextDue_69 : decode cX9_nextDue 69 = .ok (.goto 4, 3) := by decide +kernel
theorem dX9_nextDue_72 : decode cX9_nextDue 72 = .ok (.iload_n 2, 1) := by decide +kernel
theorem dX9_nextDue_73 : decode cX9_nextDue 73 = .ok (.istore_n 2, 1) := by decide +kernel
theorem dX9_nextDue_74 : decode cX9_nextDue 74 = .ok (.iinc 4 1, 3) := by decide +kernel
theorem dX9_nextDue_77 : decode cX9_nextDue 77 = .ok (.goto (-66), 3) := by decide +kernel
theorem dX9_nextDue_80 : decode cX9_nextDue 80 = .ok (.iload_n 3, 1) := by decide +kernel
theorem dX9_nextDue_81 : decode cX9_nextDue 81 = .ok (.ifCond .eq 7, 3) := by decide +kernel
theorem dX9_nextDue_84 : decode cX9_nextDue 84 = .ok (.iload_n 2, 1) := by decide +kernel
theorem dX9_nextDue_85 : decode cX9_nextDue 85 = .ok (.goto 4, 3) := by decide +kernel
theorem dX9_nextDue_88 : decode cX9_nextDue 88 = .ok (.iconst 0, 1) := by decide +kernel
theorem dX9_nextDue_89 : decode cX9_nextDue 89 = .ok (.ireturn, 1) := by decide +kernel
theorem dX9_pass_0 : decode cX9_pass 0 = .ok (.aload_n 0, 1) := by decide +kernel
theorem dX9_pass_1 : decode cX9_pass 1 = .ok (.iload_n 1, 1) := by decide +kernel
theorem dX9_pass_2 : decode cX9_pass 2 = .ok (.iconst 1, 1) := by decide +kernel
theorem dX9_pass_3 : decode cX9_pass 3 = .ok (.bipush 100, 2) := by decide +kernel
theorem dX9_pass_5 : decode cX9_pass 5 = .ok (.invokestatic 66, 3) := by decide +kernel
theorem dX9_pass_8 : decode cX9_pass 8 = .ok (.ifCond .eq 7, 3) := by decide +kernel
theorem dX9_pass_11 : decode cX9_pass 11 = .ok (.iconst 0, 1) := by decide +kernel
theorem dX9_pass_12 : decode cX9_pass 12 = .ok (.goto 4, 3) := by decide +kernel
theorem dX9_pass_15 : decode cX9_pass 15 = .ok (.iconst 1, 1) := by decide +kernel
theorem dX9_pass_16 : decode cX9_pass 16 = .ok (.putfield 63, 3) := by decide +kernel
theorem dX9_pass_19 : decode cX9_pass 19 = .ok (.aload_n 0, 1) := by decide +kernel
theorem dX9_pass_20 : decode cX9_pass 20 = .ok (.dup, 1) := by decide +kernel
theorem dX9_pass_21 : decode cX9_pass 21 = .ok (.getfield 130, 3) := by decide +kernel
theorem dX9_pass_24 : decode cX9_pass 24 = .ok (.aload_n 0, 1) := by decide +kernel
theorem dX9_pass_25 : decode cX9_pass 25 = .ok (.getfield 63, 3) := by decide +kernel
theorem dX9_pass_28 : decode cX9_pass 28 = .ok (.ifCond .ne 7, 3) := by decide +kernel
theorem dX9_pass_31 : decode cX9_pass 31 = .ok (.iload_n 1, 1) := by decide +kernel
theorem dX9_pass_32 : decode cX9_pass 32 = .ok (.goto 4, 3) := by decide +kernel
theorem dX9_pass_35 : decode cX9_pass 35 = .ok (.iconst 0, 1) := by decide +kernel
theorem dX9_pass_36 : decode cX9_pass 36 = .ok (.iadd, 1) := by decide +kernel
theorem dX9_pass_37 : decode cX9_pass 37 = .ok (.putfield 130, 3) := by decide +kernel
theorem dX9_pass_40 : decode cX9_pass 40 = .ok (.aload_n 0, 1) := by decide +kernel
theorem dX9_pass_41 : decode cX9_pass 41 = .ok (.getfield 63, 3) := by decide +kernel
theorem dX9_pass_44 : decode cX9_pass 44 = .ok (.ifCond .le 7, 3) := by decide +kernel
theorem dX9_pass_47 : decode cX9_pass 47 = .ok (.iconst 0, 1) := by decide +kernel
theorem dX9_pass_48 : decode cX9_pass 48 = .ok (.goto 7, 3) := by decide +kernel
theorem dX9_pass_51 : decode cX9_pass 51 = .ok (.aload_n 0, 1) := by decide +kernel
theorem dX9_pass_52 : decode cX9_pass 52 = .ok (.getfield 130, 3) := by decide +kernel
theorem dX9_pass_55 : decode cX9_pass 55 = .ok (.ireturn, 1) := by decide +kernel
theorem dJ6_numberOfTrailingZeros_0f7a4_0 : decode cJ6_numberOfTrailingZeros_0f7a4 0 = .ok (.iload_n 0, 1) := by decide +kernel
theorem dJ6_numberOfTrailingZeros_0f7a4_1 : decode cJ6_numberOfTrailingZeros_0f7a4 1 = .ok (.iconst (-1), 1) := by decide +kernel
theorem dJ6_numberOfTrailingZeros_0f7a4_2 : decode cJ6_numberOfTrailingZeros_0f7a4 2 = .ok (.ixor, 1) := by decide +kernel
theorem dJ6_numberOfTrailingZeros_0f7a4_3 : decode cJ6_numberOfTrailingZeros_0f7a4 3 = .ok (.iload_n 0, 1) := by decide +kernel
theorem dJ6_numberOfTrailingZeros_0f7a4_4 : decode cJ6_numberOfTrailingZeros_0f7a4 4 = .ok (.iconst 1, 1) := by decide +kernel
theorem dJ6_numberOfTrailingZeros_0f7a4_5 : decode cJ6_numberOfTrailingZeros_0f7a4 5 = .ok (.isub, 1) := by decide +kernel
theorem dJ6_numberOfTrailingZeros_0f7a4_6 : decode cJ6_numberOfTrailingZeros_0f7a4 6 = .ok (.iand, 1) := by decide +kernel
theorem dJ6_numberOfTrailingZeros_0f7a4_7 : decode cJ6_numberOfTrailingZeros_0f7a4 7 = .ok (.istore_n 0, 1) := by decide +kernel
theorem dJ6_numberOfTrailingZeros_0f7a4_8 : decode cJ6_numberOfTrailingZeros_0f7a4 8 = .ok (.iload_n 0, 1) := by decide +kernel
theorem dJ6_numberOfTrailingZeros_0f7a4_9 : decode cJ6_numberOfTrailingZeros_0f7a4 9 = .ok (.ifCond .gt 8, 3) := by decide +kernel
theorem dJ6_numberOfTrailingZeros_0f7a4_12 : decode cJ6_numberOfTrailingZeros_0f7a4 12 = .ok (.iload_n 0, 1) := by decide +kernel
theorem dJ6_numberOfTrailingZeros_0f7a4_13 : decode cJ6_numberOfTrailingZeros_0f7a4 13 = .ok (.bipush 32, 2) := by decide +kernel
theorem dJ6_numberOfTrailingZeros_0f7a4_15 : decode cJ6_numberOfTrailingZeros_0f7a4 15 = .ok (.iand, 1) := by decide +kernel
theorem dJ6_numberOfTrailingZeros_0f7a4_16 : decode cJ6_numberOfTrailingZeros_0f7a4 16 = .ok (.ireturn, 1) := by decide +kernel
theorem dJ6_numberOfTrailingZeros_0f7a4_17 : decode cJ6_numberOfTrailingZeros_0f7a4 17 = .ok (.iconst 1, 1) := by decide +kernel
theorem dJ6_numberOfTrailingZeros_0f7a4_18 : decode cJ6_numberOfTrailingZeros_0f7a4 18 = .ok (.istore_n 1, 1) := by decide +kernel
theorem dJ6_numberOfTrailingZeros_0f7a4_19 : decode cJ6_numberOfTrailingZeros_0f7a4 19 = .ok (.iload_n 0, 1) := by decide +kernel
theorem dJ6_numberOfTrailingZeros_0f7a4_20 : decode cJ6_numberOfTrailingZeros_0f7a4 20 = .ok (.ldc_w 264, 3) := by decide +kernel
theorem dJ6_numberOfTrailingZeros_0f7a4_23 : decode cJ6_numberOfTrailingZeros_0f7a4 23 = .ok (.if_icmp .le 11, 3) := by decide +kernel
theorem dJ6_numberOfTrailingZeros_0f7a4_26 : decode cJ6_numberOfTrailingZeros_0f7a4 26 = .ok (.iinc 1 16, 3) := by decide +kernel
theorem dJ6_numberOfTrailingZeros_0f7a4_29 : decode cJ6_numberOfTrailingZeros_0f7a4 29 = .ok (.iload_n 0, 1) := by decide +kernel
theorem dJ6_numberOfTrailingZeros_0f7a4_30 : decode cJ6_numberOfTrailingZeros_0f7a4 30 = .ok (.bipush 16, 2) := by decide +kernel
theorem dJ6_numberOfTrailingZeros_0f7a4_32 : decode cJ6_numberOfTrailingZeros_0f7a4 32 = .ok (.iushr, 1) := by decide +kernel
theorem dJ6_numberOfTrailingZeros_0f7a4_33 : decode cJ6_numberOfTrailingZeros_0f7a4 33 = .ok (.istore_n 0, 1) := by decide +kernel
theorem dJ6_numberOfTrailingZeros_0f7a4_34 : decode cJ6_numberOfTrailingZeros_0f7a4 34 = .ok (.iload_n 0, 1) := by decide +kernel
theorem dJ6_numberOfTrailingZeros_0f7a4_35 : decode cJ6_numberOfTrailingZeros_0f7a4 35 = .ok (.sipush 256, 3) := by decide +kernel
theorem dJ6_numberOfTrailingZeros_0f7a4_38 : decode cJ6_numberOfTrailingZeros_0f7a4 38 = .ok (.if_icmp .le 11, 3) := by decide +kernel
theorem dJ6_numberOfTrailingZeros_0f7a4_41 : decode cJ6_numberOfTrailingZeros_0f7a4 41 = .ok (.iinc 1 8, 3) := by decide +kernel
theorem dJ6_numberOfTrailingZeros_0f7a4_44 : decode cJ6_numberOfTrailingZeros_0f7a4 44 = .ok (.iload_n 0, 1) := by decide +kernel
theorem dJ6_numberOfTrailingZeros_0f7a4_45 : decode cJ6_numberOfTrailingZeros_0f7a4 45 = .ok (.bipush 8, 2) := by decide +kernel
theorem dJ6_numberOfTrailingZeros_0f7a4_47 : decode cJ6_numberOfTrailingZeros_0f7a4 47 = .ok (.iushr, 1) := by decide +kernel
theorem dJ6_numberOfTrailingZeros_0f7a4_48 : decode cJ6_numberOfTrailingZeros_0f7a4 48 = .ok (.istore_n 0, 1) := by decide +kernel
theorem dJ6_numberOfTrailingZeros_0f7a4_49 : decode cJ6_numberOfTrailingZeros_0f7a4 49 = .ok (.iload_n 0, 1) := by decide +kernel
theorem dJ6_numberOfTrailingZeros_0f7a4_50 : decode cJ6_numberOfTrailingZeros_0f7a4 50 = .ok (.bipush 16, 2) := by decide +kernel
theorem dJ6_numberOfTrailingZeros_0f7a4_52 : decode cJ6_numberOfTrailingZeros_0f7a4 52 = .ok (.if_icmp .le 10, 3) := by decide +kernel
theorem dJ6_numberOfTrailingZeros_0f7a4_55 : decode cJ6_numberOfTrailingZeros_0f7a4 55 = .ok (.iinc 1 4, 3) := by decide +kernel
theorem dJ6_numberOfTrailingZeros_0f7a4_58 : decode cJ6_numberOfTrailingZeros_0f7a4 58 = .ok (.iload_n 0, 1) := by decide +kernel
theorem dJ6_numberOfTrailingZeros_0f7a4_59 : decode cJ6_numberOfTrailingZeros_0f7a4 59 = .ok (.iconst 4, 1) := by decide +kernel
theorem dJ6_numberOfTrailingZeros_0f7a4_60 : decode cJ6_numberOfTrailingZeros_0f7a4 60 = .ok (.iushr, 1) := by decide +kernel
theorem dJ6_numberOfTrailingZeros_0f7a4_61 : decode cJ6_numberOfTrailingZeros_0f7a4 61 = .ok (.istore_n 0, 1) := by decide +kernel
theorem dJ6_numberOfTrailingZeros_0f7a4_62 : decode cJ6_numberOfTrailingZeros_0f7a4 62 = .ok (.iload_n 0, 1) := by decide +kernel
theorem dJ6_numberOfTrailingZeros_0f7a4_63 : decode cJ6_numberOfTrailingZeros_0f7a4 63 = .ok (.iconst 4, 1) := by decide +kernel
theorem dJ6_numberOfTrailingZeros_0f7a4_64 : decode cJ6_numberOfTrailingZeros_0f7a4 64 = .ok (.if_icmp .le 10, 3) := by decide +kernel
theorem dJ6_numberOfTrailingZeros_0f7a4_67 : decode cJ6_numberOfTrailingZeros_0f7a4 67 = .ok (.iinc 1 2, 3) := by decide +kernel
theorem dJ6_numberOfTrailingZeros_0f7a4_70 : decode cJ6_numberOfTrailingZeros_0f7a4 70 = .ok (.iload_n 0, 1) := by decide +kernel
theorem dJ6_numberOfTrailingZeros_0f7a4_71 : decode cJ6_numberOfTrailingZeros_0f7a4 71 = .ok (.iconst 2, 1) := by decide +kernel
theorem dJ6_numberOfTrailingZeros_0f7a4_72 : decode cJ6_numberOfTrailingZeros_0f7a4 72 = .ok (.iushr, 1) := by decide +kernel
theorem dJ6_numberOfTrailingZeros_0f7a4_73 : decode cJ6_numberOfTrailingZeros_0f7a4 73 = .ok (.istore_n 0, 1) := by decide +kernel
theorem dJ6_numberOfTrailingZeros_0f7a4_74 : decode cJ6_numberOfTrailingZeros_0f7a4 74 = .ok (.iload_n 1, 1) := by decide +kernel
theorem dJ6_numberOfTrailingZeros_0f7a4_75 : decode cJ6_numberOfTrailingZeros_0f7a4 75 = .ok (.iload_n 0, 1) := by decide +kernel
theorem dJ6_numberOfTrailingZeros_0f7a4_76 : decode cJ6_numberOfTrailingZeros_0f7a4 76 = .ok (.iconst 1, 1) := by decide +kernel
theorem dJ6_numberOfTrailingZeros_0f7a4_77 : decode cJ6_numberOfTrailingZeros_0f7a4 77 = .ok (.iushr, 1) := by decide +kernel
theorem dJ6_numberOfTrailingZeros_0f7a4_78 : decode cJ6_numberOfTrailingZeros_0f7a4 78 = .ok (.iadd, 1) := by decide +kernel
theorem dJ6_numberOfTrailingZeros_0f7a4_79 : decode cJ6_numberOfTrailingZeros_0f7a4 79 = .ok (.ireturn, 1) := by decide +kernel
theorem dJ6_bitCount_0f7a4_0 : decode cJ6_bitCount_0f7a4 0 = .ok (.iload_n 0, 1) := by decide +kernel
theorem dJ6_bitCount_0f7a4_1 : decode cJ6_bitCount_0f7a4 1 = .ok (.iload_n 0, 1) := by decide +kernel
theorem dJ6_bitCount_0f7a4_2 : decode cJ6_bitCount_0f7a4 2 = .ok (.iconst 1, 1) := by decide +kernel
theorem dJ6_bitCount_0f7a4_3 : decode cJ6_bitCount_0f7a4 3 = .ok (.iushr, 1) := by decide +kernel
theorem dJ6_bitCount_0f7a4_4 : decode cJ6_bitCount_0f7a4 4 = .ok (.ldc_w 265, 3) := by decide +kernel
theorem dJ6_bitCount_0f7a4_7 : decode cJ6_bitCount_0f7a4 7 = .ok (.iand, 1) := by decide +kernel
theorem dJ6_bitCount_0f7a4_8 : decode cJ6_bitCount_0f7a4 8 = .ok (.isub, 1) := by decide +kernel
theorem dJ6_bitCount_0f7a4_9 : decode cJ6_bitCount_0f7a4 9 = .ok (.istore_n 0, 1) := by decide +kernel
theorem dJ6_bitCount_0f7a4_10 : decode cJ6_bitCount_0f7a4 10 = .ok (.iload_n 0, 1) := by decide +kernel
theorem dJ6_bitCount_0f7a4_11 : decode cJ6_bitCount_0f7a4 11 = .ok (.ldc_w 266, 3) := by decide +kernel
theorem dJ6_bitCount_0f7a4_14 : decode cJ6_bitCount_0f7a4 14 = .ok (.iand, 1) := by decide +kernel
theorem dJ6_bitCount_0f7a4_15 : decode cJ6_bitCount_0f7a4 15 = .ok (.iload_n 0, 1) := by decide +kernel
theorem dJ6_bitCount_0f7a4_16 : decode cJ6_bitCount_0f7a4 16 = .ok (.iconst 2, 1) := by decide +kernel
theorem dJ6_bitCount_0f7a4_17 : decode cJ6_bitCount_0f7a4 17 = .ok (.iushr, 1) := by decide +kernel
theorem dJ6_bitCount_0f7a4_18 : decode cJ6_bitCount_0f7a4 18 = .ok (.ldc_w 266, 3) := by decide +kernel
theorem dJ6_bitCount_0f7a4_21 : decode cJ6_bitCount_0f7a4 21 = .ok (.iand, 1) := by decide +kernel
theorem dJ6_bitCount_0f7a4_22 : decode cJ6_bitCount_0f7a4 22 = .ok (.iadd, 1) := by decide +kernel
theorem dJ6_bitCount_0f7a4_23 : decode cJ6_bitCount_0f7a4 23 = .ok (.istore_n 0, 1) := by decide +kernel
theorem dJ6_bitCount_0f7a4_24 : decode cJ6_bitCount_0f7a4 24 = .ok (.iload_n 0, 1) := by decide +kernel
theorem dJ6_bitCount_0f7a4_25 : decode cJ6_bitCount_0f7a4 25 = .ok (.iload_n 0, 1) := by decide +kernel
theorem dJ6_bitCount_0f7a4_26 : decode cJ6_bitCount_0f7a4 26 = .ok (.iconst 4, 1) := by decide +kernel
theorem dJ6_bitCount_0f7a4_27 : decode cJ6_bitCount_0f7a4 27 = .ok (.iushr, 1) := by decide +kernel
theorem dJ6_bitCount_0f7a4_28 : decode cJ6_bitCount_0f7a4 28 = .ok (.iadd, 1) := by decide +kernel
theorem dJ6_bitCount_0f7a4_29 : decode cJ6_bitCount_0f7a4 29 = .ok (.ldc_w 267, 3) := by decide +kernel
theorem dJ6_bitCount_0f7a4_32 : decode cJ6_bitCount_0f7a4 32 = .ok (.iand, 1) := by decide +kernel
theorem dJ6_bitCount_0f7a4_33 : decode cJ6_bitCount_0f7a4 33 = .ok (.istore_n 0, 1) := by decide +kernel
theorem dJ6_bitCount_0f7a4_34 : decode cJ6_bitCount_0f7a4 34 = .ok (.iload_n 0, 1) := by decide +kernel
theorem dJ6_bitCount_0f7a4_35 : decode cJ6_bitCount_0f7a4 35 = .ok (.iload_n 0, 1) := by decide +kernel
theorem dJ6_bitCount_0f7a4_36 : decode cJ6_bitCount_0f7a4 36 = .ok (.bipush 8, 2) := by decide +kernel
theorem dJ6_bitCount_0f7a4_38 : decode cJ6_bitCount_0f7a4 38 = .ok (.iushr, 1) := by decide +kernel
theorem dJ6_bitCount_0f7a4_39 : decode cJ6_bitCount_0f7a4 39 = .ok (.iadd, 1) := by decide +kernel
theorem dJ6_bitCount_0f7a4_40 : decode cJ6_bitCount_0f7a4 40 = .ok (.istore_n 0, 1) := by decide +kernel
theorem dJ6_bitCount_0f7a4_41 : decode cJ6_bitCount_0f7a4 41 = .ok (.iload_n 0, 1) := by decide +kernel
theorem dJ6_bitCount_0f7a4_42 : decode cJ6_bitCount_0f7a4 42 = .ok (.iload_n 0, 1) := by decide +kernel
theorem dJ6_bitCount_0f7a4_43 : decode cJ6_bitCount_0f7a4 43 = .ok (.bipush 16, 2) := by decide +kernel
theorem dJ6_bitCount_0f7a4_45 : decode cJ6_bitCount_0f7a4 45 = .ok (.iushr, 1) := by decide +kernel
theorem dJ6_bitCount_0f7a4_46 : decode cJ6_bitCount_0f7a4 46 = .ok (.iadd, 1) := by decide +kernel
theorem dJ6_bitCount_0f7a4_47 : decode cJ6_bitCount_0f7a4 47 = .ok (.istore_n 0, 1) := by decide +kernel
theorem dJ6_bitCount_0f7a4_48 : decode cJ6_bitCount_0f7a4 48 = .ok (.iload_n 0, 1) := by decide +kernel
theorem dJ6_bitCount_0f7a4_49 : decode cJ6_bitCount_0f7a4 49 = .ok (.bipush 63, 2) := by decide +kernel
theorem dJ6_bitCount_0f7a4_51 : decode cJ6_bitCount_0f7a4 51 = .ok (.iand, 1) := by decide +kernel
theorem dJ6_bitCount_0f7a4_52 : decode cJ6_bitCount_0f7a4 52 = .ok (.ireturn, 1) := by decide +kernel
theorem dJ9_min_7cf53_0 : decode cJ9_min_7cf53 0 = .ok (.iload_n 0, 1) := by decide +kernel
theorem dJ9_min_7cf53_1 : decode cJ9_min_7cf53 1 = .ok (.iload_n 1, 1) := by decide +kernel
theorem dJ9_min_7cf53_2 : decode cJ9_min_7cf53 2 = .ok (.if_icmp .gt 7, 3) := by decide +kernel
theorem dJ9_min_7cf53_5 : decode cJ9_min_7cf53 5 = .ok (.iload_n 0, 1) := by decide +kernel
theorem dJ9_min_7cf53_6 : decode cJ9_min_7cf53 6 = .ok (.goto 4, 3) := by decide +kernel
theorem dJ9_min_7cf53_9 : decode cJ9_min_7cf53 9 = .ok (.iload_n 1, 1) := by decide +kernel
theorem dJ9_min_7cf53_10 : decode cJ9_min_7cf53 10 = .ok (.ireturn, 1) := by decide +kernel
theorem dJ7_fill_53178_0 : decode cJ7_fill_53178 0 = .ok (.iconst 0, 1) := by decide +kernel
theorem dJ7_fill_53178_1 : decode cJ7_fill_53178 1 = .ok (.istore_n 2, 1) := by decide +kernel
theorem dJ7_fill_53178_2 : decode cJ7_fill_53178 2 = .ok (.aload_n 0, 1) := by decide +kernel
theorem dJ7_fill_53178_3 : decode cJ7_fill_53178 3 = .ok (.arraylength, 1) := by decide +kernel
theorem dJ7_fill_53178_4 : decode cJ7_fill_53178 4 = .ok (.istore_n 3, 1) := by decide +kernel
theorem dJ7_fill_53178_5 : decode cJ7_fill_53178 5 = .ok (.iload_n 2, 1) := by decide +kernel
theorem dJ7_fill_53178_6 : decode cJ7_fill_53178 6 = .ok (.iload_n 3, 1) := by decide +kernel
theorem dJ7_fill_53178_7 : decode cJ7_fill_53178 7 = .ok (.if_icmp .ge 13, 3) := by decide +kernel
theorem dJ7_fill_53178_10 : decode cJ7_fill_53178 10 = .ok (.aload_n 0, 1) := by decide +kernel
theorem dJ7_fill_53178_11 : decode cJ7_fill_53178 11 = .ok (.iload_n 2, 1) := by decide +kernel
theorem dJ7_fill_53178_12 : decode cJ7_fill_53178 12 = .ok (.iload_n 1, 1) := by decide +kernel
theorem dJ7_fill_53178_13 : decode cJ7_fill_53178 13 = .ok (.iastore, 1) := by decide +kernel
theorem dJ7_fill_53178_14 : decode cJ7_fill_53178 14 = .ok (.iinc 2 1, 3) := by decide +kernel
theorem dJ7_fill_53178_17 : decode cJ7_fill_53178 17 = .ok (.goto (-12), 3) := by decide +kernel
theorem dJ7_fill_53178_20 : decode cJ7_fill_53178 20 = .ok (.return_, 1) := by decide +kernel
theorem dJ7_copyOf_59c91_0 : decode cJ7_copyOf_59c91 0 = .ok (.iload_n 1, 1) := by decide +kernel
theorem dJ7_copyOf_59c91_1 : decode cJ7_copyOf_59c91 1 = .ok (.aload_n 0, 1) := by decide +kernel
theorem dJ7_copyOf_59c91_2 : decode cJ7_copyOf_59c91 2 = .ok (.arraylength, 1) := by decide +kernel
theorem dJ7_copyOf_59c91_3 : decode cJ7_copyOf_59c91 3 = .ok (.if_icmp .ne 11, 3) := by decide +kernel
theorem dJ7_copyOf_59c91_6 : decode cJ7_copyOf_59c91 6 = .ok (.aload_n 0, 1) := by decide +kernel
theorem dJ7_copyOf_59c91_7 : decode cJ7_copyOf_59c91 7 = .ok (.invokevirtual 316, 3) := by decide +kernel
theorem dJ7_copyOf_59c91_10 : decode cJ7_copyOf_59c91 10 = .ok (.checkcast 317, 3) := by decide +kernel
theorem dJ7_copyOf_59c91_13 : decode cJ7_copyOf_59c91 13 = .ok (.areturn, 1) := by decide +kernel
theorem dJ7_copyOf_59c91_14 : decode cJ7_copyOf_59c91 14 = .ok (.iload_n 1, 1) := by decide +kernel
theorem dJ7_copyOf_59c91_15 : decode cJ7_copyOf_59c91 15 = .ok (.newarray .int, 2) := by decide +kernel
theorem dJ7_copyOf_59c91_17 : decode cJ7_copyOf_59c91 17 = .ok (.astore_n 2, 1) := by decide +kernel
theorem dJ7_copyOf_59c91_18 : decode cJ7_copyOf_59c91 18 = .ok (.aload_n 0, 1) := by decide +kernel
theorem dJ7_copyOf_59c91_19 : decode cJ7_copyOf_59c91 19 = .ok (.iconst 0, 1) := by decide +kernel
theorem dJ7_copyOf_59c91_20 : decode cJ7_copyOf_59c91 20 = .ok (.aload_n 2, 1) := by decide +kernel
theorem dJ7_copyOf_59c91_21 : decode cJ7_copyOf_59c91 21 = .ok (.iconst 0, 1) := by decide +kernel
theorem dJ7_copyOf_59c91_22 : decode cJ7_copyOf_59c91 22 = .ok (.aload_n 0, 1) := by decide +kernel
theorem dJ7_copyOf_59c91_23 : decode cJ7_copyOf_59c91 23 = .ok (.arraylength, 1) := by decide +kernel
theorem dJ7_copyOf_59c91_24 : decode cJ7_copyOf_59c91 24 = .ok (.iload_n 1, 1) := by decide +kernel
theorem dJ7_copyOf_59c91_25 : decode cJ7_copyOf_59c91 25 = .ok (.invokestatic 304, 3) := by decide +kernel
theorem dJ7_copyOf_59c91_28 : decode cJ7_copyOf_59c91 28 = .ok (.invokestatic 150, 3) := by decide +kernel
theorem dJ7_copyOf_59c91_31 : decode cJ7_copyOf_59c91 31 = .ok (.aload_n 2, 1) := by decide +kernel
theorem dJ7_copyOf_59c91_32 : decode cJ7_copyOf_59c91 32 = .ok (.areturn, 1) := by decide +kernel
theorem dL_addRule_0 : decode cL_addRule 0 = .ok (.aload_n 3, 1) := by decide +kernel
theorem dL_addRule_1 : decode cL_addRule 1 = .ok (.iconst 0, 1) := by decide +kernel
theorem dL_addRule_2 : decode cL_addRule 2 = .ok (.aload_n 0, 1) := by decide +kernel
theorem dL_addRule_3 : decode cL_addRule 3 = .ok (.iload_n 1, 1) := by decide +kernel
theorem dL_addRule_4 : decode cL_addRule 4 = .ok (.iload_n 2, 1) := by decide +kernel
theorem dL_addRule_5 : decode cL_addRule 5 = .ok (.invokevirtual 7, 3) := by decide +kernel
theorem dL_addRule_8 : decode cL_addRule 8 = .ok (.i2l, 1) := by decide +kernel
theorem dL_addRule_9 : decode cL_addRule 9 = .ok (.lastore, 1) := by decide +kernel
theorem dL_addRule_10 : decode cL_addRule 10 = .ok (.goto 11, 3) := by decide +kernel
theorem dL_addRule_13 : decode cL_addRule 13 = .ok (.astore 4, 2) := by decide +kernel
theorem dL_addRule_15 : decode cL_addRule 15 = .ok (.iconst 1, 1) := by decide +kernel
theorem dL_addRule_16 : decode cL_addRule 16 = .ok (.ireturn, 1) := by decide +kernel
theorem dL_addRule_17 : decode cL_addRule 17 = .ok (.astore 4, 2) := by decide +kernel
theorem dL_addRule_19 : decode cL_addRule 19 = .ok (.iconst 2, 1) := by decide +kernel
theorem dL_addRule_20 : decode cL_addRule 20 = .ok (.ireturn, 1) := by decide +kernel
theorem dL_addRule_21 : decode cL_addRule 21 = .ok (.iconst 0, 1) := by decide +kernel
theorem dL_addRule_22 : decode cL_addRule 22 = .ok (.ireturn, 1) := by decide +kernel
theorem dL_headwords_0 : decode cL_headwords 0 = .ok (.aload_n 2, 1) := by decide +kernel
theorem dL_headwords_1 : decode cL_headwords 1 = .ok (.iconst 0, 1) := by decide +kernel
theorem dL_headwords_2 : decode cL_headwords 2 = .ok (.aload_n 0, 1) := by decide +kernel
theorem dL_headwords_3 : decode cL_headwords 3 = .ok (.iload_n 1, 1) := by decide +kernel
theorem dL_headwords_4 : decode cL_headwords 4 = .ok (.invokevirtual 17, 3) := by decide +kernel
theorem dL_headwords_7 : decode cL_headwords 7 = .ok (.i2l, 1) := by decide +kernel
theorem dL_headwords_8 : decode cL_headwords 8 = .ok (.lastore, 1) := by decide +kernel
theorem dL_headwords_9 : decode cL_headwords 9 = .ok (.goto 6, 3) := by decide +kernel
theorem dL_headwords_12 : decode cL_headwords 12 = .ok (.astore_n 3, 1) := by decide +kernel
theorem dL_headwords_13 : decode cL_headwords 13 = .ok (.iconst 1, 1) := by decide +kernel
theorem dL_headwords_14 : decode cL_headwords 14 = .ok (.ireturn, 1) := by decide +kernel
theorem dL_headwords_15 : decode cL_headwords 15 = .ok (.iconst 0, 1) := by decide +kernel
theorem dL_headwords_16 : decode cL_headwords 16 = .ok (.ireturn, 1) := by decide +kernel
theorem dL_isForm_0 : decode cL_isForm 0 = .ok (.aload_n 3, 1) := by decide +kernel
theorem dL_isForm_1 : decode cL_isForm 1 = .ok (.iconst 0, 1) := by decide +kernel
theorem dL_isForm_2 : decode cL_isForm 2 = .ok (.aload_n 0, 1) := by decide +kernel
theorem dL_isForm_3 : decode cL_isForm 3 = .ok (.iload_n 1, 1) := by decide +kernel
theorem dL_isForm_4 : decode cL_isForm 4 = .ok (.iload_n 2, 1) := by decide +kernel
theorem dL_isForm_5 : decode cL_isForm 5 = .ok (.invokevirtual 23, 3) := by decide +kernel
theorem dL_isForm_8 : decode cL_isForm 8 = .ok (.ifCond .eq 7, 3) := by decide +kernel
theorem dL_isForm_11 : decode cL_isForm 11 = .ok (.lconst 1, 1) := by decide +kernel
theorem dL_isForm_12 : decode cL_isForm 12 = .ok (.goto 4, 3) := by decide +kernel
theorem dL_isForm_15 : decode cL_isForm 15 = .ok (.lconst 0, 1) := by decide +kernel
theorem dL_isForm_16 : decode cL_isForm 16 = .ok (.lastore, 1) := by decide +kernel
theorem dL_isForm_17 : decode cL_isForm 17 = .ok (.goto 7, 3) := by decide +kernel
theorem dL_isForm_20 : decode cL_isForm 20 = .ok (.astore 4, 2) := by decide +kernel
theorem dL_isForm_22 : decode cL_isForm 22 = .ok (.iconst 1, 1) := by decide +kernel
theorem dL_isForm_23 : decode cL_isForm 23 = .ok (.ireturn, 1) := by decide +kernel
theorem dL_isForm_24 : decode cL_isForm 24 = .ok (.iconst 0, 1) := by decide +kernel
theorem dL_isForm_25 : decode cL_isForm 25 = .ok (.ireturn, 1) := by decide +kernel
theorem dL_part_0 : decode cL_part 0 = .ok (.aload_n 2, 1) := by decide +kernel
theorem dL_part_1 : decode cL_part 1 = .ok (.iconst 0, 1) := by decide +kernel
theorem dL_part_2 : decode cL_part 2 = .ok (.aload_n 0, 1) := by decide +kernel
theorem dL_part_3 : decode cL_part 3 = .ok (.iload_n 1, 1) := by decide +kernel
theorem dL_part_4 : decode cL_part 4 = .ok (.invokevirtual 27, 3) := by decide +kernel
theorem dL_part_7 : decode cL_part 7 = .ok (.i2l, 1) := by decide +kernel
theorem dL_part_8 : decode cL_part 8 = .ok (.lastore, 1) := by decide +kernel
theorem dL_part_9 : decode cL_part 9 = .ok (.goto 9, 3) := by decide +kernel
theorem dL_part_12 : decode cL_part 12 = .ok (.astore_n 3, 1) := by decide +kernel
theorem dL_part_13 : decode cL_part 13 = .ok (.iconst 1, 1) := by decide +kernel
theorem dL_part_14 : decode cL_part 14 = .ok (.ireturn, 1) := by decide +kernel
theorem dL_part_15 : decode cL_part 15 = .ok (.astore_n 3, 1) := by decide +kernel
theorem dL_part_16 : decode cL_part 16 = .ok (.iconst 2, 1) := by decide +kernel
theorem dL_part_17 : decode cL_part 17 = .ok (.ireturn, 1) := by decide +kernel
theorem dL_part_18 : decode cL_part 18 = .ok (.iconst 0, 1) := by decide +kernel
theorem dL_part_19 : decode cL_part 19 = .ok (.ireturn, 1) := by decide +kernel
theorem dL_addPhrase_0 : decode cL_addPhrase 0 = .ok (.aload_n 2, 1) := by decide +kernel
theorem dL_addPhrase_1 : decode cL_addPhrase 1 = .ok (.iconst 0, 1) := by decide +kernel
theorem dL_addPhrase_2 : decode cL_addPhrase 2 = .ok (.aload_n 0, 1) := by decide +kernel
theorem dL_addPhrase_3 : decode cL_addPhrase 3 = .ok (.iload_n 1, 1) := by decide +kernel
theorem dL_addPhrase_4 : decode cL_addPhrase 4 = .ok (.invokevirtual 30, 3) := by decide +kernel
theorem dL_addPhrase_7 : decode cL_addPhrase 7 = .ok (.i2l, 1) := by decide +kernel
theorem dL_addPhrase_8 : decode cL_addPhrase 8 = .ok (.lastore, 1) := by decide +kernel
theorem dL_addPhrase_9 : decode cL_addPhrase 9 = .ok (.goto 9, 3) := by decide +kernel
theorem dL_addPhrase_12 : decode cL_addPhrase 12 = .ok (.astore_n 3, 1) := by decide +kernel
theorem dL_addPhrase_13 : decode cL_addPhrase 13 = .ok (.iconst 1, 1) := by decide +kernel
theorem dL_addPhrase_14 : decode cL_addPhrase 14 = .ok (.ireturn, 1) := by decide +kernel
theorem dL_addPhrase_15 : decode cL_addPhrase 15 = .ok (.astore_n 3, 1) := by decide +kernel
theorem dL_addPhrase_16 : decode cL_addPhrase 16 = .ok (.iconst 2, 1) := by decide +kernel
theorem dL_addPhrase_17 : decode cL_addPhrase 17 = .ok (.ireturn, 1) := by decide +kernel
theorem dL_addPhrase_18 : decode cL_addPhrase 18 = .ok (.iconst 0, 1) := by decide +kernel
theorem dL_addPhrase_19 : decode cL_addPhrase 19 = .ok (.ireturn, 1) := by decide +kernel
theorem dL_addSplit_0 : decode cL_addSplit 0 = .ok (.aload 5, 2) := by decide +kernel
theorem dL_addSplit_2 : decode cL_addSplit 2 = .ok (.iconst 0, 1) := by decide +kernel
theorem dL_addSplit_3 : decode cL_addSplit 3 = .ok (.aload_n 0, 1) := by decide +kernel
theorem dL_addSplit_4 : decode cL_addSplit 4 = .ok (.iload_n 1, 1) := by decide +kernel
theorem dL_addSplit_5 : decode cL_addSplit 5 = .ok (.iload_n 2, 1) := by decide +kernel
theorem dL_addSplit_6 : decode cL_addSplit 6 = .ok (.iload_n 3, 1) := by decide +kernel
theorem dL_addSplit_7 : decode cL_addSplit 7 = .ok (.iload 4, 2) := by decide +kernel
theorem dL_addSplit_9 : decode cL_addSplit 9 = .ok (.invokevirtual 33, 3) := by decide +kernel
theorem dL_addSplit_12 : decode cL_addSplit 12 = .ok (.i2l, 1) := by decide +kernel
theorem dL_addSplit_13 : decode cL_addSplit 13 = .ok (.lastore, 1) := by decide +kernel
theorem dL_addSplit_14 : decode cL_addSplit 14 = .ok (.goto 15, 3) := by decide +kernel
theorem dL_addSplit_17 : decode cL_addSplit 17 = .ok (.astore 6, 2) := by decide +kernel
theorem dL_addSplit_19 : decode cL_addSplit 19 = .ok (.iconst 1, 1) := by decide +kernel
theorem dL_addSplit_20 : decode cL_addSplit 20 = .ok (.ireturn, 1) := by decide +kernel
theorem dL_addSplit_21 : decode cL_addSplit 21 = .ok (.astore 6, 2) := by decide +kernel
theorem dL_addSplit_23 : decode cL_addSplit 23 = .ok (.iconst 2, 1) := by decide +kernel
theorem dL_addSplit_24 : decode cL_addSplit 24 = .ok (.ireturn, 1) := by decide +kernel
theorem dL_addSplit_25 : decode cL_addSplit 25 = .ok (.astore 6, 2) := by decide +kernel
theorem dL_addSplit_27 : decode cL_addSplit 27 = .ok (.iconst 3, 1) := by decide +kernel
theorem dL_addSplit_28 : decode cL_addSplit 28 = .ok (.ireturn, 1) := by decide +kernel
theorem dL_addSplit_29 : decode cL_addSplit 29 = .ok (.iconst 0, 1) := by decide +kernel
theorem dL_addSplit_30 : decode cL_addSplit 30 = .ok (.ireturn, 1) := by decide +kernel
theorem dL_takeOut_0 : decode cL_takeOut 0 = .ok (.aload_n 2, 1) := by decide +kernel
theorem dL_takeOut_1 : decode cL_takeOut 1 = .ok (.iconst 0, 1) := by decide +kernel
theorem dL_takeOut_2 : decode cL_takeOut 2 = .ok (.aload_n 0, 1) := by decide +kernel
theorem dL_takeOut_3 : decode cL_takeOut 3 = .ok (.iload_n 1, 1) := by decide +kernel
theorem dL_takeOut_4 : decode cL_takeOut 4 = .ok (.invokevirtual 37, 3) := by decide +kernel
theorem dL_takeOut_7 : decode cL_takeOut 7 = .ok (.i2l, 1) := by decide +kernel
theorem dL_takeOut_8 : decode cL_takeOut 8 = .ok (.lastore, 1) := by decide +kernel
theorem dL_takeOut_9 : decode cL_takeOut 9 = .ok (.goto 6, 3) := by decide +kernel
theorem dL_takeOut_12 : decode cL_takeOut 12 = .ok (.astore_n 3, 1) := by decide +kernel
theorem dL_takeOut_13 : decode cL_takeOut 13 = .ok (.iconst 1, 1) := by decide +kernel
theorem dL_takeOut_14 : decode cL_takeOut 14 = .ok (.ireturn, 1) := by decide +kernel
theorem dL_takeOut_15 : decode cL_takeOut 15 = .ok (.iconst 0, 1) := by decide +kernel
theorem dL_takeOut_16 : decode cL_takeOut 16 = .ok (.ireturn, 1) := by decide +kernel
theorem dL_say_0 : decode cL_say 0 = .ok (.aload_n 2, 1) := by decide +kernel
theorem dL_say_1 : decode cL_say 1 = .ok (.iconst 0, 1) := by decide +kernel
theorem dL_say_2 : decode cL_say 2 = .ok (.aload_n 0, 1) := by decide +kernel
theorem dL_say_3 : decode cL_say 3 = .ok (.iload_n 1, 1) := by decide +kernel
theorem dL_say_4 : decode cL_say 4 = .ok (.invokevirtual 42, 3) := by decide +kernel
theorem dL_say_7 : decode cL_say 7 = .ok (.i2l, 1) := by decide +kernel
theorem dL_say_8 : decode cL_say 8 = .ok (.lastore, 1) := by decide +kernel
theorem dL_say_9 : decode cL_say 9 = .ok (.goto 9, 3) := by decide +kernel
theorem dL_say_12 : decode cL_say 12 = .ok (.astore_n 3, 1) := by decide +kernel
theorem dL_say_13 : decode cL_say 13 = .ok (.iconst 1, 1) := by decide +kernel
theorem dL_say_14 : decode cL_say 14 = .ok (.ireturn, 1) := by decide +kernel
theorem dL_say_15 : decode cL_say 15 = .ok (.astore_n 3, 1) := by decide +kernel
theorem dL_say_16 : decode cL_say 16 = .ok (.iconst 2, 1) := by decide +kernel
theorem dL_say_17 : decode cL_say 17 = .ok (.ireturn, 1) := by decide +kernel
theorem dL_say_18 : decode cL_say 18 = .ok (.iconst 0, 1) := by decide +kernel
theorem dL_say_19 : decode cL_say 19 = .ok (.ireturn, 1) := by decide +kernel
theorem dL_setBare_0 : decode cL_setBare 0 = .ok (.aload_n 2, 1) := by decide +kernel
theorem dL_setBare_1 : decode cL_setBare 1 = .ok (.iconst 0, 1) := by decide +kernel
theorem dL_setBare_2 : decode cL_setBare 2 = .ok (.aload_n 0, 1) := by decide +kernel
theorem dL_setBare_3 : decode cL_setBare 3 = .ok (.iload_n 1, 1) := by decide +kernel
theorem dL_setBare_4 : decode cL_setBare 4 = .ok (.invokevirtual 45, 3) := by decide +kernel
theorem dL_setBare_7 : decode cL_setBare 7 = .ok (.i2l, 1) := by decide +kernel
theorem dL_setBare_8 : decode cL_setBare 8 = .ok (.lastore, 1) := by decide +kernel
theorem dL_setBare_9 : decode cL_setBare 9 = .ok (.goto 6, 3) := by decide +kernel
theorem dL_setBare_12 : decode cL_setBare 12 = .ok (.astore_n 3, 1) := by decide +kernel
theorem dL_setBare_13 : decode cL_setBare 13 = .ok (.iconst 1, 1) := by decide +kernel
theorem dL_setBare_14 : decode cL_setBare 14 = .ok (.ireturn, 1) := by decide +kernel
theorem dL_setBare_15 : decode cL_setBare 15 = .ok (.iconst 0, 1) := by decide +kernel
theorem dL_setBare_16 : decode cL_setBare 16 = .ok (.ireturn, 1) := by decide +kernel
theorem dL_glossAt_0 : decode cL_glossAt 0 = .ok (.aload_n 2, 1) := by decide +kernel
theorem dL_glossAt_1 : decode cL_glossAt 1 = .ok (.iconst 0, 1) := by decide +kernel
theorem dL_glossAt_2 : decode cL_glossAt 2 = .ok (.aload_n 0, 1) := by decide +kernel
theorem dL_glossAt_3 : decode cL_glossAt 3 = .ok (.iload_n 1, 1) := by decide +kernel
theorem dL_glossAt_4 : decode cL_glossAt 4 = .ok (.invokevirtual 48, 3) := by decide +kernel
theorem dL_glossAt_7 : decode cL_glossAt 7 = .ok (.i2l, 1) := by decide +kernel
theorem dL_glossAt_8 : decode cL_glossAt 8 = .ok (.lastore, 1) := by decide +kernel
theorem dL_glossAt_9 : decode cL_glossAt 9 = .ok (.goto 6, 3) := by decide +kernel
theorem dL_glossAt_12 : decode cL_glossAt 12 = .ok (.astore_n 3, 1) := by decide +kernel
theorem dL_glossAt_13 : decode cL_glossAt 13 = .ok (.iconst 1, 1) := by decide +kernel
theorem dL_glossAt_14 : decode cL_glossAt 14 = .ok (.ireturn, 1) := by decide +kernel
theorem dL_glossAt_15 : decode cL_glossAt 15 = .ok (.iconst 0, 1) := by decide +kernel
theorem dL_glossAt_16 : decode cL_glossAt 16 = .ok (.ireturn, 1) := by decide +kernel
theorem dL_placesAt_0 : decode cL_placesAt 0 = .ok (.aload_n 2, 1) := by decide +kernel
theorem dL_placesAt_1 : decode cL_placesAt 1 = .ok (.iconst 0, 1) := by decide +kernel
theorem dL_placesAt_2 : decode cL_placesAt 2 = .ok (.aload_n 0, 1) := by decide +kernel
theorem dL_placesAt_3 : decode cL_placesAt 3 = .ok (.iload_n 1, 1) := by decide +kernel
theorem dL_placesAt_4 : decode cL_placesAt 4 = .ok (.invokevirtual 51, 3) := by decide +kernel
theorem dL_placesAt_7 : decode cL_placesAt 7 = .ok (.i2l, 1) := by decide +kernel
theorem dL_placesAt_8 : decode cL_placesAt 8 = .ok (.lastore, 1) := by decide +kernel
theorem dL_placesAt_9 : decode cL_placesAt 9 = .ok (.goto 6, 3) := by decide +kernel
theorem dL_placesAt_12 : decode cL_placesAt 12 = .ok (.astore_n 3, 1) := by decide +kernel
theorem dL_placesAt_13 : decode cL_placesAt 13 = .ok (.iconst 1, 1) := by decide +kernel
theorem dL_placesAt_14 : decode cL_placesAt 14 = .ok (.ireturn, 1) := by decide +kernel
theorem dL_placesAt_15 : decode cL_placesAt 15 = .ok (.iconst 0, 1) := by decide +kernel
theorem dL_placesAt_16 : decode cL_placesAt 16 = .ok (.ireturn, 1) := by decide +kernel
theorem dL_newEntries_0 : decode cL_newEntries 0 = .ok (.aload_n 2, 1) := by decide +kernel
theorem dL_newEntries_1 : decode cL_newEntries 1 = .ok (.iconst 0, 1) := by decide +kernel
theorem dL_newEntries_2 : decode cL_newEntries 2 = .ok (.aload_n 0, 1) := by decide +kernel
theorem dL_newEntries_3 : decode cL_newEntries 3 = .ok (.iload_n 1, 1) := by decide +kernel
theorem dL_newEntries_4 : decode cL_newEntries 4 = .ok (.invokevirtual 54, 3) := by decide +kernel
theorem dL_newEntries_7 : decode cL_newEntries 7 = .ok (.i2l, 1) := by decide +kernel
theorem dL_newEntries_8 : decode cL_newEntries 8 = .ok (.lastore, 1) := by decide +kernel
theorem dL_newEntries_9 : decode cL_newEntries 9 = .ok (.goto 6, 3) := by decide +kernel
theorem dL_newEntries_12 : decode cL_newEntries 12 = .ok (.astore_n 3, 1) := by decide +kernel
theorem dL_newEntries_13 : decode cL_newEntries 13 = .ok (.iconst 1, 1) := by decide +kernel
theorem dL_newEntries_14 : decode cL_newEntries 14 = .ok (.ireturn, 1) := by decide +kernel
theorem dL_newEntries_15 : decode cL_newEntries 15 = .ok (.iconst 0, 1) := by decide +kernel
theorem dL_newEntries_16 : decode cL_newEntries 16 = .ok (.ireturn, 1) := by decide +kernel
theorem dL_learn_0 : decode cL_learn 0 = .ok (.aload_n 3, 1) := by decide +kernel
theorem dL_learn_1 : decode cL_learn 1 = .ok (.iconst 0, 1) := by decide +kernel
theorem dL_learn_2 : decode cL_learn 2 = .ok (.aload_n 0, 1) := by decide +kernel
theorem dL_learn_3 : decode cL_learn 3 = .ok (.iload_n 1, 1) := by decide +kernel
theorem dL_learn_4 : decode cL_learn 4 = .ok (.iload_n 2, 1) := by decide +kernel
theorem dL_learn_5 : decode cL_learn 5 = .ok (.invokevirtual 57, 3) := by decide +kernel
theorem dL_learn_8 : decode cL_learn 8 = .ok (.i2l, 1) := by decide +kernel
theorem dL_learn_9 : decode cL_learn 9 = .ok (.lastore, 1) := by decide +kernel
theorem dL_learn_10 : decode cL_learn 10 = .ok (.goto 15, 3) := by decide +kernel
theorem dL_learn_13 : decode cL_learn 13 = .ok (.astore 4, 2) := by decide +kernel
theorem dL_learn_15 : decode cL_learn 15 = .ok (.iconst 1, 1) := by decide +kernel
theorem dL_learn_16 : decode cL_learn 16 = .ok (.ireturn, 1) := by decide +kernel
theorem dL_learn_17 : decode cL_learn 17 = .ok (.astore 4, 2) := by decide +kernel
theorem dL_learn_19 : decode cL_learn 19 = .ok (.iconst 2, 1) := by decide +kernel
theorem dL_learn_20 : decode cL_learn 20 = .ok (.ireturn, 1) := by decide +kernel
theorem dL_learn_21 : decode cL_learn 21 = .ok (.astore 4, 2) := by decide +kernel
theorem dL_learn_23 : decode cL_learn 23 = .ok (.iconst 3, 1) := by decide +kernel
theorem dL_learn_24 : decode cL_learn 24 = .ok (.ireturn, 1) := by decide +kernel
theorem dL_learn_25 : decode cL_learn 25 = .ok (.iconst 0, 1) := by decide +kernel
theorem dL_learn_26 : decode cL_learn 26 = .ok (.ireturn, 1) := by decide +kernel
theorem dL_review_0 : decode cL_review 0 = .ok (.aload 4, 2) := by decide +kernel
theorem dL_review_2 : decode cL_review 2 = .ok (.iconst 0, 1) := by decide +kernel
theorem dL_review_3 : decode cL_review 3 = .ok (.aload_n 0, 1) := by decide +kernel
theorem dL_review_4 : decode cL_review 4 = .ok (.iload_n 1, 1) := by decide +kernel
theorem dL_review_5 : decode cL_review 5 = .ok (.iload_n 2, 1) := by decide +kernel
theorem dL_review_6 : decode cL_review 6 = .ok (.iload_n 3, 1) := by decide +kernel
theorem dL_review_7 : decode cL_review 7 = .ok (.invokevirtual 60, 3) := by decide +kernel
theorem dL_review_10 : decode cL_review 10 = .ok (.i2l, 1) := by decide +kernel
theorem dL_review_11 : decode cL_review 11 = .ok (.lastore, 1) := by decide +kernel
theorem dL_review_12 : decode cL_review 12 = .ok (.goto 15, 3) := by decide +kernel
theorem dL_review_15 : decode cL_review 15 = .ok (.astore 5, 2) := by decide +kernel
theorem dL_review_17 : decode cL_review 17 = .ok (.iconst 1, 1) := by decide +kernel
theorem dL_review_18 : decode cL_review 18 = .ok (.ireturn, 1) := by decide +kernel
theorem dL_review_19 : decode cL_review 19 = .ok (.astore 5, 2) := by decide +kernel
theorem dL_review_21 : decode cL_review 21 = .ok (.iconst 2, 1) := by decide +kernel
theorem dL_review_22 : decode cL_review 22 = .ok (.ireturn, 1) := by decide +kernel
theorem dL_review_23 : decode cL_review 23 = .ok (.astore 5, 2) := by decide +kernel
theorem dL_review_25 : decode cL_review 25 = .ok (.iconst 3, 1) := by decide +kernel
theorem dL_review_26 : decode cL_review 26 = .ok (.ireturn, 1) := by decide +kernel
theorem dL_review_27 : decode cL_review 27 = .ok (.iconst 0, 1) := by decide +kernel
theorem dL_review_28 : decode cL_review 28 = .ok (.ireturn, 1) := by decide +kernel
theorem dL_knows_0 : decode cL_knows 0 = .ok (.aload_n 3, 1) := by decide +kernel
theorem dL_knows_1 : decode cL_knows 1 = .ok (.iconst 0, 1) := by decide +kernel
theorem dL_knows_2 : decode cL_knows 2 = .ok (.aload_n 0, 1) := by decide +kernel
theorem dL_knows_3 : decode cL_knows 3 = .ok (.iload_n 1, 1) := by decide +kernel
theorem dL_knows_4 : decode cL_knows 4 = .ok (.iload_n 2, 1) := by decide +kernel
theorem dL_knows_5 : decode cL_knows 5 = .ok (.invokevirtual 64, 3) := by decide +kernel
theorem dL_knows_8 : decode cL_knows 8 = .ok (.ifCond .eq 7, 3) := by decide +kernel
theorem dL_knows_11 : decode cL_knows 11 = .ok (.lconst 1, 1) := by decide +kernel
theorem dL_knows_12 : decode cL_knows 12 = .ok (.goto 4, 3) := by decide +kernel
theorem dL_knows_15 : decode cL_knows 15 = .ok (.lconst 0, 1) := by decide +kernel
theorem dL_knows_16 : decode cL_knows 16 = .ok (.lastore, 1) := by decide +kernel
theorem dL_knows_17 : decode cL_knows 17 = .ok (.goto 11, 3) := by decide +kernel
theorem dL_knows_20 : decode cL_knows 20 = .ok (.astore 4, 2) := by decide +kernel
theorem dL_knows_22 : decode cL_knows 22 = .ok (.iconst 1, 1) := by decide +kernel
theorem dL_knows_23 : decode cL_knows 23 = .ok (.ireturn, 1) := by decide +kernel
theorem dL_knows_24 : decode cL_knows 24 = .ok (.astore 4, 2) := by decide +kernel
theorem dL_knows_26 : decode cL_knows 26 = .ok (.iconst 2, 1) := by decide +kernel
theorem dL_knows_27 : decode cL_knows 27 = .ok (.ireturn, 1) := by decide +kernel
theorem dL_knows_28 : decode cL_knows 28 = .ok (.iconst 0, 1) := by decide +kernel
theorem dL_knows_29 : decode cL_knows 29 = .ok (.ireturn, 1) := by decide +kernel
theorem dL_due_0 : decode cL_due 0 = .ok (.aload_n 2, 1) := by decide +kernel
theorem dL_due_1 : decode cL_due 1 = .ok (.iconst 0, 1) := by decide +kernel
theorem dL_due_2 : decode cL_due 2 = .ok (.aload_n 0, 1) := by decide +kernel
theorem dL_due_3 : decode cL_due 3 = .ok (.iload_n 1, 1) := by decide +kernel
theorem dL_due_4 : decode cL_due 4 = .ok (.invokevirtual 67, 3) := by decide +kernel
theorem dL_due_7 : decode cL_due 7 = .ok (.i2l, 1) := by decide +kernel
theorem dL_due_8 : decode cL_due 8 = .ok (.lastore, 1) := by decide +kernel
theorem dL_due_9 : decode cL_due 9 = .ok (.goto 6, 3) := by decide +kernel
theorem dL_due_12 : decode cL_due 12 = .ok (.astore_n 3, 1) := by decide +kernel
theorem dL_due_13 : decode cL_due 13 = .ok (.iconst 1, 1) := by decide +kernel
theorem dL_due_14 : decode cL_due 14 = .ok (.ireturn, 1) := by decide +kernel
theorem dL_due_15 : decode cL_due 15 = .ok (.iconst 0, 1) := by decide +kernel
theorem dL_due_16 : decode cL_due 16 = .ok (.ireturn, 1) := by decide +kernel
theorem dL_nextDue_0 : decode cL_nextDue 0 = .ok (.aload_n 2, 1) := by decide +kernel
theorem dL_nextDue_1 : decode cL_nextDue 1 = .ok (.iconst 0, 1) := by decide +kernel
theorem dL_nextDue_2 : decode cL_nextDue 2 = .ok (.aload_n 0, 1) := by decide +kernel
theorem dL_nextDue_3 : decode cL_nextDue 3 = .ok (.iload_n 1, 1) := by decide +kernel
theorem dL_nextDue_4 : decode cL_nextDue 4 = .ok (.invokevirtual 70, 3) := by decide +kernel
theorem dL_nextDue_7 : decode cL_nextDue 7 = .ok (.i2l, 1) := by decide +kernel
theorem dL_nextDue_8 : decode cL_nextDue 8 = .ok (.lastore, 1) := by decide +kernel
theorem dL_nextDue_9 : decode cL_nextDue 9 = .ok (.goto 6, 3) := by decide +kernel
theorem dL_nextDue_12 : decode cL_nextDue 12 = .ok (.astore_n 3, 1) := by decide +kernel
theorem dL_nextDue_13 : decode cL_nextDue 13 = .ok (.iconst 1, 1) := by decide +kernel
theorem dL_nextDue_14 : decode cL_nextDue 14 = .ok (.ireturn, 1) := by decide +kernel
theorem dL_nextDue_15 : decode cL_nextDue 15 = .ok (.iconst 0, 1) := by decide +kernel
theorem dL_nextDue_16 : decode cL_nextDue 16 = .ok (.ireturn, 1) := by decide +kernel
theorem dL_pass_0 : decode cL_pass 0 = .ok (.aload_n 2, 1) := by decide +kernel
theorem dL_pass_1 : decode cL_pass 1 = .ok (.iconst 0, 1) := by decide +kernel
theorem dL_pass_2 : decode cL_pass 2 = .ok (.aload_n 0, 1) := by decide +kernel
theorem dL_pass_3 : decode cL_pass 3 = .ok (.iload_n 1, 1) := by decide +kernel
theorem dL_pass_4 : decode cL_pass 4 = .ok (.invokevirtual 73, 3) := by decide +kernel
theorem dL_pass_7 : decode cL_pass 7 = .ok (.i2l, 1) := by decide +kernel
theorem dL_pass_8 : decode cL_pass 8 = .ok (.lastore, 1) := by decide +kernel
theorem dL_pass_9 : decode cL_pass 9 = .ok (.goto 6, 3) := by decide +kernel
theorem dL_pass_12 : decode cL_pass 12 = .ok (.astore_n 3, 1) := by decide +kernel
theorem dL_pass_13 : decode cL_pass 13 = .ok (.iconst 1, 1) := by decide +kernel
theorem dL_pass_14 : decode cL_pass 14 = .ok (.ireturn, 1) := by decide +kernel
theorem dL_pass_15 : decode cL_pass 15 = .ok (.iconst 0, 1) := by decide +kernel
theorem dL_pass_16 : decode cL_pass 16 = .ok (.ireturn, 1) := by decide +kernel
end
section
/-! ===== the words that stay: every word of the tables that holds at any later state ===== -/
def enX : Cond → Bool
  | .methodLinkNest .. | .fieldLinkNest .. | .declares _ | .castable .. => true
  | _ => false
def enW (w : Cond) : Bool := goodWord w || enX w
theorem enW_warm {w : Cond} {s U : State} {a a' : Array Value} (h : enW w = true) (hW : s.WarmedH U.vm) (hb : w.before a s = true) : w.before a' U = true := by
  rcases (Bool.or_eq_true _ _).mp h with g | g
  · exact word_at hW (good_of_word g) hb
  · cases w <;> first
      | exact (Bool.false_ne_true g).elim
      | exact va_Nw.use rfl (va_Nw.warmM hW (va_Nw.of rfl hb))
      | exact va_Nw.use rfl (va_Nw.warmF hW (va_Nw.of rfl hb))
      | exact va_Nw.use rfl (va_Nw.warmD hW (va_Nw.of rfl hb))
      | exact va_Nw.use rfl (va_Nw.warmC hW (va_Nw.of rfl hb))
def T1 : List Cond := lw_tbl.filter enW
theorem wdT {w : Cond} (k : Nat) (h : lw_tbl[k]? = some w) (he : enW w = true) : w ∈ T1 := List.mem_filter.mpr ⟨List.mem_of_getElem? h, he⟩
theorem wdL {ws : List Cond} (ps : List Nat) (hp : ws = ps.filterMap (fun i => lw_tbl[i]?)) (he : ws.all enW = true) : ∀ w ∈ ws, w ∈ T1 := by
  intro w hw
  have h1 := List.all_eq_true.mp he w hw
  rw [hp] at hw
  obtain ⟨i, -, hi⟩ := List.mem_filterMap.mp hw
  exact wdT i hi h1
def EN (U : State) : Prop := ∀ w ∈ T1, ∀ a : Array Value, w.before a U = true
theorem EN.warm {s U : State} (hW : s.WarmedH U.vm) (h : EN s) : EN U := fun w hw a => enW_warm (List.mem_filter.mp hw).2 hW (h w hw #[])
theorem EN.of {a : Array Value} {s : State} (h : ∀ w ∈ lw_tbl, w.before a s = true) : EN s := fun w hw _ => enW_warm (List.mem_filter.mp hw).2 (State.WarmedH.refl s) (h w (List.mem_filter.mp hw).1)
def ES (L : List (String × Nat × String)) (U : State) : Prop := ∀ q ∈ L, ∃ a : Nat, vk_R q.1 q.2.1 q.2.2 a U
theorem ES.warm {L : List (String × Nat × String)} {s U : State} (hW : s.WarmedH U.vm) (h : ES L s) : ES L U := fun q hq => (h q hq).elim fun a ha => ⟨a, vk_R.warm hW ha⟩
def NC (L : List (String × String)) (U : State) : Prop := ∀ q ∈ L, va_Nc q.1 q.2 U
theorem NC.warm {L : List (String × String)} {s U : State} (hW : s.WarmedH U.vm) (h : NC L s) : NC L U := fun q hq => (h q hq).moved hW.alike
abbrev KK : Type := va_G × (Nat → ClassId)
abbrev tysK (κ : KK) : List (ClassId × FieldType) := [(κ.2 0, .int), (κ.2 1, .boolean), (κ.2 2, .object RX2), (κ.2 3, .array .int), (κ.2 4, .long)]
def EV (κ : KK) (U : State) : Prop := va_K κ.1 vwCl (tysK κ) U ∧ EN U
theorem EV.warm {κ : KK} {s U : State} (hW : s.WarmedH U.vm) (h : EV κ s) : EV κ U := ⟨va_K.moved hW.alike h.1, h.2.warm hW⟩
/-! ===== a method's body: its fixed facts, and its goal with the world, the locals and the stack in sight ===== -/
def Cx (p : Program) (s : State) (m : MethodId) (meth : Method) (c : Code) (κ : KK) (own : String) (cc : ByteArray) (nL : Nat) (ret : Option FieldType) : Prop :=
  p.tables.exec = Jvm.exec ∧ c.code = cc ∧ c.maxLocals = nL ∧ meth.sig.returnType = ret ∧ meth.locks = false ∧ s.vm.findClass own = some m.cls ∧ EV κ s
abbrev JJ : Type := va_W → Heap → List Loc → Prop
def JP (s : State) : JJ := fun _ H locs => H = s.heap ∧ locs = []
def JM (A : Nat → Prop) (s : State) : JJ := fun ws H locs => va_D A ws ∧ va_S A s.heap H locs
def G (p : Program) (l : Launch) (e : Env) (R : Room) (s : State) (m : MethodId) (args : Array Value) (below : List Frame) (meth : Method) (c : Code) (κ : KK) (nL : Nat) (J : JJ) (ws : va_W) (k n : Nat) (Q : State → Prop) (pc : Nat) (lv : List (Nat × Value)) (st : List Value) : Prop :=
  ∀ (H : Heap) (locs : List Loc) (ls : Array Slot), va_P κ.1 vwCl ws H → J ws H locs → lv_has ls nL lv → W p l e R s m args below meth c H locs k n Q (F0 m pc ls st)
def b2i (b : Bool) : Int32 := if b then 1 else 0
theorem b2i_t : b2i true = 1 := rfl
theorem b2i_f : b2i false = 0 := rfl
theorem nIl (n : Nat) : nI n = Int32.ofNat n := rfl
section GR
variable {p : Program} {l : Launch} {e : Env} {R : Room} {s : State} {m : MethodId} {args : Array Value} {below : List Frame} {meth : Method} {c : Code} {κ : KK} {own : String} {cc : ByteArray} {nL : Nat} {ret : Option FieldType}
variable {J : JJ} {ws : va_W} {k n : Nat} {Q : State → Prop} {pc pc' : Nat} {lv : List (Nat × Value)} {st : List Value}
theorem g_iconst (C : Cx p s m meth c κ own cc nL ret) {i : Int} {v : Int32} (hd : decode cc pc = .ok (.iconst i, 1)) (hv : Int32.ofInt i = v) (hp : pc + 1 = pc') (K : G p l e R s m args below meth c κ nL J ws k n Q pc' lv (.int v :: st)) : G p l e R s m args below meth c κ nL J ws k n Q pc lv st := by
  subst hp; exact fun H locs ls hP hJ hl => lv_iconst C.1 C.2.1 hd hv (K H locs ls hP hJ hl)
theorem g_bipush (C : Cx p s m meth c κ own cc nL ret) {i : Int} {v : Int32} (hd : decode cc pc = .ok (.bipush i, 2)) (hv : (Int8.ofInt i).toInt32 = v) (hp : pc + 2 = pc') (K : G p l e R s m args below meth c κ nL J ws k n Q pc' lv (.int v :: st)) : G p l e R s m args below meth c κ nL J ws k n Q pc lv st := by
  subst hp; exact fun H locs ls hP hJ hl => lv_bipush C.1 C.2.1 hd hv (K H locs ls hP hJ hl)
theorem g_sipush (C : Cx p s m meth c κ own cc nL ret) {i : Int} {v : Int32} (hd : decode cc pc = .ok (.sipush i, 3)) (hv : (Int16.ofInt i).toInt32 = v) (hp : pc + 3 = pc') (K : G p l e R s m args below meth c κ nL J ws k n Q pc' lv (.int v :: st)) : G p l e R s m args below meth c κ nL J ws k n Q pc lv st := by
  subst hp; exact fun H locs ls hP hJ hl => lv_sipush C.1 C.2.1 hd hv (K H locs ls hP hJ hl)
theorem g_lconst (C : Cx p s m meth c κ own cc nL ret) {i : Fin 2} {v : Int64} (hd : decode cc pc = .ok (.lconst i, 1)) (hv : Int64.ofNat (i : Nat) = v) (hp : pc + 1 = pc') (K : G p l e R s m args below meth c κ nL J ws k n Q pc' lv (.long v :: st)) : G p l e R s m args below meth c κ nL J ws k n Q pc lv st := by
  subst hp; exact fun H locs ls hP hJ hl => lv_lconst C.1 C.2.1 hd hv (K H locs ls hP hJ hl)
theorem g_ldcw (C : Cx p s m meth c κ own cc nL ret) {i : Nat} {v : Int32} (hw : Cond.constant own i v ∈ T1) (hd : decode cc pc = .ok (.ldc_w i, 3)) (hp : pc + 3 = pc') (K : G p l e R s m args below meth c κ nL J ws k n Q pc' lv (.int v :: st)) : G p l e R s m args below meth c κ nL J ws k n Q pc lv st := by
  subst hp; exact fun H locs ls hP hJ hl => lv_ldcw C.1 C.2.1 C.2.2.2.2.2.1 (C.2.2.2.2.2.2.2 _ hw args) hd (K H locs ls hP hJ hl)
theorem g_iload_n (C : Cx p s m meth c κ own cc nL ret) (j : Nat) {f : Fin 4} {i : Nat} {x : Int32} (hd : decode cc pc = .ok (.iload_n f, 1)) (hi : (f : Nat) = i) (hl0 : lv[j]? = some (i, .int x)) (hp : pc + 1 = pc') (K : G p l e R s m args below meth c κ nL J ws k n Q pc' lv (.int x :: st)) : G p l e R s m args below meth c κ nL J ws k n Q pc lv st := by
  subst hp; exact fun H locs ls hP hJ hl => lv_iload_n C.1 C.2.1 hd hi (lv_at hl j hl0) (K H locs ls hP hJ hl)
theorem g_iload (C : Cx p s m meth c κ own cc nL ret) (j : Nat) {i : Nat} {x : Int32} (hd : decode cc pc = .ok (.iload i, 2)) (hl0 : lv[j]? = some (i, .int x)) (hp : pc + 2 = pc') (K : G p l e R s m args below meth c κ nL J ws k n Q pc' lv (.int x :: st)) : G p l e R s m args below meth c κ nL J ws k n Q pc lv st := by
  subst hp; exact fun H locs ls hP hJ hl => lv_iload C.1 C.2.1 hd (lv_at hl j hl0) (K H locs ls hP hJ hl)
theorem g_aload_n (C : Cx p s m meth c κ own cc nL ret) (j : Nat) {f : Fin 4} {i : Nat} {x : Nat} (hd : decode cc pc = .ok (.aload_n f, 1)) (hi : (f : Nat) = i) (hl0 : lv[j]? = some (i, .ref x)) (hp : pc + 1 = pc') (K : G p l e R s m args below meth c κ nL J ws k n Q pc' lv (.ref x :: st)) : G p l e R s m args below meth c κ nL J ws k n Q pc lv st := by
  subst hp; exact fun H locs ls hP hJ hl => lv_aload_n C.1 C.2.1 hd hi (lv_at hl j hl0) (K H locs ls hP hJ hl)
theorem g_aload (C : Cx p s m meth c κ own cc nL ret) (j : Nat) {i : Nat} {x : Nat} (hd : decode cc pc = .ok (.aload i, 2)) (hl0 : lv[j]? = some (i, .ref x)) (hp : pc + 2 = pc') (K : G p l e R s m args below meth c κ nL J ws k n Q pc' lv (.ref x :: st)) : G p l e R s m args below meth c κ nL J ws k n Q pc lv st := by
  subst hp; exact fun H locs ls hP hJ hl => lv_aload C.1 C.2.1 hd (lv_at hl j hl0) (K H locs ls hP hJ hl)
theorem g_aload_nN (C : Cx p s m meth c κ own cc nL ret) (j : Nat) {f : Fin 4} {i : Nat} (hd : decode cc pc = .ok (.aload_n f, 1)) (hi : (f : Nat) = i) (hl0 : lv[j]? = some (i, .null)) (hp : pc + 1 = pc') (K : G p l e R s m args below meth c κ nL J ws k n Q pc' lv (.null :: st)) : G p l e R s m args below meth c κ nL J ws k n Q pc lv st := by
  subst hp; exact fun H locs ls hP hJ hl => lv_aload_nN C.1 C.2.1 hd hi (lv_at hl j hl0) (K H locs ls hP hJ hl)
theorem g_aloadN (C : Cx p s m meth c κ own cc nL ret) (j : Nat) {i : Nat} (hd : decode cc pc = .ok (.aload i, 2)) (hl0 : lv[j]? = some (i, .null)) (hp : pc + 2 = pc') (K : G p l e R s m args below meth c κ nL J ws k n Q pc' lv (.null :: st)) : G p l e R s m args below meth c κ nL J ws k n Q pc lv st := by
  subst hp; exact fun H locs ls hP hJ hl => lv_aloadN C.1 C.2.1 hd (lv_at hl j hl0) (K H locs ls hP hJ hl)
theorem g_istore_n (C : Cx p s m meth c κ own cc nL ret) {f : Fin 4} {i : Nat} {x : Int32} {lv' : List (Nat × Value)} (hd : decode cc pc = .ok (.istore_n f, 1)) (hi : (f : Nat) = i) (hn : i < nL) (hl0 : (i, Value.int x) :: lv.filter (fun q => !(q.1 == i) && !(q.1 + 1 == i && q.2.category == 2)) = lv') (hp : pc + 1 = pc') (K : G p l e R s m args below meth c κ nL J ws k n Q pc' lv' st) : G p l e R s m args below meth c κ nL J ws k n Q pc lv (.int x :: st) := by
  subst hp; exact fun H locs ls hP hJ hl => lv_istore_n C.1 C.2.1 hd hi hl hn hl0 (fun ls hl => K H locs ls hP hJ hl)
theorem g_istore (C : Cx p s m meth c κ own cc nL ret) {i : Nat} {x : Int32} {lv' : List (Nat × Value)} (hd : decode cc pc = .ok (.istore i, 2)) (hn : i < nL) (hl0 : (i, Value.int x) :: lv.filter (fun q => !(q.1 == i) && !(q.1 + 1 == i && q.2.category == 2)) = lv') (hp : pc + 2 = pc') (K : G p l e R s m args below meth c κ nL J ws k n Q pc' lv' st) : G p l e R s m args below meth c κ nL J ws k n Q pc lv (.int x :: st) := by
  subst hp; exact fun H locs ls hP hJ hl => lv_istore C.1 C.2.1 hd hl hn hl0 (fun ls hl => K H locs ls hP hJ hl)
theorem g_astore_n (C : Cx p s m meth c κ own cc nL ret) {f : Fin 4} {i : Nat} {x : Nat} {lv' : List (Nat × Value)} (hd : decode cc pc = .ok (.astore_n f, 1)) (hi : (f : Nat) = i) (hn : i < nL) (hl0 : (i, Value.ref x) :: lv.filter (fun q => !(q.1 == i) && !(q.1 + 1 == i && q.2.category == 2)) = lv') (hp : pc + 1 = pc') (K : G p l e R s m args below meth c κ nL J ws k n Q pc' lv' st) : G p l e R s m args below meth c κ nL J ws k n Q pc lv (.ref x :: st) := by
  subst hp; exact fun H locs ls hP hJ hl => lv_astore_n C.1 C.2.1 hd hi hl hn hl0 (fun ls hl => K H locs ls hP hJ hl)
theorem g_astore (C : Cx p s m meth c κ own cc nL ret) {i : Nat} {x : Nat} {lv' : List (Nat × Value)} (hd : decode cc pc = .ok (.astore i, 2)) (hn : i < nL) (hl0 : (i, Value.ref x) :: lv.filter (fun q => !(q.1 == i) && !(q.1 + 1 == i && q.2.category == 2)) = lv') (hp : pc + 2 = pc') (K : G p l e R s m args below meth c κ nL J ws k n Q pc' lv' st) : G p l e R s m args below meth c κ nL J ws k n Q pc lv (.ref x :: st) := by
  subst hp; exact fun H locs ls hP hJ hl => lv_astore C.1 C.2.1 hd hl hn hl0 (fun ls hl => K H locs ls hP hJ hl)
theorem g_astore_nN (C : Cx p s m meth c κ own cc nL ret) {f : Fin 4} {i : Nat} {lv' : List (Nat × Value)} (hd : decode cc pc = .ok (.astore_n f, 1)) (hi : (f : Nat) = i) (hn : i < nL) (hl0 : (i, Value.null) :: lv.filter (fun q => !(q.1 == i) && !(q.1 + 1 == i && q.2.category == 2)) = lv') (hp : pc + 1 = pc') (K : G p l e R s m args below meth c κ nL J ws k n Q pc' lv' st) : G p l e R s m args below meth c κ nL J ws k n Q pc lv (.null :: st) := by
  subst hp; exact fun H locs ls hP hJ hl => lv_astore_nN C.1 C.2.1 hd hi hl hn hl0 (fun ls hl => K H locs ls hP hJ hl)
theorem g_astoreN (C : Cx p s m meth c κ own cc nL ret) {i : Nat} {lv' : List (Nat × Value)} (hd : decode cc pc = .ok (.astore i, 2)) (hn : i < nL) (hl0 : (i, Value.null) :: lv.filter (fun q => !(q.1 == i) && !(q.1 + 1 == i && q.2.category == 2)) = lv') (hp : pc + 2 = pc') (K : G p l e R s m args below meth c κ nL J ws k n Q pc' lv' st) : G p l e R s m args below meth c κ nL J ws k n Q pc lv (.null :: st) := by
  subst hp; exact fun H locs ls hP hJ hl => lv_astoreN C.1 C.2.1 hd hl hn hl0 (fun ls hl => K H locs ls hP hJ hl)
theorem g_iinc (C : Cx p s m meth c κ own cc nL ret) (j : Nat) {i : Nat} {d : Int} {x v : Int32} {lv' : List (Nat × Value)} (hd : decode cc pc = .ok (.iinc i d, 3)) (hk : lv[j]? = some (i, .int x)) (hv : x + Int32.ofInt d = v) (hn : i < nL) (hl0 : (i, Value.int v) :: lv.filter (fun q => !(q.1 == i) && !(q.1 + 1 == i && q.2.category == 2)) = lv') (hp : pc + 3 = pc') (K : G p l e R s m args below meth c κ nL J ws k n Q pc' lv' st) : G p l e R s m args below meth c κ nL J ws k n Q pc lv st := by
  subst hp; exact fun H locs ls hP hJ hl => lv_iinc C.1 C.2.1 hd hl hk hv hn hl0 (fun ls hl => K H locs ls hP hJ hl)
theorem g_iadd (C : Cx p s m meth c κ own cc nL ret) {x y v : Int32} (hd : decode cc pc = .ok (.iadd, 1)) (hv : x + y = v) (hp : pc + 1 = pc') (K : G p l e R s m args below meth c κ nL J ws k n Q pc' lv (.int v :: st)) : G p l e R s m args below meth c κ nL J ws k n Q pc lv (.int y :: .int x :: st) := by
  subst hp; subst hv; exact fun H locs ls hP hJ hl => lv_iadd C.1 C.2.1 hd (K H locs ls hP hJ hl)
theorem g_isub (C : Cx p s m meth c κ own cc nL ret) {x y v : Int32} (hd : decode cc pc = .ok (.isub, 1)) (hv : x - y = v) (hp : pc + 1 = pc') (K : G p l e R s m args below meth c κ nL J ws k n Q pc' lv (.int v :: st)) : G p l e R s m args below meth c κ nL J ws k n Q pc lv (.int y :: .int x :: st) := by
  subst hp; subst hv; exact fun H locs ls hP hJ hl => lv_isub C.1 C.2.1 hd (K H locs ls hP hJ hl)
theorem g_imul (C : Cx p s m meth c κ own cc nL ret) {x y v : Int32} (hd : decode cc pc = .ok (.imul, 1)) (hv : x * y = v) (hp : pc + 1 = pc') (K : G p l e R s m args below meth c κ nL J ws k n Q pc' lv (.int v :: st)) : G p l e R s m args below meth c κ nL J ws k n Q pc lv (.int y :: .int x :: st) := by
  subst hp; subst hv; exact fun H locs ls hP hJ hl => lv_imul C.1 C.2.1 hd (K H locs ls hP hJ hl)
theorem g_iand (C : Cx p s m meth c κ own cc nL ret) {x y v : Int32} (hd : decode cc pc = .ok (.iand, 1)) (hv : x &&& y = v) (hp : pc + 1 = pc') (K : G p l e R s m args below meth c κ nL J ws k n Q pc' lv (.int v :: st)) : G p l e R s m args below meth c κ nL J ws k n Q pc lv (.int y :: .int x :: st) := by
  subst hp; subst hv; exact fun H locs ls hP hJ hl => lv_iand C.1 C.2.1 hd (K H locs ls hP hJ hl)
theorem g_ior (C : Cx p s m meth c κ own cc nL ret) {x y v : Int32} (hd : decode cc pc = .ok (.ior, 1)) (hv : x ||| y = v) (hp : pc + 1 = pc') (K : G p l e R s m args below meth c κ nL J ws k n Q pc' lv (.int v :: st)) : G p l e R s m args below meth c κ nL J ws k n Q pc lv (.int y :: .int x :: st) := by
  subst hp; subst hv; exact fun H locs ls hP hJ hl => lv_ior C.1 C.2.1 hd (K H locs ls hP hJ hl)
theorem g_ixor (C : Cx p s m meth c κ own cc nL ret) {x y v : Int32} (hd : decode cc pc = .ok (.ixor, 1)) (hv : x ^^^ y = v) (hp : pc + 1 = pc') (K : G p l e R s m args below meth c κ nL J ws k n Q pc' lv (.int v :: st)) : G p l e R s m args below meth c κ nL J ws k n Q pc lv (.int y :: .int x :: st) := by
  subst hp; subst hv; exact fun H locs ls hP hJ hl => lv_ixor C.1 C.2.1 hd (K H locs ls hP hJ hl)
theorem g_irem (C : Cx p s m meth c κ own cc nL ret) {x y v : Int32} (hd : decode cc pc = .ok (.irem, 1)) (hne : ¬ y = 0) (hv : x - x / y * y = v) (hp : pc + 1 = pc') (K : G p l e R s m args below meth c κ nL J ws k n Q pc' lv (.int v :: st)) : G p l e R s m args below meth c κ nL J ws k n Q pc lv (.int y :: .int x :: st) := by
  subst hp; subst hv; exact fun H locs ls hP hJ hl => lv_irem C.1 C.2.1 hd hne (K H locs ls hP hJ hl)
theorem g_ishl (C : Cx p s m meth c κ own cc nL ret) {x y v : Int32} (hd : decode cc pc = .ok (.ishl, 1)) (hv : x <<< (y &&& 31) = v) (hp : pc + 1 = pc') (K : G p l e R s m args below meth c κ nL J ws k n Q pc' lv (.int v :: st)) : G p l e R s m args below meth c κ nL J ws k n Q pc lv (.int y :: .int x :: st) := by
  subst hp; subst hv; exact fun H locs ls hP hJ hl => lv_ishl C.1 C.2.1 hd (K H locs ls hP hJ hl)
theorem g_ishr (C : Cx p s m meth c κ own cc nL ret) {x y v : Int32} (hd : decode cc pc = .ok (.ishr, 1)) (hv : x >>> (y &&& 31) = v) (hp : pc + 1 = pc') (K : G p l e R s m args below meth c κ nL J ws k n Q pc' lv (.int v :: st)) : G p l e R s m args below meth c κ nL J ws k n Q pc lv (.int y :: .int x :: st) := by
  subst hp; subst hv; exact fun H locs ls hP hJ hl => lv_ishr C.1 C.2.1 hd (K H locs ls hP hJ hl)
theorem g_iushr (C : Cx p s m meth c κ own cc nL ret) {x y v : Int32} (hd : decode cc pc = .ok (.iushr, 1)) (hv : (x.toUInt32 >>> (y.toUInt32 &&& Int32.toUInt32 31)).toInt32 = v) (hp : pc + 1 = pc') (K : G p l e R s m args below meth c κ nL J ws k n Q pc' lv (.int v :: st)) : G p l e R s m args below meth c κ nL J ws k n Q pc lv (.int y :: .int x :: st) := by
  subst hp; exact fun H locs ls hP hJ hl => lv_iushr C.1 C.2.1 hd hv (K H locs ls hP hJ hl)
theorem g_i2l (C : Cx p s m meth c κ own cc nL ret) {x : Int32} {v : Int64} (hd : decode cc pc = .ok (.i2l, 1)) (hv : x.toInt64 = v) (hp : pc + 1 = pc') (K : G p l e R s m args below meth c κ nL J ws k n Q pc' lv (.long v :: st)) : G p l e R s m args below meth c κ nL J ws k n Q pc lv (.int x :: st) := by
  subst hp; exact fun H locs ls hP hJ hl => lv_i2l C.1 C.2.1 hd hv (K H locs ls hP hJ hl)
theorem g_lcmp (C : Cx p s m meth c κ own cc nL ret) {x y : Int64} (hd : decode cc pc = .ok (.lcmp, 1)) (hp : pc + 1 = pc') (K : G p l e R s m args below meth c κ nL J ws k n Q pc' lv (.int (lg_cmp x y) :: st)) : G p l e R s m args below meth c κ nL J ws k n Q pc lv (.long y :: .long x :: st) := by
  subst hp; exact fun H locs ls hP hJ hl => W.lcmp C.1 C.2.1 hd (K H locs ls hP hJ hl)
theorem g_dup (C : Cx p s m meth c κ own cc nL ret) {v : Value} (hd : decode cc pc = .ok (.dup, 1)) (hc : v.category = 1) (hp : pc + 1 = pc') (K : G p l e R s m args below meth c κ nL J ws k n Q pc' lv (v :: v :: st)) : G p l e R s m args below meth c κ nL J ws k n Q pc lv (v :: st) := by
  subst hp; exact fun H locs ls hP hJ hl => lv_dup C.1 C.2.1 hd hc (K H locs ls hP hJ hl)
theorem g_pop (C : Cx p s m meth c κ own cc nL ret) {v : Value} (hd : decode cc pc = .ok (.pop, 1)) (hc : v.category = 1) (hp : pc + 1 = pc') (K : G p l e R s m args below meth c κ nL J ws k n Q pc' lv st) : G p l e R s m args below meth c κ nL J ws k n Q pc lv (v :: st) := by
  subst hp; exact fun H locs ls hP hJ hl => lv_pop C.1 C.2.1 hd hc (K H locs ls hP hJ hl)
theorem g_goto (C : Cx p s m meth c κ own cc nL ret) {off : Int} {tgt : Nat} (hd : decode cc pc = .ok (.goto off, 3)) (ht : (pc : Int) + off = (tgt : Int)) (K : G p l e R s m args below meth c κ nL J ws k n Q tgt lv st) : G p l e R s m args below meth c κ nL J ws k n Q pc lv st := fun H locs ls hP hJ hl => lv_goto C.1 C.2.1 hd ht (K H locs ls hP hJ hl)
theorem g_null (C : Cx p s m meth c κ own cc nL ret) (hd : decode cc pc = .ok (.aconst_null, 1)) (hp : pc + 1 = pc') (K : G p l e R s m args below meth c κ nL J ws k n Q pc' lv (.null :: st)) : G p l e R s m args below meth c κ nL J ws k n Q pc lv st := by
  subst hp; exact fun H locs ls hP hJ hl => lv_null C.1 C.2.1 hd (K H locs ls hP hJ hl)
theorem g_ifnonnull (C : Cx p s m meth c κ own cc nL ret) {x : Nat} {off : Int} {tgt : Nat} (hd : decode cc pc = .ok (.ifnonnull off, 3)) (ht : (pc : Int) + off = (tgt : Int)) (K : G p l e R s m args below meth c κ nL J ws k n Q tgt lv st) : G p l e R s m args below meth c κ nL J ws k n Q pc lv (.ref x :: st) := fun H locs ls hP hJ hl => lv_ifnonnull C.1 C.2.1 hd ht (K H locs ls hP hJ hl)
theorem g_ifnonnullN (C : Cx p s m meth c κ own cc nL ret) {off : Int} (hd : decode cc pc = .ok (.ifnonnull off, 3)) (hp : pc + 3 = pc') (K : G p l e R s m args below meth c κ nL J ws k n Q pc' lv st) : G p l e R s m args below meth c κ nL J ws k n Q pc lv (.null :: st) := by
  subst hp; exact fun H locs ls hP hJ hl => lv_ifnonnullN C.1 C.2.1 hd (K H locs ls hP hJ hl)
theorem g_ifnull (C : Cx p s m meth c κ own cc nL ret) {x : Nat} {off : Int} (hd : decode cc pc = .ok (.ifnull off, 3)) (hp : pc + 3 = pc') (K : G p l e R s m args below meth c κ nL J ws k n Q pc' lv st) : G p l e R s m args below meth c κ nL J ws k n Q pc lv (.ref x :: st) := by
  subst hp; exact fun H locs ls hP hJ hl => lv_ifnull C.1 C.2.1 hd (K H locs ls hP hJ hl)
theorem g_ifnullN (C : Cx p s m meth c κ own cc nL ret) {off : Int} {tgt : Nat} (hd : decode cc pc = .ok (.ifnull off, 3)) (ht : (pc : Int) + off = (tgt : Int)) (K : G p l e R s m args below meth c κ nL J ws k n Q tgt lv st) : G p l e R s m args below meth c κ nL J ws k n Q pc lv (.null :: st) := fun H locs ls hP hJ hl => lv_ifnullN C.1 C.2.1 hd ht (K H locs ls hP hJ hl)
theorem g_widen {k' n' : Nat} (h1 : k ≤ k') (h2 : n ≤ n') (K : G p l e R s m args below meth c κ nL J ws k' n' Q pc lv st) : G p l e R s m args below meth c κ nL J ws k n Q pc lv st := fun H locs ls hP hJ hl => W.widen h1 h2 (K H locs ls hP hJ hl)
theorem g_lv (ks : List Nat) {lv' : List (Nat × Value)} (h : lv_pick lv ks = lv') (K : G p l e R s m args below meth c κ nL J ws k n Q pc lv' st) : G p l e R s m args below meth c κ nL J ws k n Q pc lv st := fun H locs ls hP hJ hl => K H locs ls hP hJ (lv_sub hl ks h)
theorem g_selM {A : Nat → Prop} (is : List Nat) {ws' : va_W} (hn : va_nd is = true) (h : is.map (fun i => ws[i]?) = ws'.map some) (K : G p l e R s m args below meth c κ nL (JM A s) ws' k n Q pc lv st) : G p l e R s m args below meth c κ nL (JM A s) ws k n Q pc lv st := by
  intro H locs ls hP hJ hl
  refine K H locs ls (hP.sub is ?_) ⟨hJ.1.sub is hn h, hJ.2⟩ hl
  have h2 := congrArg (List.filterMap id) h
  rw [List.filterMap_map, List.filterMap_map] at h2
  simpa using h2
theorem g_if_eq (C : Cx p s m meth c κ own cc nL ret) {x : Int32} {off : Int} {tgt : Nat} (hd : decode cc pc = .ok (.ifCond .eq off, 3)) (ht : (pc : Int) + off = (tgt : Int)) (hp : pc + 3 = pc') (kt : x = 0 → G p l e R s m args below meth c κ nL J ws k n Q tgt lv st) (kf : ¬ x = 0 → G p l e R s m args below meth c κ nL J ws k n Q pc' lv st) : G p l e R s m args below meth c κ nL J ws k n Q pc lv (.int x :: st) := by
  subst hp; exact fun H locs ls hP hJ hl => lv_if_eq C.1 C.2.1 hd ht (fun z => kt z H locs ls hP hJ hl) (fun z => kf z H locs ls hP hJ hl)
theorem g_icmp_eq (C : Cx p s m meth c κ own cc nL ret) {x y : Int32} {off : Int} {tgt : Nat} (hd : decode cc pc = .ok (.if_icmp .eq off, 3)) (ht : (pc : Int) + off = (tgt : Int)) (hp : pc + 3 = pc') (kt : x = y → G p l e R s m args below meth c κ nL J ws k n Q tgt lv st) (kf : ¬ x = y → G p l e R s m args below meth c κ nL J ws k n Q pc' lv st) : G p l e R s m args below meth c κ nL J ws k n Q pc lv (.int y :: .int x :: st) := by
  subst hp; exact fun H locs ls hP hJ hl => lv_icmp_eq C.1 C.2.1 hd ht (fun z => kt z H locs ls hP hJ hl) (fun z => kf z H locs ls hP hJ hl)
theorem g_if_ne (C : Cx p s m meth c κ own cc nL ret) {x : Int32} {off : Int} {tgt : Nat} (hd : decode cc pc = .ok (.ifCond .ne off, 3)) (ht : (pc : Int) + off = (tgt : Int)) (hp : pc + 3 = pc') (kt : ¬ x = 0 → G p l e R s m args below meth c κ nL J ws k n Q tgt lv st) (kf : x = 0 → G p l e R s m args below meth c κ nL J ws k n Q pc' lv st) : G p l e R s m args below meth c κ nL J ws k n Q pc lv (.int x :: st) := by
  subst hp; exact fun H locs ls hP hJ hl => lv_if_ne C.1 C.2.1 hd ht (fun z => kt z H locs ls hP hJ hl) (fun z => kf z H locs ls hP hJ hl)
theorem g_icmp_ne (C : Cx p s m meth c κ own cc nL ret) {x y : Int32} {off : Int} {tgt : Nat} (hd : decode cc pc = .ok (.if_icmp .ne off, 3)) (ht : (pc : Int) + off = (tgt : Int)) (hp : pc + 3 = pc') (kt : ¬ x = y → G p l e R s m args below meth c κ nL J ws k n Q tgt lv st) (kf : x = y → G p l e R s m args below meth c κ nL J ws k n Q pc' lv st) : G p l e R s m args below meth c κ nL J ws k n Q pc lv (.int y :: .int x :: st) := by
  subst hp; exact fun H locs ls hP hJ hl => lv_icmp_ne C.1 C.2.1 hd ht (fun z => kt z H locs ls hP hJ hl) (fun z => kf z H locs ls hP hJ hl)
theorem g_if_lt (C : Cx p s m meth c κ own cc nL ret) {x : Int32} {off : Int} {tgt : Nat} (hd : decode cc pc = .ok (.ifCond .lt off, 3)) (ht : (pc : Int) + off = (tgt : Int)) (hp : pc + 3 = pc') (kt : x < 0 → G p l e R s m args below meth c κ nL J ws k n Q tgt lv st) (kf : ¬ x < 0 → G p l e R s m args below meth c κ nL J ws k n Q pc' lv st) : G p l e R s m args below meth c κ nL J ws k n Q pc lv (.int x :: st) := by
  subst hp; exact fun H locs ls hP hJ hl => lv_if_lt C.1 C.2.1 hd ht (fun z => kt z H locs ls hP hJ hl) (fun z => kf z H locs ls hP hJ hl)
theorem g_icmp_lt (C : Cx p s m meth c κ own cc nL ret) {x y : Int32} {off : Int} {tgt : Nat} (hd : decode cc pc = .ok (.if_icmp .lt off, 3)) (ht : (pc : Int) + off = (tgt : Int)) (hp : pc + 3 = pc') (kt : x < y → G p l e R s m args below meth c κ nL J ws k n Q tgt lv st) (kf : ¬ x < y → G p l e R s m args below meth c κ nL J ws k n Q pc' lv st) : G p l e R s m args below meth c κ nL J ws k n Q pc lv (.int y :: .int x :: st) := by
  subst hp; exact fun H locs ls hP hJ hl => lv_icmp_lt C.1 C.2.1 hd ht (fun z => kt z H locs ls hP hJ hl) (fun z => kf z H locs ls hP hJ hl)
theorem g_if_ge (C : Cx p s m meth c κ own cc nL ret) {x : Int32} {off : Int} {tgt : Nat} (hd : decode cc pc = .ok (.ifCond .ge off, 3)) (ht : (pc : Int) + off = (tgt : Int)) (hp : pc + 3 = pc') (kt : 0 ≤ x → G p l e R s m args below meth c κ nL J ws k n Q tgt lv st) (kf : ¬ 0 ≤ x → G p l e R s m args below meth c κ nL J ws k n Q pc' lv st) : G p l e R s m args below meth c κ nL J ws k n Q pc lv (.int x :: st) := by
  subst hp; exact fun H locs ls hP hJ hl => lv_if_ge C.1 C.2.1 hd ht (fun z => kt z H locs ls hP hJ hl) (fun z => kf z H locs ls hP hJ hl)
theorem g_icmp_ge (C : Cx p s m meth c κ own cc nL ret) {x y : Int32} {off : Int} {tgt : Nat} (hd : decode cc pc = .ok (.if_icmp .ge off, 3)) (ht : (pc : Int) + off = (tgt : Int)) (hp : pc + 3 = pc') (kt : y ≤ x → G p l e R s m args below meth c κ nL J ws k n Q tgt lv st) (kf : ¬ y ≤ x → G p l e R s m args below meth c κ nL J ws k n Q pc' lv st) : G p l e R s m args below meth c κ nL J ws k n Q pc lv (.int y :: .int x :: st) := by
  subst hp; exact fun H locs ls hP hJ hl => lv_icmp_ge C.1 C.2.1 hd ht (fun z => kt z H locs ls hP hJ hl) (fun z => kf z H locs ls hP hJ hl)
theorem g_if_gt (C : Cx p s m meth c κ own cc nL ret) {x : Int32} {off : Int} {tgt : Nat} (hd : decode cc pc = .ok (.ifCond .gt off, 3)) (ht : (pc : Int) + off = (tgt : Int)) (hp : pc + 3 = pc') (kt : 0 < x → G p l e R s m args below meth c κ nL J ws k n Q tgt lv st) (kf : ¬ 0 < x → G p l e R s m args below meth c κ nL J ws k n Q pc' lv st) : G p l e R s m args below meth c κ nL J ws k n Q pc lv (.int x :: st) := by
  subst hp; exact fun H locs ls hP hJ hl => lv_if_gt C.1 C.2.1 hd ht (fun z => kt z H locs ls hP hJ hl) (fun z => kf z H locs ls hP hJ hl)
theorem g_icmp_gt (C : Cx p s m meth c κ own cc nL ret) {x y : Int32} {off : Int} {tgt : Nat} (hd : decode cc pc = .ok (.if_icmp .gt off, 3)) (ht : (pc : Int) + off = (tgt : Int)) (hp : pc + 3 = pc') (kt : y < x → G p l e R s m args below meth c κ nL J ws k n Q tgt lv st) (kf : ¬ y < x → G p l e R s m args below meth c κ nL J ws k n Q pc' lv st) : G p l e R s m args below meth c κ nL J ws k n Q pc lv (.int y :: .int x :: st) := by
  subst hp; exact fun H locs ls hP hJ hl => lv_icmp_gt C.1 C.2.1 hd ht (fun z => kt z H locs ls hP hJ hl) (fun z => kf z H locs ls hP hJ hl)
theorem g_if_le (C : Cx p s m meth c κ own cc nL ret) {x : Int32} {off : Int} {tgt : Nat} (hd : decode cc pc = .ok (.ifCond .le off, 3)) (ht : (pc : Int) + off = (tgt : Int)) (hp : pc + 3 = pc') (kt : x ≤ 0 → G p l e R s m args below meth c κ nL J ws k n Q tgt lv st) (kf : ¬ x ≤ 0 → G p l e R s m args below meth c κ nL J ws k n Q pc' lv st) : G p l e R s m args below meth c κ nL J ws k n Q pc lv (.int x :: st) := by
  subst hp; exact fun H locs ls hP hJ hl => lv_if_le C.1 C.2.1 hd ht (fun z => kt z H locs ls hP hJ hl) (fun z => kf z H locs ls hP hJ hl)
theorem g_icmp_le (C : Cx p s m meth c κ own cc nL ret) {x y : Int32} {off : Int} {tgt : Nat} (hd : decode cc pc = .ok (.if_icmp .le off, 3)) (ht : (pc : Int) + off = (tgt : Int)) (hp : pc + 3 = pc') (kt : x ≤ y → G p l e R s m args below meth c κ nL J ws k n Q tgt lv st) (kf : ¬ x ≤ y → G p l e R s m args below meth c κ nL J ws k n Q pc' lv st) : G p l e R s m args below meth c κ nL J ws k n Q pc lv (.int y :: .int x :: st) := by
  subst hp; exact fun H locs ls hP hJ hl => lv_icmp_le C.1 C.2.1 hd ht (fun z => kt z H locs ls hP hJ hl) (fun z => kf z H locs ls hP hJ hl)
theorem g_icmp_eqN (C : Cx p s m meth c κ own cc nL ret) {a b : Nat} (ha : a < 2 ^ 31) (hb : b < 2 ^ 31) {off : Int} {tgt : Nat} (hd : decode cc pc = .ok (.if_icmp .eq off, 3)) (ht : (pc : Int) + off = (tgt : Int)) (hp : pc + 3 = pc') (kt : a = b → G p l e R s m args below meth c κ nL J ws k n Q tgt lv st) (kf : a ≠ b → G p l e R s m args below meth c κ nL J ws k n Q pc' lv st) : G p l e R s m args below meth c κ nL J ws k n Q pc lv (.int (nI b) :: .int (nI a) :: st) :=
  g_icmp_eq C hd ht hp (fun z => kt ((nI_eq ha hb).mp z)) (fun z => kf (fun q => z ((nI_eq ha hb).mpr q)))
theorem g_if_eqN (C : Cx p s m meth c κ own cc nL ret) {a : Nat} (ha : a < 2 ^ 31) {off : Int} {tgt : Nat} (hd : decode cc pc = .ok (.ifCond .eq off, 3)) (ht : (pc : Int) + off = (tgt : Int)) (hp : pc + 3 = pc') (kt : a = 0 → G p l e R s m args below meth c κ nL J ws k n Q tgt lv st) (kf : a ≠ 0 → G p l e R s m args below meth c κ nL J ws k n Q pc' lv st) : G p l e R s m args below meth c κ nL J ws k n Q pc lv (.int (nI a) :: st) := by
  have hb : (0 : Nat) < 2 ^ 31 := by decide
  exact g_if_eq C hd ht hp (fun z => kt ((nI_eq ha hb).mp z)) (fun z => kf (fun q => z ((nI_eq ha hb).mpr q)))
theorem g_icmp_neN (C : Cx p s m meth c κ own cc nL ret) {a b : Nat} (ha : a < 2 ^ 31) (hb : b < 2 ^ 31) {off : Int} {tgt : Nat} (hd : decode cc pc = .ok (.if_icmp .ne off, 3)) (ht : (pc : Int) + off = (tgt : Int)) (hp : pc + 3 = pc') (kt : a ≠ b → G p l e R s m args below meth c κ nL J ws k n Q tgt lv st) (kf : a = b → G p l e R s m args below meth c κ nL J ws k n Q pc' lv st) : G p l e R s m args below meth c κ nL J ws k n Q pc lv (.int (nI b) :: .int (nI a) :: st) :=
  g_icmp_ne C hd ht hp (fun z => kt (fun q => z ((nI_eq ha hb).mpr q))) (fun z => kf ((nI_eq ha hb).mp z))
theorem g_if_neN (C : Cx p s m meth c κ own cc nL ret) {a : Nat} (ha : a < 2 ^ 31) {off : Int} {tgt : Nat} (hd : decode cc pc = .ok (.ifCond .ne off, 3)) (ht : (pc : Int) + off = (tgt : Int)) (hp : pc + 3 = pc') (kt : a ≠ 0 → G p l e R s m args below meth c κ nL J ws k n Q tgt lv st) (kf : a = 0 → G p l e R s m args below meth c κ nL J ws k n Q pc' lv st) : G p l e R s m args below meth c κ nL J ws k n Q pc lv (.int (nI a) :: st) := by
  have hb : (0 : Nat) < 2 ^ 31 := by decide
  exact g_if_ne C hd ht hp (fun z => kt (fun q => z ((nI_eq ha hb).mpr q))) (fun z => kf ((nI_eq ha hb).mp z))
theorem g_icmp_ltN (C : Cx p s m meth c κ own cc nL ret) {a b : Nat} (ha : a < 2 ^ 31) (hb : b < 2 ^ 31) {off : Int} {tgt : Nat} (hd : decode cc pc = .ok (.if_icmp .lt off, 3)) (ht : (pc : Int) + off = (tgt : Int)) (hp : pc + 3 = pc') (kt : a < b → G p l e R s m args below meth c κ nL J ws k n Q tgt lv st) (kf : b ≤ a → G p l e R s m args below meth c κ nL J ws k n Q pc' lv st) : G p l e R s m args below meth c κ nL J ws k n Q pc lv (.int (nI b) :: .int (nI a) :: st) :=
  g_icmp_lt C hd ht hp (fun z => kt ((nI_ltI ha hb).mp z)) (fun z => kf (Nat.not_lt.mp (fun q => z ((nI_ltI ha hb).mpr q))))
theorem g_if_ltN (C : Cx p s m meth c κ own cc nL ret) {a : Nat} (ha : a < 2 ^ 31) {off : Int} {tgt : Nat} (hd : decode cc pc = .ok (.ifCond .lt off, 3)) (ht : (pc : Int) + off = (tgt : Int)) (hp : pc + 3 = pc') (kf : G p l e R s m args below meth c κ nL J ws k n Q pc' lv st) : G p l e R s m args below meth c κ nL J ws k n Q pc lv (.int (nI a) :: st) :=
  g_if_lt C hd ht hp (fun z => absurd z (nI_pos ha)) (fun _ => kf)
theorem g_icmp_geN (C : Cx p s m meth c κ own cc nL ret) {a b : Nat} (ha : a < 2 ^ 31) (hb : b < 2 ^ 31) {off : Int} {tgt : Nat} (hd : decode cc pc = .ok (.if_icmp .ge off, 3)) (ht : (pc : Int) + off = (tgt : Int)) (hp : pc + 3 = pc') (kt : b ≤ a → G p l e R s m args below meth c κ nL J ws k n Q tgt lv st) (kf : a < b → G p l e R s m args below meth c κ nL J ws k n Q pc' lv st) : G p l e R s m args below meth c κ nL J ws k n Q pc lv (.int (nI b) :: .int (nI a) :: st) :=
  g_icmp_ge C hd ht hp (fun z => kt ((nI_leI hb ha).mp z)) (fun z => kf (Nat.not_le.mp (fun q => z ((nI_leI hb ha).mpr q))))
theorem g_if_geN (C : Cx p s m meth c κ own cc nL ret) {a : Nat} (ha : a < 2 ^ 31) {off : Int} {tgt : Nat} (hd : decode cc pc = .ok (.ifCond .ge off, 3)) (ht : (pc : Int) + off = (tgt : Int)) (hp : pc + 3 = pc') (kt : G p l e R s m args below meth c κ nL J ws k n Q tgt lv st) : G p l e R s m args below meth c κ nL J ws k n Q pc lv (.int (nI a) :: st) :=
  g_if_ge C hd ht hp (fun _ => kt) (fun z => absurd (nI_pos' ha) z)
theorem g_icmp_gtN (C : Cx p s m meth c κ own cc nL ret) {a b : Nat} (ha : a < 2 ^ 31) (hb : b < 2 ^ 31) {off : Int} {tgt : Nat} (hd : decode cc pc = .ok (.if_icmp .gt off, 3)) (ht : (pc : Int) + off = (tgt : Int)) (hp : pc + 3 = pc') (kt : b < a → G p l e R s m args below meth c κ nL J ws k n Q tgt lv st) (kf : a ≤ b → G p l e R s m args below meth c κ nL J ws k n Q pc' lv st) : G p l e R s m args below meth c κ nL J ws k n Q pc lv (.int (nI b) :: .int (nI a) :: st) :=
  g_icmp_gt C hd ht hp (fun z => kt ((nI_ltI hb ha).mp z)) (fun z => kf (Nat.not_lt.mp (fun q => z ((nI_ltI hb ha).mpr q))))
theorem g_if_gtN (C : Cx p s m meth c κ own cc nL ret) {a : Nat} (ha : a < 2 ^ 31) {off : Int} {tgt : Nat} (hd : decode cc pc = .ok (.ifCond .gt off, 3)) (ht : (pc : Int) + off = (tgt : Int)) (hp : pc + 3 = pc') (kt : 0 < a → G p l e R s m args below meth c κ nL J ws k n Q tgt lv st) (kf : a ≤ 0 → G p l e R s m args below meth c κ nL J ws k n Q pc' lv st) : G p l e R s m args below meth c κ nL J ws k n Q pc lv (.int (nI a) :: st) := by
  have hb : (0 : Nat) < 2 ^ 31 := by decide
  exact g_if_gt C hd ht hp (fun z => kt ((nI_ltI hb ha).mp z)) (fun z => kf (Nat.not_lt.mp (fun q => z ((nI_ltI hb ha).mpr q))))
theorem g_icmp_leN (C : Cx p s m meth c κ own cc nL ret) {a b : Nat} (ha : a < 2 ^ 31) (hb : b < 2 ^ 31) {off : Int} {tgt : Nat} (hd : decode cc pc = .ok (.if_icmp .le off, 3)) (ht : (pc : Int) + off = (tgt : Int)) (hp : pc + 3 = pc') (kt : a ≤ b → G p l e R s m args below meth c κ nL J ws k n Q tgt lv st) (kf : b < a → G p l e R s m args below meth c κ nL J ws k n Q pc' lv st) : G p l e R s m args below meth c κ nL J ws k n Q pc lv (.int (nI b) :: .int (nI a) :: st) :=
  g_icmp_le C hd ht hp (fun z => kt ((nI_leI ha hb).mp z)) (fun z => kf (Nat.not_le.mp (fun q => z ((nI_leI ha hb).mpr q))))
theorem g_if_leN (C : Cx p s m meth c κ own cc nL ret) {a : Nat} (ha : a < 2 ^ 31) {off : Int} {tgt : Nat} (hd : decode cc pc = .ok (.ifCond .le off, 3)) (ht : (pc : Int) + off = (tgt : Int)) (hp : pc + 3 = pc') (kt : a ≤ 0 → G p l e R s m args below meth c κ nL J ws k n Q tgt lv st) (kf : 0 < a → G p l e R s m args below meth c κ nL J ws k n Q pc' lv st) : G p l e R s m args below meth c κ nL J ws k n Q pc lv (.int (nI a) :: st) := by
  have hb : (0 : Nat) < 2 ^ 31 := by decide
  exact g_if_le C hd ht hp (fun z => kt ((nI_leI ha hb).mp z)) (fun z => kf (Nat.not_le.mp (fun q => z ((nI_leI ha hb).mpr q))))
theorem g_if_eqB (C : Cx p s m meth c κ own cc nL ret) {b : Bool} {off : Int} {tgt : Nat} (hd : decode cc pc = .ok (.ifCond .eq off, 3)) (ht : (pc : Int) + off = (tgt : Int)) (hp : pc + 3 = pc') (kt : b = false → G p l e R s m args below meth c κ nL J ws k n Q tgt lv st) (kf : b = true → G p l e R s m args below meth c κ nL J ws k n Q pc' lv st) : G p l e R s m args below meth c κ nL J ws k n Q pc lv (.int (b2i b) :: st) := by
  refine g_if_eq C hd ht hp (fun z => kt ?_) (fun z => kf ?_)
  · cases b with
    | false => rfl
    | true => exact absurd z (by decide)
  · cases b with
    | true => rfl
    | false => exact absurd rfl z
theorem g_if_neB (C : Cx p s m meth c κ own cc nL ret) {b : Bool} {off : Int} {tgt : Nat} (hd : decode cc pc = .ok (.ifCond .ne off, 3)) (ht : (pc : Int) + off = (tgt : Int)) (hp : pc + 3 = pc') (kt : b = true → G p l e R s m args below meth c κ nL J ws k n Q tgt lv st) (kf : b = false → G p l e R s m args below meth c κ nL J ws k n Q pc' lv st) : G p l e R s m args below meth c κ nL J ws k n Q pc lv (.int (b2i b) :: st) := by
  refine g_if_ne C hd ht hp (fun z => kt ?_) (fun z => kf ?_)
  · cases b with
    | true => rfl
    | false => exact absurd rfl z
  · cases b with
    | false => rfl
    | true => exact absurd z (by decide)
/-! ===== fields, arrays, new things ===== -/
def FL (own : String) (idx ci f : Nat) : Prop := ∃ (CN : String) (T : u_T) (N : Nat) (ref : String), vwCl[ci]? = some (CN, T, N) ∧ (∀ w ∈ u_ws CN T N, w ∈ T1) ∧ f < N ∧ Cond.fieldLink own idx ref (T f).2.1 (T f).2.2.1 ∈ T1 ∧ (ref = (T f).1 ∨ Cond.sameField ref (T f).1 (T f).2.1 (T f).2.2.1 ∈ T1)
def FN (own : String) (idx ci f : Nat) : Prop := ∃ (CN : String) (T : u_T) (N : Nat) (ref host : String), vwCl[ci]? = some (CN, T, N) ∧ (∀ w ∈ u_ws CN T N, w ∈ T1) ∧ f < N ∧ Cond.fieldLinkNest own idx ref (T f).2.1 (T f).2.2.1 host ∈ T1 ∧ ref = (T f).1
def FP (own : String) (idx ci f : Nat) (ty : FieldType) (fin : Bool) : Prop := ∃ (CN : String) (T : u_T) (N : Nat) (ref : String) (ty0 : Nat → FieldType), vwCl[ci]? = some (CN, T, N) ∧ (∀ w ∈ u_ws CN T N, w ∈ T1) ∧ f < N ∧ Cond.fieldLink own idx ref (T f).2.1 (T f).2.2.1 ∈ T1 ∧ ref = (T f).1 ∧ (∀ k, k < N → parseFieldDescriptor (T k).2.2.1 = some (ty0 k)) ∧ (∀ a, a < N → ∀ b, b < N → a ≠ b → (T a).2.1 ≠ (T b).2.1) ∧ (T f).2.2.2 = fin ∧ parseFieldDescriptor (T f).2.2.1 = some ty ∧ (fin = true → (T f).1 = own)
def NW (own : String) (idx ci : Nat) (fs : List Value) : Prop := ∃ (CN : String) (T : u_T) (N : Nat) (ty0 : Nat → FieldType), vwCl[ci]? = some (CN, T, N) ∧ N = fs.length ∧ (∀ w ∈ u_ws CN T N, w ∈ T1) ∧ (∀ k, k < N → parseFieldDescriptor (T k).2.2.1 = some (ty0 k)) ∧ Cond.classLink own idx CN ∈ T1 ∧ Cond.instantiable CN N ∈ T1 ∧ Cond.initialized CN ∈ T1 ∧ ∀ j, j < N → defaultValue (ty0 j) = vp_V fs j
theorem nI_cl (j : Nat) (h : j < 2 ^ 31) : (nI j).toNatClampNeg = j := nI_clamp h
theorem g_get (C : Cx p s m meth c κ own cc nL ret) {idx ci f : Nat} (F : FL own idx ci f) (q0 : Nat) {a : Nat} {fs : List Value} (he : ws[q0]? = some (a, .inr (ci, fs))) {v : Value} (hv : fs[f]? = some v) (hd : decode cc pc = .ok (.getfield idx, 3)) (hp : pc + 3 = pc') (K : G p l e R s m args below meth c κ nL J ws k n Q pc' lv (v :: st)) : G p l e R s m args below meth c κ nL J ws k n Q pc lv (.ref a :: st) := by
  subst hp
  obtain ⟨CN, T, N, ref, h1, h2, h3, h4, h5⟩ := F
  obtain ⟨hx, hb, -, -, -, hown, hK, hE⟩ := C
  refine fun H locs ls hP hJ hl => va_get (D := κ.1) (Ts := T1) hx hb (fun w hw => hE w hw args) h2 hown hK hP q0 he h1 f h3 (hE _ h4 args) (fun x hx => ?_) hv hd (K H locs ls hP hJ hl)
  rcases h5 with h5 | h5
  · rw [h5]; exact hx
  · exact u_same (hE _ h5 args) x hx
theorem g_getN (C : Cx p s m meth c κ own cc nL ret) {idx ci f : Nat} (F : FN own idx ci f) (q0 : Nat) {a : Nat} {fs : List Value} (he : ws[q0]? = some (a, .inr (ci, fs))) {v : Value} (hv : fs[f]? = some v) (hd : decode cc pc = .ok (.getfield idx, 3)) (hp : pc + 3 = pc') (K : G p l e R s m args below meth c κ nL J ws k n Q pc' lv (v :: st)) : G p l e R s m args below meth c κ nL J ws k n Q pc lv (.ref a :: st) := by
  subst hp
  obtain ⟨CN, T, N, ref, host, h1, h2, h3, h4, h5⟩ := F
  obtain ⟨hx, hb, -, -, -, hown, hK, hE⟩ := C
  exact fun H locs ls hP hJ hl => va_getN (D := κ.1) (Ts := T1) hx hb (fun w hw => hE w hw args) h2 hown hK hP q0 he h1 f h3 (hE _ h4 args) (fun x hx => by rw [h5]; exact hx) hv hd (K H locs ls hP hJ hl)
theorem g_put {A : Nat → Prop} (C : Cx p s m meth c κ own cc nL ret) {idx ci f : Nat} {ty : FieldType} (F : FP own idx ci f ty false) (q0 : Nat) {a : Nat} {fs : List Value} (he : ws[q0]? = some (a, .inr (ci, fs))) {v : Value} (hn : narrow ty v = v) (hf : fits ty v = true) (hl0 : f < fs.length) {ws' : va_W} (hw : ws.set q0 (a, .inr (ci, fs.set f v)) = ws') (hd : decode cc pc = .ok (.putfield idx, 3)) (hp : pc + 3 = pc') (K : G p l e R s m args below meth c κ nL (JM A s) ws' k n Q pc' lv st) : G p l e R s m args below meth c κ nL (JM A s) ws k n Q pc lv (v :: .ref a :: st) := by
  subst hp; subst hw
  obtain ⟨CN, T, N, ref, ty0, h1, h2, h3, h4, h5, h6, h7, h8, h9, -⟩ := F
  obtain ⟨hx, hb, -, -, -, hown, hK, hE⟩ := C
  exact fun H locs ls hP hJ hl => va_put (D := κ.1) (Ts := T1) hx hb (fun w hw => hE w hw args) h2 ty0 h6 h7 hown hK hP hJ.1 hJ.2 q0 he h1 f h3 (hE _ h4 args) (fun x hx => by rw [h5]; exact hx) h8 h9 hn hf hl0 hd (fun H1 locs1 hP1 hD1 hS1 => K H1 locs1 ls hP1 ⟨hD1, hS1⟩ hl)
theorem g_putF {A : Nat → Prop} (C : Cx p s m meth c κ own cc nL ret) (hi : meth.name = "<init>") {idx ci f : Nat} {ty : FieldType} (F : FP own idx ci f ty true) (q0 : Nat) {a : Nat} {fs : List Value} (he : ws[q0]? = some (a, .inr (ci, fs))) {v : Value} (hn : narrow ty v = v) (hf : fits ty v = true) (hl0 : f < fs.length) {ws' : va_W} (hw : ws.set q0 (a, .inr (ci, fs.set f v)) = ws') (hd : decode cc pc = .ok (.putfield idx, 3)) (hp : pc + 3 = pc') (K : G p l e R s m args below meth c κ nL (JM A s) ws' k n Q pc' lv st) : G p l e R s m args below meth c κ nL (JM A s) ws k n Q pc lv (v :: .ref a :: st) := by
  subst hp; subst hw
  obtain ⟨CN, T, N, ref, ty0, h1, h2, h3, h4, h5, h6, h7, h8, h9, h10⟩ := F
  obtain ⟨hx, hb, -, -, -, hown, hK, hE⟩ := C
  exact fun H locs ls hP hJ hl => va_putF (D := κ.1) (Ts := T1) hx hb (fun w hw => hE w hw args) h2 ty0 h6 h7 hown hK hP hJ.1 hJ.2 q0 he h1 f h3 (hE _ h4 args) (fun x hx => by rw [h5]; exact hx) h8 hi (h10 rfl) h9 hn hf hl0 hd (fun H1 locs1 hP1 hD1 hS1 => K H1 locs1 ls hP1 ⟨hD1, hS1⟩ hl)
theorem g_iald (C : Cx p s m meth c κ own cc nL ret) (q0 : Nat) {a z : Nat} {f : Nat → Int32} (he : ws[q0]? = some (a, .inl (κ.2 0, z, .inl f))) (j : Nat) (hj : j < z) (hz : z < 2 ^ 31) (hd : decode cc pc = .ok (.iaload, 1)) (hp : pc + 1 = pc') (K : G p l e R s m args below meth c κ nL J ws k n Q pc' lv (.int (f j) :: st)) : G p l e R s m args below meth c κ nL J ws k n Q pc lv (.int (nI j) :: .ref a :: st) := by
  subst hp
  obtain ⟨hx, hb, -, -, -, hown, hK, hE⟩ := C
  refine fun H locs ls hP hJ hl => va_iald hx hb hK hP q0 0 he rfl (vp_in_nI hj hz) hd ?_
  rw [nI_clamp (Nat.lt_trans hj hz)]
  exact K H locs ls hP hJ hl
theorem g_zald (C : Cx p s m meth c κ own cc nL ret) (q0 : Nat) {a z : Nat} {f : Nat → Int32} (he : ws[q0]? = some (a, .inl (κ.2 1, z, .inl f))) (j : Nat) (hj : j < z) (hz : z < 2 ^ 31) (hd : decode cc pc = .ok (.baload, 1)) (hp : pc + 1 = pc') (K : G p l e R s m args below meth c κ nL J ws k n Q pc' lv (.int (f j) :: st)) : G p l e R s m args below meth c κ nL J ws k n Q pc lv (.int (nI j) :: .ref a :: st) := by
  subst hp
  obtain ⟨hx, hb, -, -, -, hown, hK, hE⟩ := C
  refine fun H locs ls hP hJ hl => va_zald hx hb hK hP q0 1 he rfl (vp_in_nI hj hz) hd ?_
  rw [nI_clamp (Nat.lt_trans hj hz)]
  exact K H locs ls hP hJ hl
theorem g_lald (C : Cx p s m meth c κ own cc nL ret) (q0 : Nat) {a z : Nat} {f : Nat → Int64} (he : ws[q0]? = some (a, .inl (κ.2 4, z, .inr (.inl f)))) (j : Nat) (hj : j < z) (hz : z < 2 ^ 31) (hd : decode cc pc = .ok (.laload, 1)) (hp : pc + 1 = pc') (K : G p l e R s m args below meth c κ nL J ws k n Q pc' lv (.long (f j) :: st)) : G p l e R s m args below meth c κ nL J ws k n Q pc lv (.int (nI j) :: .ref a :: st) := by
  subst hp
  obtain ⟨hx, hb, -, -, -, hown, hK, hE⟩ := C
  refine fun H locs ls hP hJ hl => va_lald hx hb hK hP q0 4 he rfl (vp_in_nI hj hz) hd ?_
  rw [nI_clamp (Nat.lt_trans hj hz)]
  exact K H locs ls hP hJ hl
theorem g_iast {A : Nat → Prop} (C : Cx p s m meth c κ own cc nL ret) (q0 : Nat) {a z : Nat} {f : Nat → Int32} {x : Int32} (he : ws[q0]? = some (a, .inl (κ.2 0, z, .inl f))) (j : Nat) (hj : j < z) (hz : z < 2 ^ 31) {ws' : va_W} (hw : ws.set q0 (a, .inl (κ.2 0, z, .inl (upd f j x))) = ws') (hd : decode cc pc = .ok (.iastore, 1)) (hp : pc + 1 = pc') (K : G p l e R s m args below meth c κ nL (JM A s) ws' k n Q pc' lv st) : G p l e R s m args below meth c κ nL (JM A s) ws k n Q pc lv (.int x :: .int (nI j) :: .ref a :: st) := by
  subst hp; subst hw
  obtain ⟨hx, hb, -, -, -, hown, hK, hE⟩ := C
  refine fun H locs ls hP hJ hl => va_iast hx hb hK hP hJ.1 hJ.2 q0 0 he rfl (vp_in_nI hj hz) hd (fun H1 locs1 hP1 hD1 hS1 => ?_)
  rw [nI_clamp (Nat.lt_trans hj hz)] at hP1 hD1
  exact K H1 locs1 ls hP1 ⟨hD1, hS1⟩ hl
theorem g_zast {A : Nat → Prop} (C : Cx p s m meth c κ own cc nL ret) (q0 : Nat) {a z : Nat} {f : Nat → Int32} {x y : Int32} (he : ws[q0]? = some (a, .inl (κ.2 1, z, .inl f))) (j : Nat) (hj : j < z) (hz : z < 2 ^ 31) (hy : vp_nar .boolean x = y) {ws' : va_W} (hw : ws.set q0 (a, .inl (κ.2 1, z, .inl (upd f j y))) = ws') (hd : decode cc pc = .ok (.bastore, 1)) (hp : pc + 1 = pc') (K : G p l e R s m args below meth c κ nL (JM A s) ws' k n Q pc' lv st) : G p l e R s m args below meth c κ nL (JM A s) ws k n Q pc lv (.int x :: .int (nI j) :: .ref a :: st) := by
  subst hp; subst hw; subst hy
  obtain ⟨hx, hb, -, -, -, hown, hK, hE⟩ := C
  refine fun H locs ls hP hJ hl => va_zast hx hb hK hP hJ.1 hJ.2 q0 1 he rfl (vp_in_nI hj hz) hd (fun H1 locs1 hP1 hD1 hS1 => ?_)
  rw [nI_clamp (Nat.lt_trans hj hz)] at hP1 hD1
  exact K H1 locs1 ls hP1 ⟨hD1, hS1⟩ hl
theorem g_last {A : Nat → Prop} (C : Cx p s m meth c κ own cc nL ret) (q0 : Nat) {a z : Nat} {f : Nat → Int64} {x : Int64} (he : ws[q0]? = some (a, .inl (κ.2 4, z, .inr (.inl f)))) (j : Nat) (hj : j < z) (hz : z < 2 ^ 31) {ws' : va_W} (hw : ws.set q0 (a, .inl (κ.2 4, z, .inr (.inl (vp_updL f j x)))) = ws') (hd : decode cc pc = .ok (.lastore, 1)) (hp : pc + 1 = pc') (K : G p l e R s m args below meth c κ nL (JM A s) ws' k n Q pc' lv st) : G p l e R s m args below meth c κ nL (JM A s) ws k n Q pc lv (.long x :: .int (nI j) :: .ref a :: st) := by
  subst hp; subst hw
  obtain ⟨hx, hb, -, -, -, hown, hK, hE⟩ := C
  refine fun H locs ls hP hJ hl => va_last hx hb hK hP hJ.1 hJ.2 q0 4 he rfl (vp_in_nI hj hz) hd (fun H1 locs1 hP1 hD1 hS1 => ?_)
  rw [nI_clamp (Nat.lt_trans hj hz)] at hP1 hD1
  exact K H1 locs1 ls hP1 ⟨hD1, hS1⟩ hl
/-- a row out of an array of arrays: it is known, which -/
theorem g_aald2 (C : Cx p s m meth c κ own cc nL ret) (q0 : Nat) {a z b : Nat} {f : Nat → Option Nat} (he : ws[q0]? = some (a, .inl (κ.2 3, z, .inr (.inr (.inr (.inr f)))))) (j : Nat) (hj : j < z) (hz : z < 2 ^ 31) (hf : f j = some b) (hd : decode cc pc = .ok (.aaload, 1)) (hp : pc + 1 = pc') (K : G p l e R s m args below meth c κ nL J ws k n Q pc' lv (.ref b :: st)) : G p l e R s m args below meth c κ nL J ws k n Q pc lv (.int (nI j) :: .ref a :: st) := by
  subst hp
  obtain ⟨hx, hb, -, -, -, hown, hK, hE⟩ := C
  intro H locs ls hP hJ hl
  have hin : vp_in (nI j) z := vp_in_nI hj hz
  have hc : (nI j).toNatClampNeg = j := nI_clamp (Nat.lt_trans hj hz)
  exact W.aald (v := .ref b) (ty := .array .int) hx hb (hP q0 _ he) ((hK.2 3 _ rfl).1 z (fun j => va_rf (f j))) rfl (fun q => by cases q) (by show ¬ (nI j < 0 ∨ (arrV _ _ _).slots.size ≤ _); rw [arrV_size]; exact hin) (by show (arrV _ _ _).slots[_]? = _; rw [hc, arrV_read _ _ hj]; show some (va_rf (f j)) = _; rw [hf]; rfl) rfl rfl hd (K H locs ls hP hJ hl)
/-- an entry out of the array of entries: none, or which -/
theorem g_aaldE (C : Cx p s m meth c κ own cc nL ret) (q0 : Nat) {a z : Nat} {f : Nat → Option Nat} (he : ws[q0]? = some (a, .inl (κ.2 2, z, .inr (.inr (.inr (.inr f)))))) (j : Nat) (hj : j < z) (hz : z < 2 ^ 31) (hd : decode cc pc = .ok (.aaload, 1)) (hp : pc + 1 = pc') (kn : f j = none → G p l e R s m args below meth c κ nL J ws k n Q pc' lv (.null :: st)) (ks : ∀ b, f j = some b → G p l e R s m args below meth c κ nL J ws k n Q pc' lv (.ref b :: st)) : G p l e R s m args below meth c κ nL J ws k n Q pc lv (.int (nI j) :: .ref a :: st) := by
  subst hp
  obtain ⟨hx, hb, -, -, -, hown, hK, hE⟩ := C
  intro H locs ls hP hJ hl
  refine va_aldq hx hb hK hP q0 2 he rfl (vp_in_nI hj hz) hd ?_
  rw [nI_clamp (Nat.lt_trans hj hz)]
  cases h : f j with
  | none => exact kn h H locs ls hP hJ hl
  | some b => exact ks b h H locs ls hP hJ hl
theorem g_alen (C : Cx p s m meth c κ own cc nL ret) (q0 t0 : Nat) {a : Nat} {cA : ClassId} {x : vp_A} (he : ws[q0]? = some (a, .inl (cA, x))) {ty : FieldType} (ht : (tysK κ)[t0]? = some (cA, ty)) (hd : decode cc pc = .ok (.arraylength, 1)) (hp : pc + 1 = pc') (K : G p l e R s m args below meth c κ nL J ws k n Q pc' lv (.int (nI x.1) :: st)) : G p l e R s m args below meth c κ nL J ws k n Q pc lv (.ref a :: st) := by
  subst hp
  obtain ⟨hx, hb, -, -, -, hown, hK, hE⟩ := C
  exact fun H locs ls hP hJ hl => va_alen hx hb hK hP q0 t0 he ht rfl hd (K H locs ls hP hJ hl)
theorem g_new {A : Nat → Prop} (C : Cx p s m meth c κ own cc nL ret) (hA : ∀ q, s.heap.size ≤ q → A q) {idx ci : Nat} {fs : List Value} (F : NW own idx ci fs) {z : Nat} (hz : fs.length = z) (h1 : k + 1 ≤ R.cells) (h2 : n + z ≤ R.slots) (hd : decode cc pc = .ok (.new idx, 3)) (hp : pc + 3 = pc') (K : ∀ q : Nat, G p l e R s m args below meth c κ nL (JM A s) (ws ++ [(q, .inr (ci, fs))]) (k + 1) (n + z) Q pc' lv (.ref q :: st)) : G p l e R s m args below meth c κ nL (JM A s) ws k n Q pc lv st := by
  subst hp; subst hz
  obtain ⟨CN, T, N, ty0, f1, f2, f3, f4, f5, f6, f7, f8⟩ := F
  subst f2
  obtain ⟨hx, hb, -, -, -, hown, hK, hE⟩ := C
  exact fun H locs ls hP hJ hl => va_new (D := κ.1) (Ts := T1) hx hb (fun w hw => hE w hw args) f3 ty0 f4 hown (hE _ f5 args) (hE _ f6 args) (hE _ f7 args) hK hP hJ.1 hJ.2 hA f1 f8 h1 h2 hd (fun q H1 hP1 hD1 hS1 => K q H1 locs ls hP1 ⟨hD1, hS1⟩ hl)
theorem tys_one {s : State} {cA cB : ClassId} {ty : FieldType} (hty : ∀ t, ty ≠ .object t) (ha : va_RA s cA ty) (hb : va_RA s cB ty) : cA = cB := by
  cases ty with
  | object t => exact absurd rfl (hty t)
  | _ => exact Option.some.inj (Eq.trans (Eq.symm ha) hb)
theorem g_newI {A : Nat → Prop} (C : Cx p s m meth c κ own cc nL ret) (hA : ∀ q, s.heap.size ≤ q → A q) (hw : Cond.arrayClass .int ∈ T1) {z : Nat} (hz : z * 4 ≤ 536870912) (h1 : k + 1 ≤ R.cells) (h2 : n + z ≤ R.slots) (hd : decode cc pc = .ok (.newarray .int, 2)) (hp : pc + 2 = pc') (K : ∀ q : Nat, G p l e R s m args below meth c κ nL (JM A s) (ws ++ [(q, .inl (κ.2 0, z, .inl (fun _ => 0)))]) (k + 1) (n + z) Q pc' lv (.ref q :: st)) : G p l e R s m args below meth c κ nL (JM A s) ws k n Q pc lv (.int (nI z) :: st) := by
  subst hp
  obtain ⟨hx, hb, -, -, -, hown, hK, hE⟩ := C
  have hz2 : z < 2 ^ 31 := by omega
  refine fun H locs ls hP hJ hl => va_newa (atype := .int) (ty := .int) (N' := z) (a0 := (z, .inl (fun _ => 0))) hx hb (hE _ hw args) rfl hK hP hJ.1 hJ.2 hA (fun _ => rfl) (nI_pos hz2) (nI_clamp hz2) hz h1 h2 hd (fun q cA H1 hK1 hP1 hD1 hS1 => ?_)
  have e : cA = κ.2 0 := tys_one (fun t h => by cases h) (hK1.2 5 _ rfl).2 (hK.2 0 _ rfl).2
  subst e
  exact K q H1 locs ls hP1 ⟨hD1, hS1⟩ hl
theorem g_newZ {A : Nat → Prop} (C : Cx p s m meth c κ own cc nL ret) (hA : ∀ q, s.heap.size ≤ q → A q) (hw : Cond.arrayClass .boolean ∈ T1) {z : Nat} (hz : z * 4 ≤ 536870912) (h1 : k + 1 ≤ R.cells) (h2 : n + z ≤ R.slots) (hd : decode cc pc = .ok (.newarray .boolean, 2)) (hp : pc + 2 = pc') (K : ∀ q : Nat, G p l e R s m args below meth c κ nL (JM A s) (ws ++ [(q, .inl (κ.2 1, z, .inl (fun _ => 0)))]) (k + 1) (n + z) Q pc' lv (.ref q :: st)) : G p l e R s m args below meth c κ nL (JM A s) ws k n Q pc lv (.int (nI z) :: st) := by
  subst hp
  obtain ⟨hx, hb, -, -, -, hown, hK, hE⟩ := C
  have hz2 : z < 2 ^ 31 := by omega
  refine fun H locs ls hP hJ hl => va_newa (atype := .boolean) (ty := .boolean) (N' := z) (a0 := (z, .inl (fun _ => 0))) hx hb (hE _ hw args) rfl hK hP hJ.1 hJ.2 hA (fun _ => rfl) (nI_pos hz2) (nI_clamp hz2) (by show z * 1 ≤ _; omega) h1 h2 hd (fun q cA H1 hK1 hP1 hD1 hS1 => ?_)
  have e : cA = κ.2 1 := tys_one (fun t h => by cases h) (hK1.2 5 _ rfl).2 (hK.2 1 _ rfl).2
  subst e
  exact K q H1 locs ls hP1 ⟨hD1, hS1⟩ hl
theorem g_newJ {A : Nat → Prop} (C : Cx p s m meth c κ own cc nL ret) (hA : ∀ q, s.heap.size ≤ q → A q) (hw : Cond.arrayClass .long ∈ T1) {z : Nat} (hz : z * 8 ≤ 536870912) (h1 : k + 1 ≤ R.cells) (h2 : n + z ≤ R.slots) (hd : decode cc pc = .ok (.newarray .long, 2)) (hp : pc + 2 = pc') (K : ∀ q : Nat, G p l e R s m args below meth c κ nL (JM A s) (ws ++ [(q, .inl (κ.2 4, z, .inr (.inl (fun _ => 0))))]) (k + 1) (n + z) Q pc' lv (.ref q :: st)) : G p l e R s m args below meth c κ nL (JM A s) ws k n Q pc lv (.int (nI z) :: st) := by
  subst hp
  obtain ⟨hx, hb, -, -, -, hown, hK, hE⟩ := C
  have hz2 : z < 2 ^ 31 := by omega
  refine fun H locs ls hP hJ hl => va_newa (atype := .long) (ty := .long) (N' := z) (a0 := (z, .inr (.inl (fun _ => 0)))) hx hb (hE _ hw args) rfl hK hP hJ.1 hJ.2 hA (fun _ => rfl) (nI_pos hz2) (nI_clamp hz2) hz h1 h2 hd (fun q cA H1 hK1 hP1 hD1 hS1 => ?_)
  have e : cA = κ.2 4 := tys_one (fun t h => by cases h) (hK1.2 5 _ rfl).2 (hK.2 4 _ rfl).2
  subst e
  exact K q H1 locs ls hP1 ⟨hD1, hS1⟩ hl
/-! ===== contracts: pure (P), writing (M), that may throw (X) ===== -/
def rmv (d mc ms : Nat) : Room := { frames := d + 8, cells := mc, slots := ms, locals := 200 + 40 * d }
def PcP (κ : KK) (av : List Value) (wc : va_W) : Array Value → State → Prop := va_Pc av (fun U => va_P κ.1 vwCl wc U.heap ∧ EV κ U)
def PcM (κ : KK) (av : List Value) (wc : va_W) (sz : Nat) : Array Value → State → Prop := va_Pc av (fun U => U.heap.size = sz ∧ va_P κ.1 vwCl wc U.heap ∧ va_D (fun _ => True) wc ∧ EV κ U)
def ST (A : Nat → Prop) (U : State) : Prop := vx_Zq Bundle.tN "UNASSIGNED_STACK" Bundle.steD A U U.heap ∧ vx_Zq Bundle.tN "SUPPRESSED_SENTINEL" Bundle.listD A U U.heap
def strL : List (String × Nat × String) := [("Pocketgloss", 60, "kind or step is out of range"), ("Pocketgloss", 71, "there are as many rules as there may be"), ("Pocketgloss", 220, "there is no such word"), ("Pocketgloss", 89, "the draft is full"), ("Pocketgloss", 91, "the first part is open"), ("Pocketgloss", 145, "cost is out of range"), ("Pocketgloss", 96, "the draft is empty"), ("Pocketgloss", 98, "the last part is open"), ("Pocketgloss", 233, "as many entries were made as may be"), ("Pocketgloss", 118, "reach is out of range"), ("Pocketgloss", 227, "there is no such entry"), ("Pocketgloss", 136, "the sentence is full"), ("Pocketgloss", 238, "the sentence has no such place"), ("Pocketgloss", 223, "there is no such reader"), ("Pocketgloss", 189, "the reader has a card for it"), ("Pocketgloss", 203, "the reader has no card for it that is due"), ("Pocketgloss", 216, "days is out of range")]
def PcX (κ : KK) (av : List Value) (wc : va_W) (sz : Nat) : Array Value → State → Prop := va_Pc av (fun U => U.heap.size = sz ∧ va_P κ.1 vwCl wc U.heap ∧ va_D (fun _ => True) wc ∧ EV κ U ∧ ES strL U ∧ ST (va_A wc sz) U)
abbrev BM (κ : KK) (wc : va_W) (sz : Nat) : va_W → State → Prop := fun w1 t => va_P κ.1 vwCl w1 t.heap ∧ va_D (va_A wc sz) w1
def QMi (κ : KK) (wc : va_W) (sz : Nat) (post : Int32 → va_W → Prop) : Array Value → State → Outcome → State → Prop := va_Qi post (BM κ wc sz) (va_A wc sz)
def QMv (κ : KK) (wc : va_W) (sz : Nat) (post : va_W → Prop) : Array Value → State → Outcome → State → Prop := va_Qv post (BM κ wc sz) (va_A wc sz)
def QMr (κ : KK) (wc : va_W) (sz : Nat) (post : Nat → va_W → Prop) : Array Value → State → Outcome → State → Prop := va_Qr (fun u : Nat × va_W => post u.1 u.2) (fun u a t => a = u.1 ∧ BM κ wc sz u.2 t) (va_A wc sz)
def XP (es : String → Prop) : String → State → State → Prop := vx_X (fun _ : Unit => True) (fun E _ _ => es E) (fun _ => False)
def CP (l : Launch) (y : MethodName) (cb : ByteArray) (yL : Nat) (yr : Option FieldType) (d : Nat) (κ : KK) (av : List Value) (wc : va_W) (post : Int32 → Prop) : Prop := Met l y [.code y cb yL yr] (rmv d 0 0) (PcP κ av wc) (vp_Si post) 0 0 (fun _ => False)
def CMi (l : Launch) (y : MethodName) (cb : ByteArray) (yL : Nat) (yr : Option FieldType) (d mc ms : Nat) (κ : KK) (av : List Value) (wc : va_W) (post : Int32 → va_W → Prop) : Prop := ∀ sz, Met l y [.code y cb yL yr] (rmv d mc ms) (PcM κ av wc sz) (QMi κ wc sz post) mc ms (va_A wc sz)
def CMv (l : Launch) (y : MethodName) (cb : ByteArray) (yL : Nat) (yr : Option FieldType) (d mc ms : Nat) (κ : KK) (av : List Value) (wc : va_W) (post : va_W → Prop) : Prop := ∀ sz, Met l y [.code y cb yL yr] (rmv d mc ms) (PcM κ av wc sz) (QMv κ wc sz post) mc ms (va_A wc sz)
def CMr (l : Launch) (y : MethodName) (cb : ByteArray) (yL : Nat) (yr : Option FieldType) (d mc ms : Nat) (κ : KK) (av : List Value) (wc : va_W) (post : Nat → va_W → Prop) : Prop := ∀ sz, Met l y [.code y cb yL yr] (rmv d mc ms) (PcM κ av wc sz) (QMr κ wc sz post) mc ms (va_A wc sz)
def CXi (l : Launch) (y : MethodName) (cb : ByteArray) (yL : Nat) (yr : Option FieldType) (d mc ms : Nat) (κ : KK) (av : List Value) (wc : va_W) (es : String → Prop) (post : Int32 → va_W → Prop) : Prop := ∀ sz, vx_Met l y [.code y cb yL yr] (rmv d mc ms) (PcX κ av wc sz) (QMi κ wc sz post) (XP es) mc ms (va_A wc sz)
def CXv (l : Launch) (y : MethodName) (cb : ByteArray) (yL : Nat) (yr : Option FieldType) (d mc ms : Nat) (κ : KK) (av : List Value) (wc : va_W) (es : String → Prop) (post : va_W → Prop) : Prop := ∀ sz, vx_Met l y [.code y cb yL yr] (rmv d mc ms) (PcX κ av wc sz) (QMv κ wc sz post) (XP es) mc ms (va_A wc sz)
theorem ST.call {A : Nat → Prop} {U : State} {g : JFrame} {mk : MethodId} {a : Array Value} (h : ST A U) : ST A (U.calling g mk a) := ⟨vx_Zq.moved (u := U) (U := U.calling g mk a) (Vm.Alike.refl U.vm) h.1, vx_Zq.moved (u := U) (U := U.calling g mk a) (Vm.Alike.refl U.vm) h.2⟩
theorem EV.call {κ : KK} {U : State} {g : JFrame} {mk : MethodId} {a : Array Value} (h : EV κ U) : EV κ (U.calling g mk a) := EV.warm (s := U) (U := U.calling g mk a) (State.WarmedH.refl U) h
theorem ES.call {L : List (String × Nat × String)} {U : State} {g : JFrame} {mk : MethodId} {a : Array Value} (h : ES L U) : ES L (U.calling g mk a) := ES.warm (s := U) (U := U.calling g mk a) (State.WarmedH.refl U) h
theorem PcP.blind {κ : KK} {av : List Value} {wc : va_W} : FrameBlind (PcP κ av wc) := fun _ _ _ _ q => ⟨q.1, q.2.1, q.2.2.call⟩
theorem PcM.blind {κ : KK} {av : List Value} {wc : va_W} {sz : Nat} : FrameBlind (PcM κ av wc sz) := fun _ _ _ _ q => ⟨q.1, q.2.1, q.2.2.1, q.2.2.2.1, q.2.2.2.2.call⟩
theorem PcX.blind {κ : KK} {av : List Value} {wc : va_W} {sz : Nat} : FrameBlind (PcX κ av wc sz) := fun _ _ _ _ q => ⟨q.1, q.2.1, q.2.2.1, q.2.2.2.1, q.2.2.2.2.1.call, q.2.2.2.2.2.1.call, q.2.2.2.2.2.2.call⟩
/-- what a body that may throw knows beside -/
def Cy (l : Launch) (s : State) (c : Code) (A : Nat → Prop) : Prop := l.stackTraces = false ∧ (∀ x ∈ c.exceptionTable.toList, False) ∧ ES strL s ∧ ST A s
theorem cp_of {y : MethodName} {cb : ByteArray} {yL : Nat} {yr : Option FieldType} {d : Nat} {av : List Value} {wc : va_W} {post : Int32 → Prop} (own : String) (hown : y.cls = own) (hy : plainName y.cls = true) (hn : (lg_sl av).length ≤ yL)
    (body : ∀ (p : Program) (e : Env) (s : State) (m : MethodId) (below : List Frame) (meth : Method) (c : Code), Cx p s m meth c κ own cb yL yr → G p l e (rmv d 0 0) s m av.toArray below meth c κ yL (JP s) wc 0 0 (MQ below (vp_Si post) av.toArray s 0 0 (fun _ => False)) 0 (lv_args 0 av) []) : CP l y cb yL yr d κ av wc post := by
  refine Met.ofW (cc := cb) (maxL := yL) (ret := yr) hy rfl ?_
  intro p e s m args below meth c s₁ B hml hv
  obtain ⟨rfl, hP, hE⟩ := hv
  have hl := lv_entry av (n := yL) hn
  rw [lg_entry_eq]
  exact body p e s m below meth c ⟨B.exec, B.bytes, hml, B.returns, B.notSynchronized, by rw [← hown]; exact findClass_of_methodNamed B.named, hE⟩ s.heap [] _ hP ⟨rfl, rfl⟩ hl
theorem cmi_of {y : MethodName} {cb : ByteArray} {yL : Nat} {yr : Option FieldType} {d mc ms : Nat} {av : List Value} {wc : va_W} {post : Int32 → va_W → Prop} (own : String) (hown : y.cls = own) (hy : plainName y.cls = true) (hn : (lg_sl av).length ≤ yL)
    (body : ∀ (p : Program) (e : Env) (s : State) (m : MethodId) (below : List Frame) (meth : Method) (c : Code) (A : Nat → Prop), Cx p s m meth c κ own cb yL yr → A = va_A wc s.heap.size → (∀ q, s.heap.size ≤ q → A q) → (y.name = "<init>" → meth.name = "<init>") → G p l e (rmv d mc ms) s m av.toArray below meth c κ yL (JM A s) wc 0 0 (MQ below (QMi κ wc s.heap.size post) av.toArray s mc ms A) 0 (lv_args 0 av) []) : CMi l y cb yL yr d mc ms κ av wc post := by
  intro sz
  refine Met.ofW (cc := cb) (maxL := yL) (ret := yr) hy rfl ?_
  intro p e s m args below meth c s₁ B hml hv
  obtain ⟨rfl, rfl, hP, hD, hE⟩ := hv
  have hl := lv_entry av (n := yL) hn
  rw [lg_entry_eq]
  exact body p e s m below meth c _ ⟨B.exec, B.bytes, hml, B.returns, B.notSynchronized, by rw [← hown]; exact findClass_of_methodNamed B.named, hE⟩ rfl (fun q h => Or.inr h) (fun h => (name_of_methodNamed B.named B.method).1.trans h) s.heap [] _ hP ⟨hD.self, va_S.rf⟩ hl
theorem cmv_of {y : MethodName} {cb : ByteArray} {yL : Nat} {yr : Option FieldType} {d mc ms : Nat} {av : List Value} {wc : va_W} {post : va_W → Prop} (own : String) (hown : y.cls = own) (hy : plainName y.cls = true) (hn : (lg_sl av).length ≤ yL)
    (body : ∀ (p : Program) (e : Env) (s : State) (m : MethodId) (below : List Frame) (meth : Method) (c : Code) (A : Nat → Prop), Cx p s m meth c κ own cb yL yr → A = va_A wc s.heap.size → (∀ q, s.heap.size ≤ q → A q) → (y.name = "<init>" → meth.name = "<init>") → G p l e (rmv d mc ms) s m av.toArray below meth c κ yL (JM A s) wc 0 0 (MQ below (QMv κ wc s.heap.size post) av.toArray s mc ms A) 0 (lv_args 0 av) []) : CMv l y cb yL yr d mc ms κ av wc post := by
  intro sz
  refine Met.ofW (cc := cb) (maxL := yL) (ret := yr) hy rfl ?_
  intro p e s m args below meth c s₁ B hml hv
  obtain ⟨rfl, rfl, hP, hD, hE⟩ := hv
  have hl := lv_entry av (n := yL) hn
  rw [lg_entry_eq]
  exact body p e s m below meth c _ ⟨B.exec, B.bytes, hml, B.returns, B.notSynchronized, by rw [← hown]; exact findClass_of_methodNamed B.named, hE⟩ rfl (fun q h => Or.inr h) (fun h => (name_of_methodNamed B.named B.method).1.trans h) s.heap [] _ hP ⟨hD.self, va_S.rf⟩ hl
theorem cmr_of {y : MethodName} {cb : ByteArray} {yL : Nat} {yr : Option FieldType} {d mc ms : Nat} {av : List Value} {wc : va_W} {post : Nat → va_W → Prop} (own : String) (hown : y.cls = own) (hy : plainName y.cls = true) (hn : (lg_sl av).length ≤ yL)
    (body : ∀ (p : Program) (e : Env) (s : State) (m : MethodId) (below : List Frame) (meth : Method) (c : Code) (A : Nat → Prop), Cx p s m meth c κ own cb yL yr → A = va_A wc s.heap.size → (∀ q, s.heap.size ≤ q → A q) → G p l e (rmv d mc ms) s m av.toArray below meth c κ yL (JM A s) wc 0 0 (MQ below (QMr κ wc s.heap.size post) av.toArray s mc ms A) 0 (lv_args 0 av) []) : CMr l y cb yL yr d mc ms κ av wc post := by
  intro sz
  refine Met.ofW (cc := cb) (maxL := yL) (ret := yr) hy rfl ?_
  intro p e s m args below meth c s₁ B hml hv
  obtain ⟨rfl, rfl, hP, hD, hE⟩ := hv
  have hl := lv_entry av (n := yL) hn
  rw [lg_entry_eq]
  exact body p e s m below meth c _ ⟨B.exec, B.bytes, hml, B.returns, B.notSynchronized, by rw [← hown]; exact findClass_of_methodNamed B.named, hE⟩ rfl (fun q h => Or.inr h) s.heap [] _ hP ⟨hD.self, va_S.rf⟩ hl
theorem cxi_of {y : MethodName} {cb : ByteArray} {yL : Nat} {yr : Option FieldType} {d mc ms : Nat} {av : List Value} {wc : va_W} {es : String → Prop} {post : Int32 → va_W → Prop} (hst : l.stackTraces = false) (own : String) (hown : y.cls = own) (hy : plainName y.cls = true) (hn : (lg_sl av).length ≤ yL)
    (body : ∀ (p : Program) (e : Env) (s : State) (m : MethodId) (below : List Frame) (meth : Method) (c : Code) (A : Nat → Prop), Cx p s m meth c κ own cb yL yr → Cy l s c A → A = va_A wc s.heap.size → (∀ q, s.heap.size ≤ q → A q) → G p l e (rmv d mc ms) s m av.toArray below meth c κ yL (JM A s) wc 0 0 (vx_MQ below (QMi κ wc s.heap.size post) (XP es) av.toArray s mc ms A) 0 (lv_args 0 av) []) : CXi l y cb yL yr d mc ms κ av wc es post := by
  intro sz
  refine vx_ofW (cc := cb) (maxL := yL) (ret := yr) hy rfl ?_
  intro p e s m args below meth c s₁ B hml ht hv
  obtain ⟨rfl, rfl, hP, hD, hE, hS, hT⟩ := hv
  have hl := lv_entry av (n := yL) hn
  rw [lg_entry_eq]
  exact body p e s m below meth c _ ⟨B.exec, B.bytes, hml, B.returns, B.notSynchronized, by rw [← hown]; exact findClass_of_methodNamed B.named, hE⟩ ⟨hst, ht, hS, hT⟩ rfl (fun q h => Or.inr h) s.heap [] _ hP ⟨hD.self, va_S.rf⟩ hl
theorem cxv_of {y : MethodName} {cb : ByteArray} {yL : Nat} {yr : Option FieldType} {d mc ms : Nat} {av : List Value} {wc : va_W} {es : String → Prop} {post : va_W → Prop} (hst : l.stackTraces = false) (own : String) (hown : y.cls = own) (hy : plainName y.cls = true) (hn : (lg_sl av).length ≤ yL)
    (body : ∀ (p : Program) (e : Env) (s : State) (m : MethodId) (below : List Frame) (meth : Method) (c : Code) (A : Nat → Prop), Cx p s m meth c κ own cb yL yr → Cy l s c A → A = va_A wc s.heap.size → (∀ q, s.heap.size ≤ q → A q) → G p l e (rmv d mc ms) s m av.toArray below meth c κ yL (JM A s) wc 0 0 (vx_MQ below (QMv κ wc s.heap.size post) (XP es) av.toArray s mc ms A) 0 (lv_args 0 av) []) : CXv l y cb yL yr d mc ms κ av wc es post := by
  intro sz
  refine vx_ofW (cc := cb) (maxL := yL) (ret := yr) hy rfl ?_
  intro p e s m args below meth c s₁ B hml ht hv
  obtain ⟨rfl, rfl, hP, hD, hE, hS, hT⟩ := hv
  have hl := lv_entry av (n := yL) hn
  rw [lg_entry_eq]
  exact body p e s m below meth c _ ⟨B.exec, B.bytes, hml, B.returns, B.notSynchronized, by rw [← hown]; exact findClass_of_methodNamed B.named, hE⟩ ⟨hst, ht, hS, hT⟩ rfl (fun q h => Or.inr h) s.heap [] _ hP ⟨hD.self, va_S.rf⟩ hl
/-! ends -/
theorem g_retP (C : Cx p s m meth c κ own cc nL ret) {v : Int32} {ty : FieldType} {post : Int32 → Prop} (hr : ret = some ty) (hn : narrow ty (.int v) = .int v) (hq : post v) (hd : decode cc pc = .ok (.ireturn, 1)) : G p l e R s m args below meth c κ nL (JP s) ws 0 0 (MQ below (vp_Si post) args s 0 0 (fun _ => False)) pc lv [.int v] :=
  fun H locs ls hP hJ hl => W.zret C.1 C.2.1 (C.2.2.2.1.trans hr) hn (fun t ht _ => ⟨v, rfl, hq, ht.trans hJ.1⟩) (fun q hq => by rw [hJ.2] at hq; cases hq) hd C.2.2.2.2.1
theorem g_retMi (C : Cx p s m meth c κ own cc nL ret) {A : Nat → Prop} {v : Int32} {ty : FieldType} {wc : va_W} {mc ms : Nat} {post : Int32 → va_W → Prop} (hAe : A = va_A wc s.heap.size) (hr : ret = some ty) (hn : narrow ty (.int v) = .int v) (h1 : k ≤ mc) (h2 : n ≤ ms) (hq : post v ws) (hd : decode cc pc = .ok (.ireturn, 1)) : G p l e R s m args below meth c κ nL (JM A s) ws k n (MQ below (QMi κ wc s.heap.size post) args s mc ms A) pc lv [.int v] := by
  subst hAe
  exact fun H locs ls hP hJ hl => W.widen h1 h2 (W.zret C.1 C.2.1 (C.2.2.2.1.trans hr) hn (fun t ht _ => ⟨⟨v, ws, rfl, hq, by rw [ht]; exact hP, hJ.1⟩, hJ.2.F ht⟩) hJ.2.2.2 hd C.2.2.2.2.1)
theorem g_retMv (C : Cx p s m meth c κ own cc nL ret) {A : Nat → Prop} {wc : va_W} {mc ms : Nat} {post : va_W → Prop} (hAe : A = va_A wc s.heap.size) (hr : ret = none) (h1 : k ≤ mc) (h2 : n ≤ ms) (hq : post ws) (hd : decode cc pc = .ok (.return_, 1)) : G p l e R s m args below meth c κ nL (JM A s) ws k n (MQ below (QMv κ wc s.heap.size post) args s mc ms A) pc lv [] := by
  subst hAe
  exact fun H locs ls hP hJ hl => W.widen h1 h2 (W.vret C.1 C.2.1 (C.2.2.2.1.trans hr) (fun t ht _ => ⟨⟨ws, rfl, hq, by rw [ht]; exact hP, hJ.1⟩, hJ.2.F ht⟩) hJ.2.2.2 hd C.2.2.2.2.1)
theorem g_retMr (C : Cx p s m meth c κ own cc nL ret) {A : Nat → Prop} {a : Nat} {rt : FieldType} {wc : va_W} {mc ms : Nat} {post : Nat → va_W → Prop} (hAe : A = va_A wc s.heap.size) (hr : ret = some rt) (hrt : (∃ z, rt = .object z) ∨ ∃ t, rt = .array t) (h1 : k ≤ mc) (h2 : n ≤ ms) (hq : post a ws) (hd : decode cc pc = .ok (.areturn, 1)) : G p l e R s m args below meth c κ nL (JM A s) ws k n (MQ below (QMr κ wc s.heap.size post) args s mc ms A) pc lv [.ref a] := by
  subst hAe
  exact fun H locs ls hP hJ hl => W.widen h1 h2 (W.aret C.1 C.2.1 (C.2.2.2.1.trans hr) hrt (Or.inr ⟨a, rfl⟩) (fun t ht _ => ⟨⟨(a, ws), a, rfl, hq, rfl, by rw [ht]; exact hP, hJ.1⟩, hJ.2.F ht⟩) hJ.2.2.2 hd C.2.2.2.2.1)
theorem g_x {Qc : Array Value → State → Outcome → State → Prop} {XC : String → State → State → Prop} {mc ms : Nat} {free : Addr → Prop} (K : G p l e R s m args below meth c κ nL J ws k n (MQ below Qc args s mc ms free) pc lv st) : G p l e R s m args below meth c κ nL J ws k n (vx_MQ below Qc XC args s mc ms free) pc lv st := fun H locs ls hP hJ hl T hT X => by
  obtain ⟨t, a1, o, b1, b2, b3, b4⟩ := K H locs ls hP hJ hl T hT X
  exact ⟨t, a1, o, b1, b2, Or.inl ⟨b3, b4⟩⟩
/-! links -/
def hdY (y : MethodName) (nA : Nat) : Prop := y.cls ≠ "java/lang/invoke/MethodHandle" ∧ y.cls ≠ "java/lang/invoke/VarHandle" ∧ (parseMethodDescriptor y.desc).map (fun d => d.parameters.length) = some nA
def LV (own : String) (idx : Nat) (y : MethodName) (cb : ByteArray) (yL : Nat) (yr : Option FieldType) (nA : Nat) : Prop := (Cond.methodLink own idx y ∈ T1 ∨ ∃ host, Cond.methodLinkNest own idx y host ∈ T1) ∧ Cond.instanceMethod y ∈ T1 ∧ Cond.selects y.cls y y ∈ T1 ∧ Cond.initialized y.cls ∈ T1 ∧ Cond.code y cb yL yr ∈ T1 ∧ hdY y nA
def LI (own : String) (idx : Nat) (y : MethodName) (cb : ByteArray) (yL : Nat) (nA : Nat) : Prop := (Cond.methodLink own idx y ∈ T1 ∨ ∃ host, Cond.methodLinkNest own idx y host ∈ T1) ∧ Cond.instanceMethod y ∈ T1 ∧ Cond.initialized y.cls ∈ T1 ∧ Cond.code y cb yL none ∈ T1 ∧ y.name = "<init>" ∧ hdY y nA
def LSt (own : String) (idx : Nat) (y : MethodName) (cb : ByteArray) (yL : Nat) (yr : Option FieldType) (nA : Nat) : Prop := (Cond.methodLink own idx y ∈ T1 ∨ ∃ host, Cond.methodLinkNest own idx y host ∈ T1) ∧ Cond.static y ∈ T1 ∧ Cond.initialized y.cls ∈ T1 ∧ Cond.code y cb yL yr ∈ T1 ∧ hdY y nA
theorem T1.code {y : MethodName} {cb : ByteArray} {yL : Nat} {yr : Option FieldType} (h : Cond.code y cb yL yr ∈ T1) : GoodIn T1 [Cond.code y cb yL yr] := fun w hw => by
  rw [List.mem_singleton] at hw
  subst hw
  exact ⟨h, Or.inl rfl⟩
theorem cb_of (C : Cx p s m meth c κ own cc nL ret) {idx : Nat} {y : MethodName} {cb : ByteArray} {yL : Nat} {yr : Option FieldType} {nA d mc ms : Nat} (h1 : Cond.methodLink own idx y ∈ T1) (h4 : Cond.initialized y.cls ∈ T1) (h5 : Cond.code y cb yL yr ∈ T1) (h6 : hdY y nA) (hR : d + 9 ≤ R.frames ∧ 219 + yL + 40 * d ≤ R.locals) : CallB R s args own idx y cb yL yr [.code y cb yL yr] (rmv d mc ms) mc ms nA :=
  callB_of nA (fun w hw => C.2.2.2.2.2.2.2 w hw args) (T1.code h5) rfl rfl rfl (C.2.2.2.2.2.2.2 _ h4 args) (C.2.2.2.2.2.2.2 _ h1 args) h6 ⟨by show d + 8 + 1 ≤ _; omega, by show 8 + (yL + 11) + (200 + 40 * d) ≤ _; omega⟩
theorem cn_of (C : Cx p s m meth c κ own cc nL ret) {idx : Nat} {y : MethodName} {cb : ByteArray} {yL : Nat} {yr : Option FieldType} {nA d mc ms : Nat} {host : String} (h1 : Cond.methodLinkNest own idx y host ∈ T1) (h4 : Cond.initialized y.cls ∈ T1) (h5 : Cond.code y cb yL yr ∈ T1) (h6 : hdY y nA) (hR : d + 9 ≤ R.frames ∧ 219 + yL + 40 * d ≤ R.locals) : va_CN R s args own idx y host cb yL yr [.code y cb yL yr] (rmv d mc ms) mc ms nA :=
  va_cnB nA (fun w hw => C.2.2.2.2.2.2.2 w hw args) (T1.code h5) rfl rfl rfl (C.2.2.2.2.2.2.2 _ h1 #[]) (C.2.2.2.2.2.2.2 _ h4 args) h6 ⟨by show d + 8 + 1 ≤ _; omega, by show 8 + (yL + 11) + (200 + 40 * d) ≤ _; omega⟩
theorem g_runV (C : Cx p s m meth c κ own cc nL ret) {idx : Nat} {y : MethodName} {cb : ByteArray} {yL : Nat} {yr : Option FieldType} {nA d mc ms : Nat} (L : LV own idx y cb yL yr nA) {Pc : Array Value → State → Prop} {Qc : Array Value → State → Outcome → State → Prop} {free : Addr → Prop} (hM : Met l y [.code y cb yL yr] (rmv d mc ms) Pc Qc mc ms free) {H : Heap} {locs : List Loc} {ls : Array Slot} {b : Nat} {av : List Value} (hp : PreV s H y.cls b Pc av) (hlen : av.length = nA) (hls : ls.size = nL) (hcat : (st.map fun v => v.category).sum ≤ 8) (hR : d + 9 ≤ R.frames ∧ 219 + yL + 40 * d ≤ R.locals) (hf : k + mc ≤ R.cells ∧ n + ms ≤ R.slots) {stk : List Value} (hst : av.reverse ++ .ref b :: st = stk) (hd : decode cc pc = .ok (.invokevirtual idx, 3)) :
    va_Run p l e R s m args below meth c H locs k n mc ms (F0 m pc ls stk) st (Qc (Value.ref b :: av).toArray) free := by
  subst hst
  obtain ⟨h1, h2, h3, h4, h5, h6⟩ := L
  have S : CallFix p m c cc nL s args T1 own := ⟨C.1, C.2.1, C.2.2.1, C.2.2.2.2.2.1, fun w hw => C.2.2.2.2.2.2.2 w hw args⟩
  rcases h1 with h1 | ⟨host, h1⟩
  · exact va_runV S hM ⟨cb_of C h1 h4 h5 h6 hR, C.2.2.2.2.2.2.2 _ h2 args, C.2.2.2.2.2.2.2 _ h3 args⟩ hp rfl hlen hls rfl (lv_room hcat) hd hf
  · exact va_runVN S hM ⟨cn_of C h1 h4 h5 h6 hR, C.2.2.2.2.2.2.2 _ h2 args, C.2.2.2.2.2.2.2 _ h3 args⟩ hp rfl hlen hls rfl (lv_room hcat) hd hf
theorem g_runS (C : Cx p s m meth c κ own cc nL ret) {idx : Nat} {y : MethodName} {cb : ByteArray} {yL : Nat} {yr : Option FieldType} {nA d mc ms : Nat} (L : LSt own idx y cb yL yr nA) {Pc : Array Value → State → Prop} {Qc : Array Value → State → Outcome → State → Prop} {free : Addr → Prop} (hM : Met l y [.code y cb yL yr] (rmv d mc ms) Pc Qc mc ms free) {H : Heap} {locs : List Loc} {ls : Array Slot} {av : List Value} (hp : PreS s H Pc av) (hlen : av.length = nA) (hls : ls.size = nL) (hcat : (st.map fun v => v.category).sum ≤ 8) (hR : d + 9 ≤ R.frames ∧ 219 + yL + 40 * d ≤ R.locals) (hf : k + mc ≤ R.cells ∧ n + ms ≤ R.slots) {stk : List Value} (hst : av.reverse ++ st = stk) (hd : decode cc pc = .ok (.invokestatic idx, 3)) :
    va_Run p l e R s m args below meth c H locs k n mc ms (F0 m pc ls stk) st (Qc av.toArray) free := by
  subst hst
  obtain ⟨h1, h2, h4, h5, h6⟩ := L
  have S : CallFix p m c cc nL s args T1 own := ⟨C.1, C.2.1, C.2.2.1, C.2.2.2.2.2.1, fun w hw => C.2.2.2.2.2.2.2 w hw args⟩
  rcases h1 with h1 | ⟨host, h1⟩
  · exact va_runS S hM ⟨cb_of C h1 h4 h5 h6 hR, C.2.2.2.2.2.2.2 _ h2 args⟩ hp rfl hlen hls rfl (lv_room hcat) hd hf
  · exact va_runSN S hM ⟨cn_of C h1 h4 h5 h6 hR, C.2.2.2.2.2.2.2 _ h2 args, trivial⟩ hp rfl hlen hls rfl (lv_room hcat) hd hf
theorem g_runI (C : Cx p s m meth c κ own cc nL ret) {idx : Nat} {y : MethodName} {cb : ByteArray} {yL : Nat} {nA d mc ms : Nat} (L : LI own idx y cb yL nA) {Pc : Array Value → State → Prop} {Qc : Array Value → State → Outcome → State → Prop} {free : Addr → Prop} (hM : Met l y [.code y cb yL none] (rmv d mc ms) Pc Qc mc ms free) {H : Heap} {locs : List Loc} {ls : Array Slot} {b : Nat} {av : List Value} (hp : PreS s H Pc (.ref b :: av)) (hlen : av.length = nA) (hls : ls.size = nL) (hcat : (st.map fun v => v.category).sum ≤ 8) (hR : d + 9 ≤ R.frames ∧ 219 + yL + 40 * d ≤ R.locals) (hf : k + mc ≤ R.cells ∧ n + ms ≤ R.slots) {stk : List Value} (hst : av.reverse ++ .ref b :: st = stk) (hd : decode cc pc = .ok (.invokespecial idx, 3)) :
    va_Run p l e R s m args below meth c H locs k n mc ms (F0 m pc ls stk) st (Qc (Value.ref b :: av).toArray) free := by
  subst hst
  obtain ⟨h1, h2, h4, h5, h6, h7⟩ := L
  have S : CallFix p m c cc nL s args T1 own := ⟨C.1, C.2.1, C.2.2.1, C.2.2.2.2.2.1, fun w hw => C.2.2.2.2.2.2.2 w hw args⟩
  rcases h1 with h1 | ⟨host, h1⟩
  · exact va_runI S hM ⟨cb_of C h1 h4 h5 h7 hR, h6, C.2.2.2.2.2.2.2 _ h2 args⟩ hp rfl hlen hls rfl (lv_room hcat) hd hf
  · exact va_runIN S hM ⟨cn_of C h1 h4 h5 h7 hR, h6, C.2.2.2.2.2.2.2 _ h2 args⟩ hp rfl hlen hls rfl (lv_room hcat) hd hf
theorem g_recv (C : Cx p s m meth c κ own cc nL ret) {H : Heap} (hP : va_P κ.1 vwCl ws H) (q0 : Nat) {b ci : Nat} {fs : List Value} (he : ws[q0]? = some (b, .inr (ci, fs))) {Y : String} (hc : (vwCl[ci]?).map (fun q => q.1) = some Y) : ∃ cellB : Cell, H[b]? = some cellB ∧ cellB.vm.isStatics = false ∧ s.vm.findClass Y = some cellB.cls := by
  cases h : vwCl[ci]? with
  | none => rw [h] at hc; cases hc
  | some q =>
    rw [h] at hc
    have e : q.1 = Y := Option.some.inj hc
    subst e
    exact va_recv C.2.2.2.2.2.2.1 hP (ci := ci) (q0 := q0) h he
/-! calls of pure methods -/
theorem g_callP (C : Cx p s m meth c κ own cc nL ret) {idx : Nat} {y : MethodName} {cb : ByteArray} {yL : Nat} {yr : Option FieldType} {nA d : Nat} (L : LV own idx y cb yL yr nA) {b : Nat} {av : List Value} {wc : va_W} {post : Int32 → Prop} (hM : CP l y cb yL yr d κ (.ref b :: av) wc post) (q0 : Nat) {ci : Nat} {fs : List Value} (he : ws[q0]? = some (b, .inr (ci, fs))) (hc : (vwCl[ci]?).map (fun q => q.1) = some y.cls) (is : List Nat) (hs : is.filterMap (fun i => ws[i]?) = wc) (hlen : av.length = nA) (hcat : (st.map fun v => v.category).sum ≤ 8) (hR : d + 9 ≤ R.frames ∧ 219 + yL + 40 * d ≤ R.locals) (hf : k ≤ R.cells ∧ n ≤ R.slots) {stk : List Value} (hst : av.reverse ++ .ref b :: st = stk) (hd : decode cc pc = .ok (.invokevirtual idx, 3)) (hp : pc + 3 = pc') (K : ∀ r, post r → G p l e R s m args below meth c κ nL J ws k n Q pc' lv (.int r :: st)) : G p l e R s m args below meth c κ nL J ws k n Q pc lv stk := by
  subst hp
  intro H locs ls hP hJ hl
  have hPc := hP.sub is hs
  exact vp_callSi (va_Run.run (g_runV C L hM ⟨PcP.blind, g_recv C hP q0 he hc, fun U hU hW => ⟨rfl, by rw [hU]; exact hPc, C.2.2.2.2.2.2.warm hW⟩⟩ hlen hl.1 hcat hR hf hst hd)) (fun r hr => K r hr H locs ls hP hJ hl)
theorem g_callPS (C : Cx p s m meth c κ own cc nL ret) {idx : Nat} {y : MethodName} {cb : ByteArray} {yL : Nat} {yr : Option FieldType} {nA d : Nat} (L : LSt own idx y cb yL yr nA) {av : List Value} {wc : va_W} {post : Int32 → Prop} (hM : CP l y cb yL yr d κ av wc post) (is : List Nat) (hs : is.filterMap (fun i => ws[i]?) = wc) (hlen : av.length = nA) (hcat : (st.map fun v => v.category).sum ≤ 8) (hR : d + 9 ≤ R.frames ∧ 219 + yL + 40 * d ≤ R.locals) (hf : k ≤ R.cells ∧ n ≤ R.slots) {stk : List Value} (hst : av.reverse ++ st = stk) (hd : decode cc pc = .ok (.invokestatic idx, 3)) (hp : pc + 3 = pc') (K : ∀ r, post r → G p l e R s m args below meth c κ nL J ws k n Q pc' lv (.int r :: st)) : G p l e R s m args below meth c κ nL J ws k n Q pc lv stk := by
  subst hp
  intro H locs ls hP hJ hl
  have hPc := hP.sub is hs
  exact vp_callSi (va_Run.run (g_runS C L hM ⟨PcP.blind, fun U hU hW => ⟨rfl, by rw [hU]; exact hPc, C.2.2.2.2.2.2.warm hW⟩⟩ hlen hl.1 hcat hR hf hst hd)) (fun r hr => K r hr H locs ls hP hJ hl)
/-! calls of writing methods -/
theorem sub_of {ws wc : va_W} {is : List Nat} (h : is.map (fun i => ws[i]?) = wc.map some) : is.filterMap (fun i => ws[i]?) = wc := by
  have h2 := congrArg (List.filterMap id) h
  rw [List.filterMap_map, List.filterMap_map] at h2
  simpa using h2
theorem g_preM (C : Cx p s m meth c κ own cc nL ret) {H : Heap} {A : Nat → Prop} {locs : List Loc} (hP : va_P κ.1 vwCl ws H) (hJ : JM A s ws H locs) {wc : va_W} {is : List Nat} (hC : is.map (fun i => ws[i]?) = wc.map some) (hn : va_nd is = true) (av : List Value) : ∀ U : State, U.heap = H → s.WarmedH U.vm → PcM κ av wc H.size av.toArray U :=
  fun U hU hW => ⟨rfl, by rw [hU], by rw [hU]; exact hP.sub is (sub_of hC), (hJ.1.sub is hn hC).weaken (fun _ _ _ _ => trivial), C.2.2.2.2.2.2.warm hW⟩
theorem g_callMi (C : Cx p s m meth c κ own cc nL ret) {A : Nat → Prop} (hA : ∀ q, s.heap.size ≤ q → A q) {idx : Nat} {y : MethodName} {cb : ByteArray} {yL : Nat} {yr : Option FieldType} {nA d mc ms : Nat} (L : LV own idx y cb yL yr nA) {b : Nat} {av : List Value} {wc wr : va_W} {post : Int32 → va_W → Prop} (hM : CMi l y cb yL yr d mc ms κ (.ref b :: av) wc post) (q0 : Nat) {ci : Nat} {fs : List Value} (he : ws[q0]? = some (b, .inr (ci, fs))) (hc : (vwCl[ci]?).map (fun q => q.1) = some y.cls) (isC isR : List Nat) (hC : isC.map (fun i => ws[i]?) = wc.map some) (hRr : isR.map (fun i => ws[i]?) = wr.map some) (hnd : va_nd isC = true ∧ va_nd isR = true ∧ ∀ i ∈ isR, i ∉ isC) (hlen : av.length = nA) (hcat : (st.map fun v => v.category).sum ≤ 8) (hR : d + 9 ≤ R.frames ∧ 219 + yL + 40 * d ≤ R.locals) (hf : k + mc ≤ R.cells ∧ n + ms ≤ R.slots) {stk : List Value} (hst : av.reverse ++ .ref b :: st = stk) (hd : decode cc pc = .ok (.invokevirtual idx, 3)) (hp : pc + 3 = pc') (K : ∀ r w1, post r w1 → G p l e R s m args below meth c κ nL (JM A s) (wr ++ w1) (k + mc) (n + ms) Q pc' lv (.int r :: st)) : G p l e R s m args below meth c κ nL (JM A s) ws k n Q pc lv stk := by
  subst hp
  intro H locs ls hP hJ hl
  have hF := va_free hJ.1 hJ.2 hA isC hC
  refine va_calli (g_runV C L (hM H.size) ⟨PcM.blind, g_recv C hP q0 he hc, g_preM C hP hJ hC hnd.1 _⟩ hlen hl.1 hcat hR hf hst hd) hJ.2 (fun q _ h => hF q h) hF (fun r u t H1 locs1 ht hvm hw hB hz1 hk1 hS1 => ?_)
  obtain ⟨hP1, hD1⟩ := va_join hP hJ.1 isC isR hC hRr hnd.2.1 hnd.2.2 hk1 hF (by rw [← ht]; exact hB.1) hB.2
  exact K r u hw H1 locs1 ls hP1 ⟨hD1, hS1⟩ hl
theorem g_callMv (C : Cx p s m meth c κ own cc nL ret) {A : Nat → Prop} (hA : ∀ q, s.heap.size ≤ q → A q) {idx : Nat} {y : MethodName} {cb : ByteArray} {yL : Nat} {yr : Option FieldType} {nA d mc ms : Nat} (L : LV own idx y cb yL yr nA) {b : Nat} {av : List Value} {wc wr : va_W} {post : va_W → Prop} (hM : CMv l y cb yL yr d mc ms κ (.ref b :: av) wc post) (q0 : Nat) {ci : Nat} {fs : List Value} (he : ws[q0]? = some (b, .inr (ci, fs))) (hc : (vwCl[ci]?).map (fun q => q.1) = some y.cls) (isC isR : List Nat) (hC : isC.map (fun i => ws[i]?) = wc.map some) (hRr : isR.map (fun i => ws[i]?) = wr.map some) (hnd : va_nd isC = true ∧ va_nd isR = true ∧ ∀ i ∈ isR, i ∉ isC) (hlen : av.length = nA) (hcat : (st.map fun v => v.category).sum ≤ 8) (hR : d + 9 ≤ R.frames ∧ 219 + yL + 40 * d ≤ R.locals) (hf : k + mc ≤ R.cells ∧ n + ms ≤ R.slots) {stk : List Value} (hst : av.reverse ++ .ref b :: st = stk) (hd : decode cc pc = .ok (.invokevirtual idx, 3)) (hp : pc + 3 = pc') (K : ∀ w1, post w1 → G p l e R s m args below meth c κ nL (JM A s) (wr ++ w1) (k + mc) (n + ms) Q pc' lv st) : G p l e R s m args below meth c κ nL (JM A s) ws k n Q pc lv stk := by
  subst hp
  intro H locs ls hP hJ hl
  have hF := va_free hJ.1 hJ.2 hA isC hC
  refine va_callv (g_runV C L (hM H.size) ⟨PcM.blind, g_recv C hP q0 he hc, g_preM C hP hJ hC hnd.1 _⟩ hlen hl.1 hcat hR hf hst hd) hJ.2 (fun q _ h => hF q h) hF (fun u t H1 locs1 ht hvm hw hB hz1 hk1 hS1 => ?_)
  obtain ⟨hP1, hD1⟩ := va_join hP hJ.1 isC isR hC hRr hnd.2.1 hnd.2.2 hk1 hF (by rw [← ht]; exact hB.1) hB.2
  exact K u hw H1 locs1 ls hP1 ⟨hD1, hS1⟩ hl
theorem g_callMSv (C : Cx p s m meth c κ own cc nL ret) {A : Nat → Prop} (hA : ∀ q, s.heap.size ≤ q → A q) {idx : Nat} {y : MethodName} {cb : ByteArray} {yL : Nat} {yr : Option FieldType} {nA d mc ms : Nat} (L : LSt own idx y cb yL yr nA) {av : List Value} {wc wr : va_W} {post : va_W → Prop} (hM : CMv l y cb yL yr d mc ms κ av wc post) (isC isR : List Nat) (hC : isC.map (fun i => ws[i]?) = wc.map some) (hRr : isR.map (fun i => ws[i]?) = wr.map some) (hnd : va_nd isC = true ∧ va_nd isR = true ∧ ∀ i ∈ isR, i ∉ isC) (hlen : av.length = nA) (hcat : (st.map fun v => v.category).sum ≤ 8) (hR : d + 9 ≤ R.frames ∧ 219 + yL + 40 * d ≤ R.locals) (hf : k + mc ≤ R.cells ∧ n + ms ≤ R.slots) {stk : List Value} (hst : av.reverse ++ st = stk) (hd : decode cc pc = .ok (.invokestatic idx, 3)) (hp : pc + 3 = pc') (K : ∀ w1, post w1 → G p l e R s m args below meth c κ nL (JM A s) (wr ++ w1) (k + mc) (n + ms) Q pc' lv st) : G p l e R s m args below meth c κ nL (JM A s) ws k n Q pc lv stk := by
  subst hp
  intro H locs ls hP hJ hl
  have hF := va_free hJ.1 hJ.2 hA isC hC
  refine va_callv (g_runS C L (hM H.size) ⟨PcM.blind, g_preM C hP hJ hC hnd.1 _⟩ hlen hl.1 hcat hR hf hst hd) hJ.2 (fun q _ h => hF q h) hF (fun u t H1 locs1 ht hvm hw hB hz1 hk1 hS1 => ?_)
  obtain ⟨hP1, hD1⟩ := va_join hP hJ.1 isC isR hC hRr hnd.2.1 hnd.2.2 hk1 hF (by rw [← ht]; exact hB.1) hB.2
  exact K u hw H1 locs1 ls hP1 ⟨hD1, hS1⟩ hl
theorem g_callMSr (C : Cx p s m meth c κ own cc nL ret) {A : Nat → Prop} (hA : ∀ q, s.heap.size ≤ q → A q) {idx : Nat} {y : MethodName} {cb : ByteArray} {yL : Nat} {yr : Option FieldType} {nA d mc ms : Nat} (L : LSt own idx y cb yL yr nA) {av : List Value} {wc wr : va_W} {post : Nat → va_W → Prop} (hM : CMr l y cb yL yr d mc ms κ av wc post) (isC isR : List Nat) (hC : isC.map (fun i => ws[i]?) = wc.map some) (hRr : isR.map (fun i => ws[i]?) = wr.map some) (hnd : va_nd isC = true ∧ va_nd isR = true ∧ ∀ i ∈ isR, i ∉ isC) (hlen : av.length = nA) (hcat : (st.map fun v => v.category).sum ≤ 8) (hR : d + 9 ≤ R.frames ∧ 219 + yL + 40 * d ≤ R.locals) (hf : k + mc ≤ R.cells ∧ n + ms ≤ R.slots) {stk : List Value} (hst : av.reverse ++ st = stk) (hd : decode cc pc = .ok (.invokestatic idx, 3)) (hp : pc + 3 = pc') (K : ∀ a w1, post a w1 → G p l e R s m args below meth c κ nL (JM A s) (wr ++ w1) (k + mc) (n + ms) Q pc' lv (.ref a :: st)) : G p l e R s m args below meth c κ nL (JM A s) ws k n Q pc lv stk := by
  subst hp
  intro H locs ls hP hJ hl
  have hF := va_free hJ.1 hJ.2 hA isC hC
  refine va_callr (g_runS C L (hM H.size) ⟨PcM.blind, g_preM C hP hJ hC hnd.1 _⟩ hlen hl.1 hcat hR hf hst hd) hJ.2 (fun q _ h => hF q h) hF (fun u a t H1 locs1 ht hvm hw hB hz1 hk1 hS1 => ?_)
  obtain ⟨rfl, hB⟩ := hB
  obtain ⟨hP1, hD1⟩ := va_join hP hJ.1 isC isR hC hRr hnd.2.1 hnd.2.2 hk1 hF (by rw [← ht]; exact hB.1) hB.2
  exact K u.1 u.2 hw H1 locs1 ls hP1 ⟨hD1, hS1⟩ hl
theorem g_callMI (C : Cx p s m meth c κ own cc nL ret) {A : Nat → Prop} (hA : ∀ q, s.heap.size ≤ q → A q) {idx : Nat} {y : MethodName} {cb : ByteArray} {yL nA d mc ms : Nat} (L : LI own idx y cb yL nA) {b : Nat} {av : List Value} {wc wr : va_W} {post : va_W → Prop} (hM : CMv l y cb yL none d mc ms κ (.ref b :: av) wc post) (isC isR : List Nat) (hC : isC.map (fun i => ws[i]?) = wc.map some) (hRr : isR.map (fun i => ws[i]?) = wr.map some) (hnd : va_nd isC = true ∧ va_nd isR = true ∧ ∀ i ∈ isR, i ∉ isC) (hlen : av.length = nA) (hcat : (st.map fun v => v.category).sum ≤ 8) (hR : d + 9 ≤ R.frames ∧ 219 + yL + 40 * d ≤ R.locals) (hf : k + mc ≤ R.cells ∧ n + ms ≤ R.slots) {stk : List Value} (hst : av.reverse ++ .ref b :: st = stk) (hd : decode cc pc = .ok (.invokespecial idx, 3)) (hp : pc + 3 = pc') (K : ∀ w1, post w1 → G p l e R s m args below meth c κ nL (JM A s) (wr ++ w1) (k + mc) (n + ms) Q pc' lv st) : G p l e R s m args below meth c κ nL (JM A s) ws k n Q pc lv stk := by
  subst hp
  intro H locs ls hP hJ hl
  have hF := va_free hJ.1 hJ.2 hA isC hC
  refine va_callv (g_runI C L (hM H.size) ⟨PcM.blind, g_preM C hP hJ hC hnd.1 _⟩ hlen hl.1 hcat hR hf hst hd) hJ.2 (fun q _ h => hF q h) hF (fun u t H1 locs1 ht hvm hw hB hz1 hk1 hS1 => ?_)
  obtain ⟨hP1, hD1⟩ := va_join hP hJ.1 isC isR hC hRr hnd.2.1 hnd.2.2 hk1 hF (by rw [← ht]; exact hB.1) hB.2
  exact K u hw H1 locs1 ls hP1 ⟨hD1, hS1⟩ hl
end GR
end
section
theorem inT_RX0 : ∀ w ∈ u_ws RX0 TX0 2, w ∈ T1 := wdL [160, 162] (by decide +kernel) (by decide +kernel)
theorem inT_RX1 : ∀ w ∈ u_ws RX1 TX1 2, w ∈ T1 := wdL [146, 148] (by decide +kernel) (by decide +kernel)
theorem inT_RX3 : ∀ w ∈ u_ws RX3 TX3 2, w ∈ T1 := wdL [516, 514] (by decide +kernel) (by decide +kernel)
theorem inT_RX4 : ∀ w ∈ u_ws RX4 TX4 3, w ∈ T1 := wdL [93, 95, 97] (by decide +kernel) (by decide +kernel)
theorem inT_RX5 : ∀ w ∈ u_ws RX5 TX5 2, w ∈ T1 := wdL [110, 112] (by decide +kernel) (by decide +kernel)
theorem inT_RX6 : ∀ w ∈ u_ws RX6 TX6 4, w ∈ T1 := wdL [545, 539, 541, 543] (by decide +kernel) (by decide +kernel)
theorem inT_RX7 : ∀ w ∈ u_ws RX7 TX7 4, w ∈ T1 := wdL [127, 129, 131, 133] (by decide +kernel) (by decide +kernel)
theorem inT_RX8 : ∀ w ∈ u_ws RX8 TX8 11, w ∈ T1 := wdL [178, 180, 182, 184, 186, 188, 190, 192, 194, 196, 198] (by decide +kernel) (by decide +kernel)
theorem inT_RX9 : ∀ w ∈ u_ws RX9 TX9 24, w ∈ T1 := wdL [771, 773, 775, 777, 779, 781, 783, 785, 787, 789, 791, 793, 795, 797, 799, 801, 803, 805, 807, 809, 811, 813, 815, 817] (by decide +kernel) (by decide +kernel)
theorem fl_RX4_9_3 : FL RX4 9 3 0 := ⟨RX4, TX4, 3, RX4, rfl, inT_RX4, by decide, (wdT 90 (by decide +kernel) (by decide +kernel)), Or.inl rfl⟩
theorem fp_RX4_9_3 : FP RX4 9 3 0 (.array .int) true := ⟨RX4, TX4, 3, RX4, tyX4, rfl, inT_RX4, by decide, (wdT 90 (by decide +kernel) (by decide +kernel)), rfl, tyX4_ok, nmX4, rfl, by decide +kernel, fun _ => rfl⟩
theorem fl_RX4_15_3 : FL RX4 15 3 1 := ⟨RX4, TX4, 3, RX4, rfl, inT_RX4, by decide, (wdT 91 (by decide +kernel) (by decide +kernel)), Or.inl rfl⟩
theorem fp_RX4_15_3 : FP RX4 15 3 1 (.array .int) true := ⟨RX4, TX4, 3, RX4, tyX4, rfl, inT_RX4, by decide, (wdT 91 (by decide +kernel) (by decide +kernel)), rfl, tyX4_ok, nmX4, rfl, by decide +kernel, fun _ => rfl⟩
theorem fl_RX4_18_3 : FL RX4 18 3 2 := ⟨RX4, TX4, 3, RX4, rfl, inT_RX4, by decide, (wdT 92 (by decide +kernel) (by decide +kernel)), Or.inl rfl⟩
theorem fp_RX4_18_3 : FP RX4 18 3 2 .int false := ⟨RX4, TX4, 3, RX4, tyX4, rfl, inT_RX4, by decide, (wdT 92 (by decide +kernel) (by decide +kernel)), rfl, tyX4_ok, nmX4, rfl, by decide +kernel, fun h => by cases h⟩
theorem fl_RX5_9_4 : FL RX5 9 4 0 := ⟨RX5, TX5, 2, RX5, rfl, inT_RX5, by decide, (wdT 107 (by decide +kernel) (by decide +kernel)), Or.inl rfl⟩
theorem fp_RX5_9_4 : FP RX5 9 4 0 (.array .int) true := ⟨RX5, TX5, 2, RX5, tyX5, rfl, inT_RX5, by decide, (wdT 107 (by decide +kernel) (by decide +kernel)), rfl, tyX5_ok, nmX5, rfl, by decide +kernel, fun _ => rfl⟩
theorem fl_RX5_15_4 : FL RX5 15 4 1 := ⟨RX5, TX5, 2, RX5, rfl, inT_RX5, by decide, (wdT 108 (by decide +kernel) (by decide +kernel)), Or.inl rfl⟩
theorem fp_RX5_15_4 : FP RX5 15 4 1 .int false := ⟨RX5, TX5, 2, RX5, tyX5, rfl, inT_RX5, by decide, (wdT 108 (by decide +kernel) (by decide +kernel)), rfl, tyX5_ok, nmX5, rfl, by decide +kernel, fun h => by cases h⟩
theorem fl_RX8_153_4 : FN RX8 153 4 1 := ⟨RX5, TX5, 2, RX5, RX8, rfl, inT_RX5, by decide, (wdT 109 (by decide +kernel) (by decide +kernel)), rfl⟩
theorem fl_RX7_9_6 : FL RX7 9 6 0 := ⟨RX7, TX7, 4, RX7, rfl, inT_RX7, by decide, (wdT 121 (by decide +kernel) (by decide +kernel)), Or.inl rfl⟩
theorem fp_RX7_9_6 : FP RX7 9 6 0 (.array .int) true := ⟨RX7, TX7, 4, RX7, tyX7, rfl, inT_RX7, by decide, (wdT 121 (by decide +kernel) (by decide +kernel)), rfl, tyX7_ok, nmX7, rfl, by decide +kernel, fun _ => rfl⟩
theorem fl_RX7_15_6 : FL RX7 15 6 1 := ⟨RX7, TX7, 4, RX7, rfl, inT_RX7, by decide, (wdT 122 (by decide +kernel) (by decide +kernel)), Or.inl rfl⟩
theorem fp_RX7_15_6 : FP RX7 15 6 1 (.array .int) true := ⟨RX7, TX7, 4, RX7, tyX7, rfl, inT_RX7, by decide, (wdT 122 (by decide +kernel) (by decide +kernel)), rfl, tyX7_ok, nmX7, rfl, by decide +kernel, fun _ => rfl⟩
theorem fl_RX7_18_6 : FL RX7 18 6 2 := ⟨RX7, TX7, 4, RX7, rfl, inT_RX7, by decide, (wdT 123 (by decide +kernel) (by decide +kernel)), Or.inl rfl⟩
theorem fp_RX7_18_6 : FP RX7 18 6 2 (.array .int) true := ⟨RX7, TX7, 4, RX7, tyX7, rfl, inT_RX7, by decide, (wdT 123 (by decide +kernel) (by decide +kernel)), rfl, tyX7_ok, nmX7, rfl, by decide +kernel, fun _ => rfl⟩
theorem fl_RX7_21_6 : FL RX7 21 6 3 := ⟨RX7, TX7, 4, RX7, rfl, inT_RX7, by decide, (wdT 124 (by decide +kernel) (by decide +kernel)), Or.inl rfl⟩
theorem fp_RX7_21_6 : FP RX7 21 6 3 .int false := ⟨RX7, TX7, 4, RX7, tyX7, rfl, inT_RX7, by decide, (wdT 124 (by decide +kernel) (by decide +kernel)), rfl, tyX7_ok, nmX7, rfl, by decide +kernel, fun h => by cases h⟩
theorem fl_RX1_24_6 : FN RX1 24 6 3 := ⟨RX7, TX7, 4, RX7, RX8, rfl, inT_RX7, by decide, (wdT 125 (by decide +kernel) (by decide +kernel)), rfl⟩
theorem fl_RX8_150_6 : FN RX8 150 6 3 := ⟨RX7, TX7, 4, RX7, RX8, rfl, inT_RX7, by decide, (wdT 126 (by decide +kernel) (by decide +kernel)), rfl⟩
theorem fl_RX1_13_1 : FL RX1 13 1 0 := ⟨RX1, TX1, 2, RX1, rfl, inT_RX1, by decide, (wdT 144 (by decide +kernel) (by decide +kernel)), Or.inl rfl⟩
theorem fp_RX1_13_1 : FP RX1 13 1 0 (.array (.array .int)) true := ⟨RX1, TX1, 2, RX1, tyX1, rfl, inT_RX1, by decide, (wdT 144 (by decide +kernel) (by decide +kernel)), rfl, tyX1_ok, nmX1, rfl, by decide +kernel, fun _ => rfl⟩
theorem fl_RX1_16_1 : FL RX1 16 1 1 := ⟨RX1, TX1, 2, RX1, rfl, inT_RX1, by decide, (wdT 145 (by decide +kernel) (by decide +kernel)), Or.inl rfl⟩
theorem fp_RX1_16_1 : FP RX1 16 1 1 (.array .int) true := ⟨RX1, TX1, 2, RX1, tyX1, rfl, inT_RX1, by decide, (wdT 145 (by decide +kernel) (by decide +kernel)), rfl, tyX1_ok, nmX1, rfl, by decide +kernel, fun _ => rfl⟩
theorem fl_RX0_11_0 : FL RX0 11 0 0 := ⟨RX0, TX0, 2, RX0, rfl, inT_RX0, by decide, (wdT 158 (by decide +kernel) (by decide +kernel)), Or.inl rfl⟩
theorem fp_RX0_11_0 : FP RX0 11 0 0 (.array (.array .int)) true := ⟨RX0, TX0, 2, RX0, tyX0, rfl, inT_RX0, by decide, (wdT 158 (by decide +kernel) (by decide +kernel)), rfl, tyX0_ok, nmX0, rfl, by decide +kernel, fun _ => rfl⟩
theorem fl_RX0_16_0 : FL RX0 16 0 1 := ⟨RX0, TX0, 2, RX0, rfl, inT_RX0, by decide, (wdT 159 (by decide +kernel) (by decide +kernel)), Or.inl rfl⟩
theorem fp_RX0_16_0 : FP RX0 16 0 1 (.array (.array .int)) true := ⟨RX0, TX0, 2, RX0, tyX0, rfl, inT_RX0, by decide, (wdT 159 (by decide +kernel) (by decide +kernel)), rfl, tyX0_ok, nmX0, rfl, by decide +kernel, fun _ => rfl⟩
theorem fl_RX8_12_7 : FL RX8 12 7 0 := ⟨RX8, TX8, 11, RX8, rfl, inT_RX8, by decide, (wdT 167 (by decide +kernel) (by decide +kernel)), Or.inl rfl⟩
theorem fp_RX8_12_7 : FP RX8 12 7 0 (.object "Pocketgloss$Rules") true := ⟨RX8, TX8, 11, RX8, tyX8, rfl, inT_RX8, by decide, (wdT 167 (by decide +kernel) (by decide +kernel)), rfl, tyX8_ok, nmX8, rfl, by decide +kernel, fun _ => rfl⟩
theorem fl_RX8_19_7 : FL RX8 19 7 1 := ⟨RX8, TX8, 11, RX8, rfl, inT_RX8, by decide, (wdT 168 (by decide +kernel) (by decide +kernel)), Or.inl rfl⟩
theorem fp_RX8_19_7 : FP RX8 19 7 1 (.object "Pocketgloss$Sentence") true := ⟨RX8, TX8, 11, RX8, tyX8, rfl, inT_RX8, by decide, (wdT 168 (by decide +kernel) (by decide +kernel)), rfl, tyX8_ok, nmX8, rfl, by decide +kernel, fun _ => rfl⟩
theorem fl_RX8_26_7 : FL RX8 26 7 2 := ⟨RX8, TX8, 11, RX8, rfl, inT_RX8, by decide, (wdT 169 (by decide +kernel) (by decide +kernel)), Or.inl rfl⟩
theorem fp_RX8_26_7 : FP RX8 26 7 2 (.object "Pocketgloss$Standings") true := ⟨RX8, TX8, 11, RX8, tyX8, rfl, inT_RX8, by decide, (wdT 169 (by decide +kernel) (by decide +kernel)), rfl, tyX8_ok, nmX8, rfl, by decide +kernel, fun _ => rfl⟩
theorem fl_RX8_33_7 : FL RX8 33 7 3 := ⟨RX8, TX8, 11, RX8, rfl, inT_RX8, by decide, (wdT 170 (by decide +kernel) (by decide +kernel)), Or.inl rfl⟩
theorem fp_RX8_33_7 : FP RX8 33 7 3 (.object "Pocketgloss$Covers") true := ⟨RX8, TX8, 11, RX8, tyX8, rfl, inT_RX8, by decide, (wdT 170 (by decide +kernel) (by decide +kernel)), rfl, tyX8_ok, nmX8, rfl, by decide +kernel, fun _ => rfl⟩
theorem fl_RX8_40_7 : FL RX8 40 7 4 := ⟨RX8, TX8, 11, RX8, rfl, inT_RX8, by decide, (wdT 171 (by decide +kernel) (by decide +kernel)), Or.inl rfl⟩
theorem fp_RX8_40_7 : FP RX8 40 7 4 (.object "Pocketgloss$Cards") true := ⟨RX8, TX8, 11, RX8, tyX8, rfl, inT_RX8, by decide, (wdT 171 (by decide +kernel) (by decide +kernel)), rfl, tyX8_ok, nmX8, rfl, by decide +kernel, fun _ => rfl⟩
theorem fl_RX8_46_7 : FL RX8 46 7 5 := ⟨RX8, TX8, 11, RX8, rfl, inT_RX8, by decide, (wdT 172 (by decide +kernel) (by decide +kernel)), Or.inl rfl⟩
theorem fp_RX8_46_7 : FP RX8 46 7 5 (.array (.object "Pocketgloss$Entry")) true := ⟨RX8, TX8, 11, RX8, tyX8, rfl, inT_RX8, by decide, (wdT 172 (by decide +kernel) (by decide +kernel)), rfl, tyX8_ok, nmX8, rfl, by decide +kernel, fun _ => rfl⟩
theorem fl_RX8_50_7 : FL RX8 50 7 6 := ⟨RX8, TX8, 11, RX8, rfl, inT_RX8, by decide, (wdT 173 (by decide +kernel) (by decide +kernel)), Or.inl rfl⟩
theorem fp_RX8_50_7 : FP RX8 50 7 6 (.array .int) true := ⟨RX8, TX8, 11, RX8, tyX8, rfl, inT_RX8, by decide, (wdT 173 (by decide +kernel) (by decide +kernel)), rfl, tyX8_ok, nmX8, rfl, by decide +kernel, fun _ => rfl⟩
theorem fl_RX8_230_7 : FL RX8 230 7 7 := ⟨RX8, TX8, 11, RX8, rfl, inT_RX8, by decide, (wdT 174 (by decide +kernel) (by decide +kernel)), Or.inl rfl⟩
theorem fp_RX8_230_7 : FP RX8 230 7 7 .int false := ⟨RX8, TX8, 11, RX8, tyX8, rfl, inT_RX8, by decide, (wdT 174 (by decide +kernel) (by decide +kernel)), rfl, tyX8_ok, nmX8, rfl, by decide +kernel, fun h => by cases h⟩
theorem fl_RX8_86_7 : FL RX8 86 7 8 := ⟨RX8, TX8, 11, RX8, rfl, inT_RX8, by decide, (wdT 175 (by decide +kernel) (by decide +kernel)), Or.inl rfl⟩
theorem fp_RX8_86_7 : FP RX8 86 7 8 .int false := ⟨RX8, TX8, 11, RX8, tyX8, rfl, inT_RX8, by decide, (wdT 175 (by decide +kernel) (by decide +kernel)), rfl, tyX8_ok, nmX8, rfl, by decide +kernel, fun h => by cases h⟩
theorem fl_RX8_54_7 : FL RX8 54 7 9 := ⟨RX8, TX8, 11, RX8, rfl, inT_RX8, by decide, (wdT 176 (by decide +kernel) (by decide +kernel)), Or.inl rfl⟩
theorem fp_RX8_54_7 : FP RX8 54 7 9 .int false := ⟨RX8, TX8, 11, RX8, tyX8, rfl, inT_RX8, by decide, (wdT 176 (by decide +kernel) (by decide +kernel)), rfl, tyX8_ok, nmX8, rfl, by decide +kernel, fun h => by cases h⟩
theorem fl_RX8_191_7 : FL RX8 191 7 10 := ⟨RX8, TX8, 11, RX8, rfl, inT_RX8, by decide, (wdT 177 (by decide +kernel) (by decide +kernel)), Or.inl rfl⟩
theorem fp_RX8_191_7 : FP RX8 191 7 10 .int false := ⟨RX8, TX8, 11, RX8, tyX8, rfl, inT_RX8, by decide, (wdT 177 (by decide +kernel) (by decide +kernel)), rfl, tyX8_ok, nmX8, rfl, by decide +kernel, fun h => by cases h⟩
theorem fl_RX3_9_2 : FL RX3 9 2 1 := ⟨RX3, TX3, 2, RX3, rfl, inT_RX3, by decide, (wdT 508 (by decide +kernel) (by decide +kernel)), Or.inl rfl⟩
theorem fp_RX3_9_2 : FP RX3 9 2 1 (.array .int) true := ⟨RX3, TX3, 2, RX3, tyX3, rfl, inT_RX3, by decide, (wdT 508 (by decide +kernel) (by decide +kernel)), rfl, tyX3_ok, nmX3, rfl, by decide +kernel, fun _ => rfl⟩
theorem fl_RX2_7_2 : FL RX2 7 2 0 := ⟨RX3, TX3, 2, RX2, rfl, inT_RX3, by decide, (wdT 509 (by decide +kernel) (by decide +kernel)), Or.inl rfl⟩
theorem fp_RX2_7_2 : FP RX2 7 2 0 .int true := ⟨RX3, TX3, 2, RX2, tyX3, rfl, inT_RX3, by decide, (wdT 509 (by decide +kernel) (by decide +kernel)), rfl, tyX3_ok, nmX3, rfl, by decide +kernel, fun _ => rfl⟩
theorem fl_RX2_7_5 : FL RX2 7 5 0 := ⟨RX6, TX6, 4, RX2, rfl, inT_RX6, by decide, (wdT 509 (by decide +kernel) (by decide +kernel)), Or.inl rfl⟩
theorem fp_RX2_7_5 : FP RX2 7 5 0 .int true := ⟨RX6, TX6, 4, RX2, tyX6, rfl, inT_RX6, by decide, (wdT 509 (by decide +kernel) (by decide +kernel)), rfl, tyX6_ok, nmX6, rfl, by decide +kernel, fun _ => rfl⟩
theorem fl_RX3_19_2 : FL RX3 19 2 0 := ⟨RX3, TX3, 2, RX3, rfl, inT_RX3, by decide, (wdT 510 (by decide +kernel) (by decide +kernel)), Or.inr (wdT 511 (by decide +kernel) (by decide +kernel))⟩
theorem fl_RX6_31_5 : FL RX6 31 5 0 := ⟨RX6, TX6, 4, RX6, rfl, inT_RX6, by decide, (wdT 512 (by decide +kernel) (by decide +kernel)), Or.inr (wdT 513 (by decide +kernel) (by decide +kernel))⟩
theorem fl_RX6_9_5 : FL RX6 9 5 1 := ⟨RX6, TX6, 4, RX6, rfl, inT_RX6, by decide, (wdT 536 (by decide +kernel) (by decide +kernel)), Or.inl rfl⟩
theorem fp_RX6_9_5 : FP RX6 9 5 1 .int true := ⟨RX6, TX6, 4, RX6, tyX6, rfl, inT_RX6, by decide, (wdT 536 (by decide +kernel) (by decide +kernel)), rfl, tyX6_ok, nmX6, rfl, by decide +kernel, fun _ => rfl⟩
theorem fl_RX6_15_5 : FL RX6 15 5 2 := ⟨RX6, TX6, 4, RX6, rfl, inT_RX6, by decide, (wdT 537 (by decide +kernel) (by decide +kernel)), Or.inl rfl⟩
theorem fp_RX6_15_5 : FP RX6 15 5 2 .int true := ⟨RX6, TX6, 4, RX6, tyX6, rfl, inT_RX6, by decide, (wdT 537 (by decide +kernel) (by decide +kernel)), rfl, tyX6_ok, nmX6, rfl, by decide +kernel, fun _ => rfl⟩
theorem fl_RX6_18_5 : FL RX6 18 5 3 := ⟨RX6, TX6, 4, RX6, rfl, inT_RX6, by decide, (wdT 538 (by decide +kernel) (by decide +kernel)), Or.inl rfl⟩
theorem fp_RX6_18_5 : FP RX6 18 5 3 .int true := ⟨RX6, TX6, 4, RX6, tyX6, rfl, inT_RX6, by decide, (wdT 538 (by decide +kernel) (by decide +kernel)), rfl, tyX6_ok, nmX6, rfl, by decide +kernel, fun _ => rfl⟩
theorem fl_RX9_63_8 : FL RX9 63 8 0 := ⟨RX9, TX9, 24, RX9, rfl, inT_RX9, by decide, (wdT 747 (by decide +kernel) (by decide +kernel)), Or.inl rfl⟩
theorem fp_RX9_63_8 : FP RX9 63 8 0 .int false := ⟨RX9, TX9, 24, RX9, tyX9, rfl, inT_RX9, by decide, (wdT 747 (by decide +kernel) (by decide +kernel)), rfl, tyX9_ok, nmX9, rfl, by decide +kernel, fun h => by cases h⟩
theorem fl_RX9_73_8 : FL RX9 73 8 1 := ⟨RX9, TX9, 24, RX9, rfl, inT_RX9, by decide, (wdT 748 (by decide +kernel) (by decide +kernel)), Or.inl rfl⟩
theorem fp_RX9_73_8 : FP RX9 73 8 1 .int false := ⟨RX9, TX9, 24, RX9, tyX9, rfl, inT_RX9, by decide, (wdT 748 (by decide +kernel) (by decide +kernel)), rfl, tyX9_ok, nmX9, rfl, by decide +kernel, fun h => by cases h⟩
theorem fl_RX9_7_8 : FL RX9 7 8 2 := ⟨RX9, TX9, 24, RX9, rfl, inT_RX9, by decide, (wdT 749 (by decide +kernel) (by decide +kernel)), Or.inl rfl⟩
theorem fp_RX9_7_8 : FP RX9 7 8 2 (.array .int) true := ⟨RX9, TX9, 24, RX9, tyX9, rfl, inT_RX9, by decide, (wdT 749 (by decide +kernel) (by decide +kernel)), rfl, tyX9_ok, nmX9, rfl, by decide +kernel, fun _ => rfl⟩
theorem fl_RX9_13_8 : FL RX9 13 8 3 := ⟨RX9, TX9, 24, RX9, rfl, inT_RX9, by decide, (wdT 750 (by decide +kernel) (by decide +kernel)), Or.inl rfl⟩
theorem fp_RX9_13_8 : FP RX9 13 8 3 (.array .int) true := ⟨RX9, TX9, 24, RX9, tyX9, rfl, inT_RX9, by decide, (wdT 750 (by decide +kernel) (by decide +kernel)), rfl, tyX9_ok, nmX9, rfl, by decide +kernel, fun _ => rfl⟩
theorem fl_RX9_84_8 : FL RX9 84 8 4 := ⟨RX9, TX9, 24, RX9, rfl, inT_RX9, by decide, (wdT 751 (by decide +kernel) (by decide +kernel)), Or.inl rfl⟩
theorem fp_RX9_84_8 : FP RX9 84 8 4 .int false := ⟨RX9, TX9, 24, RX9, tyX9, rfl, inT_RX9, by decide, (wdT 751 (by decide +kernel) (by decide +kernel)), rfl, tyX9_ok, nmX9, rfl, by decide +kernel, fun h => by cases h⟩
theorem fl_RX9_16_8 : FL RX9 16 8 5 := ⟨RX9, TX9, 24, RX9, rfl, inT_RX9, by decide, (wdT 752 (by decide +kernel) (by decide +kernel)), Or.inl rfl⟩
theorem fp_RX9_16_8 : FP RX9 16 8 5 (.array .int) true := ⟨RX9, TX9, 24, RX9, tyX9, rfl, inT_RX9, by decide, (wdT 752 (by decide +kernel) (by decide +kernel)), rfl, tyX9_ok, nmX9, rfl, by decide +kernel, fun _ => rfl⟩
theorem fl_RX9_70_8 : FL RX9 70 8 6 := ⟨RX9, TX9, 24, RX9, rfl, inT_RX9, by decide, (wdT 753 (by decide +kernel) (by decide +kernel)), Or.inl rfl⟩
theorem fp_RX9_70_8 : FP RX9 70 8 6 .int false := ⟨RX9, TX9, 24, RX9, tyX9, rfl, inT_RX9, by decide, (wdT 753 (by decide +kernel) (by decide +kernel)), rfl, tyX9_ok, nmX9, rfl, by decide +kernel, fun h => by cases h⟩
theorem fl_RX9_19_8 : FL RX9 19 8 7 := ⟨RX9, TX9, 24, RX9, rfl, inT_RX9, by decide, (wdT 754 (by decide +kernel) (by decide +kernel)), Or.inl rfl⟩
theorem fp_RX9_19_8 : FP RX9 19 8 7 (.array .boolean) true := ⟨RX9, TX9, 24, RX9, tyX9, rfl, inT_RX9, by decide, (wdT 754 (by decide +kernel) (by decide +kernel)), rfl, tyX9_ok, nmX9, rfl, by decide +kernel, fun _ => rfl⟩
theorem fl_RX9_23_8 : FL RX9 23 8 8 := ⟨RX9, TX9, 24, RX9, rfl, inT_RX9, by decide, (wdT 755 (by decide +kernel) (by decide +kernel)), Or.inl rfl⟩
theorem fp_RX9_23_8 : FP RX9 23 8 8 (.array .int) true := ⟨RX9, TX9, 24, RX9, tyX9, rfl, inT_RX9, by decide, (wdT 755 (by decide +kernel) (by decide +kernel)), rfl, tyX9_ok, nmX9, rfl, by decide +kernel, fun _ => rfl⟩
theorem fl_RX9_26_8 : FL RX9 26 8 9 := ⟨RX9, TX9, 24, RX9, rfl, inT_RX9, by decide, (wdT 756 (by decide +kernel) (by decide +kernel)), Or.inl rfl⟩
theorem fp_RX9_26_8 : FP RX9 26 8 9 (.array .int) true := ⟨RX9, TX9, 24, RX9, tyX9, rfl, inT_RX9, by decide, (wdT 756 (by decide +kernel) (by decide +kernel)), rfl, tyX9_ok, nmX9, rfl, by decide +kernel, fun _ => rfl⟩
theorem fl_RX9_29_8 : FL RX9 29 8 10 := ⟨RX9, TX9, 24, RX9, rfl, inT_RX9, by decide, (wdT 757 (by decide +kernel) (by decide +kernel)), Or.inl rfl⟩
theorem fp_RX9_29_8 : FP RX9 29 8 10 (.array .int) true := ⟨RX9, TX9, 24, RX9, tyX9, rfl, inT_RX9, by decide, (wdT 757 (by decide +kernel) (by decide +kernel)), rfl, tyX9_ok, nmX9, rfl, by decide +kernel, fun _ => rfl⟩
theorem fl_RX9_32_8 : FL RX9 32 8 11 := ⟨RX9, TX9, 24, RX9, rfl, inT_RX9, by decide, (wdT 758 (by decide +kernel) (by decide +kernel)), Or.inl rfl⟩
theorem fp_RX9_32_8 : FP RX9 32 8 11 (.array .int) true := ⟨RX9, TX9, 24, RX9, tyX9, rfl, inT_RX9, by decide, (wdT 758 (by decide +kernel) (by decide +kernel)), rfl, tyX9_ok, nmX9, rfl, by decide +kernel, fun _ => rfl⟩
theorem fl_RX9_94_8 : FL RX9 94 8 12 := ⟨RX9, TX9, 24, RX9, rfl, inT_RX9, by decide, (wdT 759 (by decide +kernel) (by decide +kernel)), Or.inl rfl⟩
theorem fp_RX9_94_8 : FP RX9 94 8 12 .int false := ⟨RX9, TX9, 24, RX9, tyX9, rfl, inT_RX9, by decide, (wdT 759 (by decide +kernel) (by decide +kernel)), rfl, tyX9_ok, nmX9, rfl, by decide +kernel, fun h => by cases h⟩
theorem fl_RX9_35_8 : FL RX9 35 8 13 := ⟨RX9, TX9, 24, RX9, rfl, inT_RX9, by decide, (wdT 760 (by decide +kernel) (by decide +kernel)), Or.inl rfl⟩
theorem fp_RX9_35_8 : FP RX9 35 8 13 (.array .int) true := ⟨RX9, TX9, 24, RX9, tyX9, rfl, inT_RX9, by decide, (wdT 760 (by decide +kernel) (by decide +kernel)), rfl, tyX9_ok, nmX9, rfl, by decide +kernel, fun _ => rfl⟩
theorem fl_RX9_38_8 : FL RX9 38 8 14 := ⟨RX9, TX9, 24, RX9, rfl, inT_RX9, by decide, (wdT 761 (by decide +kernel) (by decide +kernel)), Or.inl rfl⟩
theorem fp_RX9_38_8 : FP RX9 38 8 14 .int false := ⟨RX9, TX9, 24, RX9, tyX9, rfl, inT_RX9, by decide, (wdT 761 (by decide +kernel) (by decide +kernel)), rfl, tyX9_ok, nmX9, rfl, by decide +kernel, fun h => by cases h⟩
theorem fl_RX9_97_8 : FL RX9 97 8 15 := ⟨RX9, TX9, 24, RX9, rfl, inT_RX9, by decide, (wdT 762 (by decide +kernel) (by decide +kernel)), Or.inl rfl⟩
theorem fp_RX9_97_8 : FP RX9 97 8 15 .int false := ⟨RX9, TX9, 24, RX9, tyX9, rfl, inT_RX9, by decide, (wdT 762 (by decide +kernel) (by decide +kernel)), rfl, tyX9_ok, nmX9, rfl, by decide +kernel, fun h => by cases h⟩
theorem fl_RX9_42_8 : FL RX9 42 8 16 := ⟨RX9, TX9, 24, RX9, rfl, inT_RX9, by decide, (wdT 763 (by decide +kernel) (by decide +kernel)), Or.inl rfl⟩
theorem fp_RX9_42_8 : FP RX9 42 8 16 (.array .int) true := ⟨RX9, TX9, 24, RX9, tyX9, rfl, inT_RX9, by decide, (wdT 763 (by decide +kernel) (by decide +kernel)), rfl, tyX9_ok, nmX9, rfl, by decide +kernel, fun _ => rfl⟩
theorem fl_RX9_45_8 : FL RX9 45 8 17 := ⟨RX9, TX9, 24, RX9, rfl, inT_RX9, by decide, (wdT 764 (by decide +kernel) (by decide +kernel)), Or.inl rfl⟩
theorem fp_RX9_45_8 : FP RX9 45 8 17 (.array .int) true := ⟨RX9, TX9, 24, RX9, tyX9, rfl, inT_RX9, by decide, (wdT 764 (by decide +kernel) (by decide +kernel)), rfl, tyX9_ok, nmX9, rfl, by decide +kernel, fun _ => rfl⟩
theorem fl_RX9_48_8 : FL RX9 48 8 18 := ⟨RX9, TX9, 24, RX9, rfl, inT_RX9, by decide, (wdT 765 (by decide +kernel) (by decide +kernel)), Or.inl rfl⟩
theorem fp_RX9_48_8 : FP RX9 48 8 18 (.array .int) true := ⟨RX9, TX9, 24, RX9, tyX9, rfl, inT_RX9, by decide, (wdT 765 (by decide +kernel) (by decide +kernel)), rfl, tyX9_ok, nmX9, rfl, by decide +kernel, fun _ => rfl⟩
theorem fl_RX9_51_8 : FL RX9 51 8 19 := ⟨RX9, TX9, 24, RX9, rfl, inT_RX9, by decide, (wdT 766 (by decide +kernel) (by decide +kernel)), Or.inl rfl⟩
theorem fp_RX9_51_8 : FP RX9 51 8 19 (.array .int) true := ⟨RX9, TX9, 24, RX9, tyX9, rfl, inT_RX9, by decide, (wdT 766 (by decide +kernel) (by decide +kernel)), rfl, tyX9_ok, nmX9, rfl, by decide +kernel, fun _ => rfl⟩
theorem fl_RX9_54_8 : FL RX9 54 8 20 := ⟨RX9, TX9, 24, RX9, rfl, inT_RX9, by decide, (wdT 767 (by decide +kernel) (by decide +kernel)), Or.inl rfl⟩
theorem fp_RX9_54_8 : FP RX9 54 8 20 (.array .int) true := ⟨RX9, TX9, 24, RX9, tyX9, rfl, inT_RX9, by decide, (wdT 767 (by decide +kernel) (by decide +kernel)), rfl, tyX9_ok, nmX9, rfl, by decide +kernel, fun _ => rfl⟩
theorem fl_RX9_130_8 : FL RX9 130 8 21 := ⟨RX9, TX9, 24, RX9, rfl, inT_RX9, by decide, (wdT 768 (by decide +kernel) (by decide +kernel)), Or.inl rfl⟩
theorem fp_RX9_130_8 : FP RX9 130 8 21 .int false := ⟨RX9, TX9, 24, RX9, tyX9, rfl, inT_RX9, by decide, (wdT 768 (by decide +kernel) (by decide +kernel)), rfl, tyX9_ok, nmX9, rfl, by decide +kernel, fun h => by cases h⟩
theorem fl_RX9_57_8 : FL RX9 57 8 22 := ⟨RX9, TX9, 24, RX9, rfl, inT_RX9, by decide, (wdT 769 (by decide +kernel) (by decide +kernel)), Or.inl rfl⟩
theorem fp_RX9_57_8 : FP RX9 57 8 22 (.array .int) true := ⟨RX9, TX9, 24, RX9, tyX9, rfl, inT_RX9, by decide, (wdT 769 (by decide +kernel) (by decide +kernel)), rfl, tyX9_ok, nmX9, rfl, by decide +kernel, fun _ => rfl⟩
theorem fl_RX9_60_8 : FL RX9 60 8 23 := ⟨RX9, TX9, 24, RX9, rfl, inT_RX9, by decide, (wdT 770 (by decide +kernel) (by decide +kernel)), Or.inl rfl⟩
theorem fp_RX9_60_8 : FP RX9 60 8 23 (.array .int) true := ⟨RX9, TX9, 24, RX9, tyX9, rfl, inT_RX9, by decide, (wdT 770 (by decide +kernel) (by decide +kernel)), rfl, tyX9_ok, nmX9, rfl, by decide +kernel, fun _ => rfl⟩
theorem lk_RL_76 : LI RL 76 yX8_init cX8_init 1 0 := ⟨Or.inl (wdT 78 (by decide +kernel) (by decide +kernel)), (wdT 79 (by decide +kernel) (by decide +kernel)), (wdT 55 (by decide +kernel) (by decide +kernel)), (wdT 80 (by decide +kernel) (by decide +kernel)), rfl, ⟨by decide, by decide, by decide +kernel⟩⟩
theorem lk_RX8_11 : LI RX8 11 yX4_init cX4_init 1 0 := ⟨Or.inr ⟨RX8, (wdT 86 (by decide +kernel) (by decide +kernel))⟩, (wdT 87 (by decide +kernel) (by decide +kernel)), (wdT 56 (by decide +kernel) (by decide +kernel)), (wdT 88 (by decide +kernel) (by decide +kernel)), rfl, ⟨by decide, by decide, by decide +kernel⟩⟩
theorem lk_RX8_18 : LI RX8 18 yX5_init cX5_init 1 0 := ⟨Or.inr ⟨RX8, (wdT 103 (by decide +kernel) (by decide +kernel))⟩, (wdT 104 (by decide +kernel) (by decide +kernel)), (wdT 57 (by decide +kernel) (by decide +kernel)), (wdT 105 (by decide +kernel) (by decide +kernel)), rfl, ⟨by decide, by decide, by decide +kernel⟩⟩
theorem lk_RX8_25 : LI RX8 25 yX7_init cX7_init 1 0 := ⟨Or.inr ⟨RX8, (wdT 117 (by decide +kernel) (by decide +kernel))⟩, (wdT 118 (by decide +kernel) (by decide +kernel)), (wdT 58 (by decide +kernel) (by decide +kernel)), (wdT 119 (by decide +kernel) (by decide +kernel)), rfl, ⟨by decide, by decide, by decide +kernel⟩⟩
theorem lk_RX8_32 : LI RX8 32 yX1_init cX1_init 1 0 := ⟨Or.inr ⟨RX8, (wdT 138 (by decide +kernel) (by decide +kernel))⟩, (wdT 139 (by decide +kernel) (by decide +kernel)), (wdT 59 (by decide +kernel) (by decide +kernel)), (wdT 140 (by decide +kernel) (by decide +kernel)), rfl, ⟨by decide, by decide, by decide +kernel⟩⟩
theorem lk_RX8_39 : LI RX8 39 yX0_init cX0_init 1 0 := ⟨Or.inr ⟨RX8, (wdT 153 (by decide +kernel) (by decide +kernel))⟩, (wdT 154 (by decide +kernel) (by decide +kernel)), (wdT 60 (by decide +kernel) (by decide +kernel)), (wdT 155 (by decide +kernel) (by decide +kernel)), rfl, ⟨by decide, by decide, by decide +kernel⟩⟩
theorem lk_RL_110 : LV RL 110 yX8_entries cX8_entries 6 (some .int) 0 := ⟨Or.inl (wdT 201 (by decide +kernel) (by decide +kernel)), (wdT 202 (by decide +kernel) (by decide +kernel)), (wdT 203 (by decide +kernel) (by decide +kernel)), (wdT 55 (by decide +kernel) (by decide +kernel)), (wdT 204 (by decide +kernel) (by decide +kernel)), ⟨by decide, by decide, by decide +kernel⟩⟩
theorem lk_RL_117 : LV RL 117 yX8_clear cX8_clear 1 (some .int) 0 := ⟨Or.inl (wdT 205 (by decide +kernel) (by decide +kernel)), (wdT 206 (by decide +kernel) (by decide +kernel)), (wdT 207 (by decide +kernel) (by decide +kernel)), (wdT 55 (by decide +kernel) (by decide +kernel)), (wdT 208 (by decide +kernel) (by decide +kernel)), ⟨by decide, by decide, by decide +kernel⟩⟩
theorem lk_RX8_141 : LV RX8 141 yX5_empty cX5_empty 2 (some .int) 0 := ⟨Or.inr ⟨RX8, (wdT 209 (by decide +kernel) (by decide +kernel))⟩, (wdT 211 (by decide +kernel) (by decide +kernel)), (wdT 0 (by decide +kernel) (by decide +kernel)), (wdT 57 (by decide +kernel) (by decide +kernel)), (wdT 212 (by decide +kernel) (by decide +kernel)), ⟨by decide, by decide, by decide +kernel⟩⟩
theorem lk_RL_124 : LV RL 124 yX8_standings cX8_standings 1 (some .int) 0 := ⟨Or.inl (wdT 213 (by decide +kernel) (by decide +kernel)), (wdT 214 (by decide +kernel) (by decide +kernel)), (wdT 215 (by decide +kernel) (by decide +kernel)), (wdT 55 (by decide +kernel) (by decide +kernel)), (wdT 216 (by decide +kernel) (by decide +kernel)), ⟨by decide, by decide, by decide +kernel⟩⟩
theorem lk_RX8_147 : LV RX8 147 yX8_findStandings cX8_findStandings 3 none 0 := ⟨Or.inl (wdT 217 (by decide +kernel) (by decide +kernel)), (wdT 219 (by decide +kernel) (by decide +kernel)), (wdT 1 (by decide +kernel) (by decide +kernel)), (wdT 55 (by decide +kernel) (by decide +kernel)), (wdT 220 (by decide +kernel) (by decide +kernel)), ⟨by decide, by decide, by decide +kernel⟩⟩
theorem lk_RX8_240 : LV RX8 240 yX7_empty cX7_empty 1 none 0 := ⟨Or.inr ⟨RX8, (wdT 221 (by decide +kernel) (by decide +kernel))⟩, (wdT 223 (by decide +kernel) (by decide +kernel)), (wdT 2 (by decide +kernel) (by decide +kernel)), (wdT 58 (by decide +kernel) (by decide +kernel)), (wdT 224 (by decide +kernel) (by decide +kernel)), ⟨by decide, by decide, by decide +kernel⟩⟩
theorem lk_RX3_15 : LV RX3 15 yX3_placesFrom cX3_placesFrom 6 (some .int) 3 := ⟨Or.inl (wdT 231 (by decide +kernel) (by decide +kernel)), (wdT 233 (by decide +kernel) (by decide +kernel)), (wdT 3 (by decide +kernel) (by decide +kernel)), (wdT 69 (by decide +kernel) (by decide +kernel)), (wdT 235 (by decide +kernel) (by decide +kernel)), ⟨by decide, by decide, by decide +kernel⟩⟩
theorem lk_RX3_29 : LV RX3 29 yX5_hasFormAt cX5_hasFormAt 4 (some .boolean) 3 := ⟨Or.inr ⟨RX8, (wdT 236 (by decide +kernel) (by decide +kernel))⟩, (wdT 238 (by decide +kernel) (by decide +kernel)), (wdT 4 (by decide +kernel) (by decide +kernel)), (wdT 57 (by decide +kernel) (by decide +kernel)), (wdT 239 (by decide +kernel) (by decide +kernel)), ⟨by decide, by decide, by decide +kernel⟩⟩
theorem lk_RX5_19 : LV RX5 19 yX5_hasPlace cX5_hasPlace 2 (some .boolean) 1 := ⟨Or.inl (wdT 240 (by decide +kernel) (by decide +kernel)), (wdT 242 (by decide +kernel) (by decide +kernel)), (wdT 5 (by decide +kernel) (by decide +kernel)), (wdT 57 (by decide +kernel) (by decide +kernel)), (wdT 243 (by decide +kernel) (by decide +kernel)), ⟨by decide, by decide, by decide +kernel⟩⟩
theorem lk_RX5_23 : LV RX5 23 yX4_leadBack cX4_leadBack 4 (some .boolean) 2 := ⟨Or.inr ⟨RX8, (wdT 244 (by decide +kernel) (by decide +kernel))⟩, (wdT 246 (by decide +kernel) (by decide +kernel)), (wdT 6 (by decide +kernel) (by decide +kernel)), (wdT 56 (by decide +kernel) (by decide +kernel)), (wdT 247 (by decide +kernel) (by decide +kernel)), ⟨by decide, by decide, by decide +kernel⟩⟩
theorem lk_RX3_23 : LV RX3 23 yX7_put cX7_put 4 none 3 := ⟨Or.inr ⟨RX8, (wdT 248 (by decide +kernel) (by decide +kernel))⟩, (wdT 250 (by decide +kernel) (by decide +kernel)), (wdT 7 (by decide +kernel) (by decide +kernel)), (wdT 58 (by decide +kernel) (by decide +kernel)), (wdT 251 (by decide +kernel) (by decide +kernel)), ⟨by decide, by decide, by decide +kernel⟩⟩
theorem lk_RX6_21 : LV RX6 21 yX5_hasFormAt cX5_hasFormAt 4 (some .boolean) 3 := ⟨Or.inr ⟨RX8, (wdT 255 (by decide +kernel) (by decide +kernel))⟩, (wdT 238 (by decide +kernel) (by decide +kernel)), (wdT 4 (by decide +kernel) (by decide +kernel)), (wdT 57 (by decide +kernel) (by decide +kernel)), (wdT 239 (by decide +kernel) (by decide +kernel)), ⟨by decide, by decide, by decide +kernel⟩⟩
theorem lk_RX6_27 : LV RX6 27 yX6_findFrom cX6_findFrom 8 none 5 := ⟨Or.inl (wdT 256 (by decide +kernel) (by decide +kernel)), (wdT 258 (by decide +kernel) (by decide +kernel)), (wdT 8 (by decide +kernel) (by decide +kernel)), (wdT 73 (by decide +kernel) (by decide +kernel)), (wdT 260 (by decide +kernel) (by decide +kernel)), ⟨by decide, by decide, by decide +kernel⟩⟩
theorem lk_RX6_34 : LV RX6 34 yX7_put cX7_put 4 none 3 := ⟨Or.inr ⟨RX8, (wdT 261 (by decide +kernel) (by decide +kernel))⟩, (wdT 250 (by decide +kernel) (by decide +kernel)), (wdT 7 (by decide +kernel) (by decide +kernel)), (wdT 58 (by decide +kernel) (by decide +kernel)), (wdT 251 (by decide +kernel) (by decide +kernel)), ⟨by decide, by decide, by decide +kernel⟩⟩
theorem lk_RL_128 : LV RL 128 yX8_cost cX8_cost 1 (some .int) 0 := ⟨Or.inl (wdT 262 (by decide +kernel) (by decide +kernel)), (wdT 263 (by decide +kernel) (by decide +kernel)), (wdT 264 (by decide +kernel) (by decide +kernel)), (wdT 55 (by decide +kernel) (by decide +kernel)), (wdT 265 (by decide +kernel) (by decide +kernel)), ⟨by decide, by decide, by decide +kernel⟩⟩
theorem lk_RX8_156 : LV RX8 156 yX1_weigh cX1_weigh 7 none 3 := ⟨Or.inr ⟨RX8, (wdT 266 (by decide +kernel) (by decide +kernel))⟩, (wdT 268 (by decide +kernel) (by decide +kernel)), (wdT 9 (by decide +kernel) (by decide +kernel)), (wdT 59 (by decide +kernel) (by decide +kernel)), (wdT 269 (by decide +kernel) (by decide +kernel)), ⟨by decide, by decide, by decide +kernel⟩⟩
theorem lk_RX1_20 : LV RX1 20 yX1_leastFrom cX1_leastFrom 7 (some .int) 4 := ⟨Or.inl (wdT 270 (by decide +kernel) (by decide +kernel)), (wdT 272 (by decide +kernel) (by decide +kernel)), (wdT 10 (by decide +kernel) (by decide +kernel)), (wdT 59 (by decide +kernel) (by decide +kernel)), (wdT 273 (by decide +kernel) (by decide +kernel)), ⟨by decide, by decide, by decide +kernel⟩⟩
theorem lk_RX1_30 : LV RX1 30 yX7_fitsFrom cX7_fitsFrom 5 (some .boolean) 3 := ⟨Or.inr ⟨RX8, (wdT 274 (by decide +kernel) (by decide +kernel))⟩, (wdT 276 (by decide +kernel) (by decide +kernel)), (wdT 11 (by decide +kernel) (by decide +kernel)), (wdT 58 (by decide +kernel) (by decide +kernel)), (wdT 277 (by decide +kernel) (by decide +kernel)), ⟨by decide, by decide, by decide +kernel⟩⟩
theorem lk_RX7_29 : LV RX7 29 yX7_placesOf cX7_placesOf 2 (some .int) 1 := ⟨Or.inl (wdT 278 (by decide +kernel) (by decide +kernel)), (wdT 280 (by decide +kernel) (by decide +kernel)), (wdT 12 (by decide +kernel) (by decide +kernel)), (wdT 58 (by decide +kernel) (by decide +kernel)), (wdT 281 (by decide +kernel) (by decide +kernel)), ⟨by decide, by decide, by decide +kernel⟩⟩
theorem lk_RX7_25 : LV RX7 25 yX7_has cX7_has 2 (some .boolean) 1 := ⟨Or.inl (wdT 282 (by decide +kernel) (by decide +kernel)), (wdT 284 (by decide +kernel) (by decide +kernel)), (wdT 13 (by decide +kernel) (by decide +kernel)), (wdT 58 (by decide +kernel) (by decide +kernel)), (wdT 285 (by decide +kernel) (by decide +kernel)), ⟨by decide, by decide, by decide +kernel⟩⟩
theorem lk_RX7_33 : LSt RX7 33 yJ6_numberOfTrailingZeros_0f7a4 cJ6_numberOfTrailingZeros_0f7a4 2 (some .int) 1 := ⟨Or.inl (wdT 286 (by decide +kernel) (by decide +kernel)), (wdT 287 (by decide +kernel) (by decide +kernel)), (wdT 75 (by decide +kernel) (by decide +kernel)), (wdT 288 (by decide +kernel) (by decide +kernel)), ⟨by decide, by decide, by decide +kernel⟩⟩
theorem lk_RX1_34 : LV RX1 34 yX1_costWith cX1_costWith 6 (some .int) 4 := ⟨Or.inl (wdT 290 (by decide +kernel) (by decide +kernel)), (wdT 292 (by decide +kernel) (by decide +kernel)), (wdT 14 (by decide +kernel) (by decide +kernel)), (wdT 59 (by decide +kernel) (by decide +kernel)), (wdT 293 (by decide +kernel) (by decide +kernel)), ⟨by decide, by decide, by decide +kernel⟩⟩
theorem lk_RX1_44 : LV RX1 44 yX7_placesOf cX7_placesOf 2 (some .int) 1 := ⟨Or.inr ⟨RX8, (wdT 294 (by decide +kernel) (by decide +kernel))⟩, (wdT 280 (by decide +kernel) (by decide +kernel)), (wdT 12 (by decide +kernel) (by decide +kernel)), (wdT 58 (by decide +kernel) (by decide +kernel)), (wdT 281 (by decide +kernel) (by decide +kernel)), ⟨by decide, by decide, by decide +kernel⟩⟩
theorem lk_RX1_48 : LV RX1 48 yX7_priceOf cX7_priceOf 2 (some .int) 1 := ⟨Or.inr ⟨RX8, (wdT 295 (by decide +kernel) (by decide +kernel))⟩, (wdT 297 (by decide +kernel) (by decide +kernel)), (wdT 15 (by decide +kernel) (by decide +kernel)), (wdT 58 (by decide +kernel) (by decide +kernel)), (wdT 298 (by decide +kernel) (by decide +kernel)), ⟨by decide, by decide, by decide +kernel⟩⟩
theorem lk_RX1_38 : LSt RX1 38 yJ9_min_7cf53 cJ9_min_7cf53 2 (some .int) 2 := ⟨Or.inl (wdT 299 (by decide +kernel) (by decide +kernel)), (wdT 300 (by decide +kernel) (by decide +kernel)), (wdT 71 (by decide +kernel) (by decide +kernel)), (wdT 301 (by decide +kernel) (by decide +kernel)), ⟨by decide, by decide, by decide +kernel⟩⟩
theorem lk_RX8_160 : LV RX8 160 yX1_leastCost cX1_leastCost 1 (some .int) 0 := ⟨Or.inr ⟨RX8, (wdT 302 (by decide +kernel) (by decide +kernel))⟩, (wdT 304 (by decide +kernel) (by decide +kernel)), (wdT 16 (by decide +kernel) (by decide +kernel)), (wdT 59 (by decide +kernel) (by decide +kernel)), (wdT 305 (by decide +kernel) (by decide +kernel)), ⟨by decide, by decide, by decide +kernel⟩⟩
theorem lk_RL_132 : LV RL 132 yX8_costByAll cX8_costByAll 1 (some .int) 0 := ⟨Or.inl (wdT 306 (by decide +kernel) (by decide +kernel)), (wdT 307 (by decide +kernel) (by decide +kernel)), (wdT 308 (by decide +kernel) (by decide +kernel)), (wdT 55 (by decide +kernel) (by decide +kernel)), (wdT 309 (by decide +kernel) (by decide +kernel)), ⟨by decide, by decide, by decide +kernel⟩⟩
theorem lk_RX8_163 : LSt RX8 163 yX7_leastOfAll cX7_leastOfAll 11 (some .int) 6 := ⟨Or.inr ⟨RX8, (wdT 310 (by decide +kernel) (by decide +kernel))⟩, (wdT 311 (by decide +kernel) (by decide +kernel)), (wdT 58 (by decide +kernel) (by decide +kernel)), (wdT 312 (by decide +kernel) (by decide +kernel)), ⟨by decide, by decide, by decide +kernel⟩⟩
theorem lk_RX7_38 : LV RX7 38 yX7_priceOf cX7_priceOf 2 (some .int) 1 := ⟨Or.inl (wdT 313 (by decide +kernel) (by decide +kernel)), (wdT 297 (by decide +kernel) (by decide +kernel)), (wdT 15 (by decide +kernel) (by decide +kernel)), (wdT 58 (by decide +kernel) (by decide +kernel)), (wdT 298 (by decide +kernel) (by decide +kernel)), ⟨by decide, by decide, by decide +kernel⟩⟩
theorem lk_RX7_41 : LSt RX7 41 yJ6_bitCount_0f7a4 cJ6_bitCount_0f7a4 1 (some .int) 1 := ⟨Or.inl (wdT 314 (by decide +kernel) (by decide +kernel)), (wdT 315 (by decide +kernel) (by decide +kernel)), (wdT 75 (by decide +kernel) (by decide +kernel)), (wdT 316 (by decide +kernel) (by decide +kernel)), ⟨by decide, by decide, by decide +kernel⟩⟩
theorem lk_RX7_44 : LSt RX7 44 yX7_leastOfAll cX7_leastOfAll 11 (some .int) 6 := ⟨Or.inl (wdT 320 (by decide +kernel) (by decide +kernel)), (wdT 311 (by decide +kernel) (by decide +kernel)), (wdT 58 (by decide +kernel) (by decide +kernel)), (wdT 312 (by decide +kernel) (by decide +kernel)), ⟨by decide, by decide, by decide +kernel⟩⟩
theorem lk_RX7_48 : LSt RX7 48 yJ9_min_7cf53 cJ9_min_7cf53 2 (some .int) 2 := ⟨Or.inl (wdT 321 (by decide +kernel) (by decide +kernel)), (wdT 300 (by decide +kernel) (by decide +kernel)), (wdT 71 (by decide +kernel) (by decide +kernel)), (wdT 301 (by decide +kernel) (by decide +kernel)), ⟨by decide, by decide, by decide +kernel⟩⟩
theorem lk_RL_7 : LV RL 7 yX8_addRule cX8_addRule 3 (some .int) 2 := ⟨Or.inl (wdT 327 (by decide +kernel) (by decide +kernel)), (wdT 328 (by decide +kernel) (by decide +kernel)), (wdT 329 (by decide +kernel) (by decide +kernel)), (wdT 55 (by decide +kernel) (by decide +kernel)), (wdT 330 (by decide +kernel) (by decide +kernel)), ⟨by decide, by decide, by decide +kernel⟩⟩
theorem lk_RX8_65 : LV RX8 65 yX4_isFull cX4_isFull 1 (some .boolean) 0 := ⟨Or.inr ⟨RX8, (wdT 400 (by decide +kernel) (by decide +kernel))⟩, (wdT 402 (by decide +kernel) (by decide +kernel)), (wdT 18 (by decide +kernel) (by decide +kernel)), (wdT 56 (by decide +kernel) (by decide +kernel)), (wdT 403 (by decide +kernel) (by decide +kernel)), ⟨by decide, by decide, by decide +kernel⟩⟩
theorem lk_RX8_74 : LV RX8 74 yX4_put cX4_put 4 (some .int) 2 := ⟨Or.inr ⟨RX8, (wdT 420 (by decide +kernel) (by decide +kernel))⟩, (wdT 422 (by decide +kernel) (by decide +kernel)), (wdT 19 (by decide +kernel) (by decide +kernel)), (wdT 56 (by decide +kernel) (by decide +kernel)), (wdT 423 (by decide +kernel) (by decide +kernel)), ⟨by decide, by decide, by decide +kernel⟩⟩
theorem lk_RL_17 : LV RL 17 yX8_headwords cX8_headwords 4 (some .int) 1 := ⟨Or.inl (wdT 428 (by decide +kernel) (by decide +kernel)), (wdT 429 (by decide +kernel) (by decide +kernel)), (wdT 430 (by decide +kernel) (by decide +kernel)), (wdT 55 (by decide +kernel) (by decide +kernel)), (wdT 431 (by decide +kernel) (by decide +kernel)), ⟨by decide, by decide, by decide +kernel⟩⟩
theorem lk_RX8_78 : LSt RX8 78 yX8_needWord cX8_needWord 1 none 1 := ⟨Or.inl (wdT 432 (by decide +kernel) (by decide +kernel)), (wdT 433 (by decide +kernel) (by decide +kernel)), (wdT 55 (by decide +kernel) (by decide +kernel)), (wdT 434 (by decide +kernel) (by decide +kernel)), ⟨by decide, by decide, by decide +kernel⟩⟩
theorem lk_RX8_82 : LV RX8 82 yX4_leadBack cX4_leadBack 4 (some .boolean) 2 := ⟨Or.inr ⟨RX8, (wdT 451 (by decide +kernel) (by decide +kernel))⟩, (wdT 246 (by decide +kernel) (by decide +kernel)), (wdT 6 (by decide +kernel) (by decide +kernel)), (wdT 56 (by decide +kernel) (by decide +kernel)), (wdT 247 (by decide +kernel) (by decide +kernel)), ⟨by decide, by decide, by decide +kernel⟩⟩
theorem lk_RL_23 : LV RL 23 yX8_isForm cX8_isForm 3 (some .boolean) 2 := ⟨Or.inl (wdT 455 (by decide +kernel) (by decide +kernel)), (wdT 456 (by decide +kernel) (by decide +kernel)), (wdT 457 (by decide +kernel) (by decide +kernel)), (wdT 55 (by decide +kernel) (by decide +kernel)), (wdT 458 (by decide +kernel) (by decide +kernel)), ⟨by decide, by decide, by decide +kernel⟩⟩
theorem lk_RL_27 : LV RL 27 yX8_part cX8_part 2 (some .int) 1 := ⟨Or.inl (wdT 462 (by decide +kernel) (by decide +kernel)), (wdT 463 (by decide +kernel) (by decide +kernel)), (wdT 464 (by decide +kernel) (by decide +kernel)), (wdT 55 (by decide +kernel) (by decide +kernel)), (wdT 465 (by decide +kernel) (by decide +kernel)), ⟨by decide, by decide, by decide +kernel⟩⟩
theorem lk_RL_30 : LV RL 30 yX8_addPhrase cX8_addPhrase 3 (some .int) 1 := ⟨Or.inl (wdT 471 (by decide +kernel) (by decide +kernel)), (wdT 472 (by decide +kernel) (by decide +kernel)), (wdT 473 (by decide +kernel) (by decide +kernel)), (wdT 55 (by decide +kernel) (by decide +kernel)), (wdT 474 (by decide +kernel) (by decide +kernel)), ⟨by decide, by decide, by decide +kernel⟩⟩
theorem lk_RX8_93 : LSt RX8 93 yX8_needCost cX8_needCost 1 none 1 := ⟨Or.inl (wdT 475 (by decide +kernel) (by decide +kernel)), (wdT 476 (by decide +kernel) (by decide +kernel)), (wdT 55 (by decide +kernel) (by decide +kernel)), (wdT 477 (by decide +kernel) (by decide +kernel)), ⟨by decide, by decide, by decide +kernel⟩⟩
theorem lk_RX8_100 : LV RX8 100 yX8_needRoomForEntry cX8_needRoomForEntry 1 none 0 := ⟨Or.inl (wdT 481 (by decide +kernel) (by decide +kernel)), (wdT 483 (by decide +kernel) (by decide +kernel)), (wdT 20 (by decide +kernel) (by decide +kernel)), (wdT 55 (by decide +kernel) (by decide +kernel)), (wdT 484 (by decide +kernel) (by decide +kernel)), ⟨by decide, by decide, by decide +kernel⟩⟩
theorem lk_RX8_105 : LSt RX8 105 yJ7_copyOf_59c91 cJ7_copyOf_59c91 3 (some (.array .int)) 2 := ⟨Or.inl (wdT 487 (by decide +kernel) (by decide +kernel)), (wdT 488 (by decide +kernel) (by decide +kernel)), (wdT 70 (by decide +kernel) (by decide +kernel)), (wdT 489 (by decide +kernel) (by decide +kernel)), ⟨by decide, by decide, by decide +kernel⟩⟩
theorem lk_RJ7_304 : LSt RJ7 304 yJ9_min_7cf53 cJ9_min_7cf53 2 (some .int) 2 := ⟨Or.inl (wdT 497 (by decide +kernel) (by decide +kernel)), (wdT 300 (by decide +kernel) (by decide +kernel)), (wdT 71 (by decide +kernel) (by decide +kernel)), (wdT 301 (by decide +kernel) (by decide +kernel)), ⟨by decide, by decide, by decide +kernel⟩⟩
theorem lk_RX8_111 : LI RX8 111 yX3_init cX3_init 3 2 := ⟨Or.inl (wdT 501 (by decide +kernel) (by decide +kernel)), (wdT 502 (by decide +kernel) (by decide +kernel)), (wdT 69 (by decide +kernel) (by decide +kernel)), (wdT 503 (by decide +kernel) (by decide +kernel)), rfl, ⟨by decide, by decide, by decide +kernel⟩⟩
theorem lk_RX3_3 : LI RX3 3 yX2_init cX2_init 2 1 := ⟨Or.inl (wdT 504 (by decide +kernel) (by decide +kernel)), (wdT 505 (by decide +kernel) (by decide +kernel)), (wdT 68 (by decide +kernel) (by decide +kernel)), (wdT 506 (by decide +kernel) (by decide +kernel)), rfl, ⟨by decide, by decide, by decide +kernel⟩⟩
theorem lk_RX8_114 : LV RX8 114 yX8_keep cX8_keep 3 (some .int) 1 := ⟨Or.inl (wdT 519 (by decide +kernel) (by decide +kernel)), (wdT 521 (by decide +kernel) (by decide +kernel)), (wdT 21 (by decide +kernel) (by decide +kernel)), (wdT 55 (by decide +kernel) (by decide +kernel)), (wdT 522 (by decide +kernel) (by decide +kernel)), ⟨by decide, by decide, by decide +kernel⟩⟩
theorem lk_RL_33 : LV RL 33 yX8_addSplit cX8_addSplit 5 (some .int) 4 := ⟨Or.inl (wdT 526 (by decide +kernel) (by decide +kernel)), (wdT 527 (by decide +kernel) (by decide +kernel)), (wdT 528 (by decide +kernel) (by decide +kernel)), (wdT 55 (by decide +kernel) (by decide +kernel)), (wdT 529 (by decide +kernel) (by decide +kernel)), ⟨by decide, by decide, by decide +kernel⟩⟩
theorem lk_RX8_122 : LI RX8 122 yX6_init cX6_init 5 4 := ⟨Or.inl (wdT 532 (by decide +kernel) (by decide +kernel)), (wdT 533 (by decide +kernel) (by decide +kernel)), (wdT 73 (by decide +kernel) (by decide +kernel)), (wdT 534 (by decide +kernel) (by decide +kernel)), rfl, ⟨by decide, by decide, by decide +kernel⟩⟩
theorem lk_RX6_3 : LI RX6 3 yX2_init cX2_init 2 1 := ⟨Or.inl (wdT 535 (by decide +kernel) (by decide +kernel)), (wdT 505 (by decide +kernel) (by decide +kernel)), (wdT 68 (by decide +kernel) (by decide +kernel)), (wdT 506 (by decide +kernel) (by decide +kernel)), rfl, ⟨by decide, by decide, by decide +kernel⟩⟩
theorem lk_RL_37 : LV RL 37 yX8_takeOut cX8_takeOut 4 (some .int) 1 := ⟨Or.inl (wdT 551 (by decide +kernel) (by decide +kernel)), (wdT 552 (by decide +kernel) (by decide +kernel)), (wdT 553 (by decide +kernel) (by decide +kernel)), (wdT 55 (by decide +kernel) (by decide +kernel)), (wdT 554 (by decide +kernel) (by decide +kernel)), ⟨by decide, by decide, by decide +kernel⟩⟩
theorem lk_RX8_125 : LV RX8 125 yX8_needEntry cX8_needEntry 2 none 1 := ⟨Or.inl (wdT 555 (by decide +kernel) (by decide +kernel)), (wdT 557 (by decide +kernel) (by decide +kernel)), (wdT 22 (by decide +kernel) (by decide +kernel)), (wdT 55 (by decide +kernel) (by decide +kernel)), (wdT 558 (by decide +kernel) (by decide +kernel)), ⟨by decide, by decide, by decide +kernel⟩⟩
theorem lk_RX8_128 : LV RX8 128 yX0_has cX0_has 3 (some .boolean) 2 := ⟨Or.inr ⟨RX8, (wdT 575 (by decide +kernel) (by decide +kernel))⟩, (wdT 577 (by decide +kernel) (by decide +kernel)), (wdT 23 (by decide +kernel) (by decide +kernel)), (wdT 60 (by decide +kernel) (by decide +kernel)), (wdT 578 (by decide +kernel) (by decide +kernel)), ⟨by decide, by decide, by decide +kernel⟩⟩
theorem lk_RX0_23 : LV RX0 23 yX0_intervalOf cX0_intervalOf 3 (some .int) 2 := ⟨Or.inl (wdT 579 (by decide +kernel) (by decide +kernel)), (wdT 581 (by decide +kernel) (by decide +kernel)), (wdT 24 (by decide +kernel) (by decide +kernel)), (wdT 60 (by decide +kernel) (by decide +kernel)), (wdT 582 (by decide +kernel) (by decide +kernel)), ⟨by decide, by decide, by decide +kernel⟩⟩
theorem lk_RX0_19 : LV RX0 19 yX0_hasRoom cX0_hasRoom 3 (some .boolean) 2 := ⟨Or.inl (wdT 583 (by decide +kernel) (by decide +kernel)), (wdT 585 (by decide +kernel) (by decide +kernel)), (wdT 25 (by decide +kernel) (by decide +kernel)), (wdT 60 (by decide +kernel) (by decide +kernel)), (wdT 586 (by decide +kernel) (by decide +kernel)), ⟨by decide, by decide, by decide +kernel⟩⟩
theorem lk_RX8_131 : LV RX8 131 yX0_drop cX0_drop 3 none 2 := ⟨Or.inr ⟨RX8, (wdT 587 (by decide +kernel) (by decide +kernel))⟩, (wdT 589 (by decide +kernel) (by decide +kernel)), (wdT 26 (by decide +kernel) (by decide +kernel)), (wdT 60 (by decide +kernel) (by decide +kernel)), (wdT 590 (by decide +kernel) (by decide +kernel)), ⟨by decide, by decide, by decide +kernel⟩⟩
theorem lk_RL_42 : LV RL 42 yX8_say cX8_say 2 (some .int) 1 := ⟨Or.inl (wdT 594 (by decide +kernel) (by decide +kernel)), (wdT 595 (by decide +kernel) (by decide +kernel)), (wdT 596 (by decide +kernel) (by decide +kernel)), (wdT 55 (by decide +kernel) (by decide +kernel)), (wdT 597 (by decide +kernel) (by decide +kernel)), ⟨by decide, by decide, by decide +kernel⟩⟩
theorem lk_RX8_135 : LV RX8 135 yX5_isFull cX5_isFull 1 (some .boolean) 0 := ⟨Or.inr ⟨RX8, (wdT 598 (by decide +kernel) (by decide +kernel))⟩, (wdT 600 (by decide +kernel) (by decide +kernel)), (wdT 27 (by decide +kernel) (by decide +kernel)), (wdT 57 (by decide +kernel) (by decide +kernel)), (wdT 601 (by decide +kernel) (by decide +kernel)), ⟨by decide, by decide, by decide +kernel⟩⟩
theorem lk_RX8_138 : LV RX8 138 yX5_put cX5_put 2 (some .int) 1 := ⟨Or.inr ⟨RX8, (wdT 603 (by decide +kernel) (by decide +kernel))⟩, (wdT 605 (by decide +kernel) (by decide +kernel)), (wdT 28 (by decide +kernel) (by decide +kernel)), (wdT 57 (by decide +kernel) (by decide +kernel)), (wdT 606 (by decide +kernel) (by decide +kernel)), ⟨by decide, by decide, by decide +kernel⟩⟩
theorem lk_RL_45 : LV RL 45 yX8_setBare cX8_setBare 3 (some .int) 1 := ⟨Or.inl (wdT 610 (by decide +kernel) (by decide +kernel)), (wdT 611 (by decide +kernel) (by decide +kernel)), (wdT 612 (by decide +kernel) (by decide +kernel)), (wdT 55 (by decide +kernel) (by decide +kernel)), (wdT 613 (by decide +kernel) (by decide +kernel)), ⟨by decide, by decide, by decide +kernel⟩⟩
theorem lk_RL_48 : LV RL 48 yX8_glossAt cX8_glossAt 2 (some .int) 1 := ⟨Or.inl (wdT 617 (by decide +kernel) (by decide +kernel)), (wdT 618 (by decide +kernel) (by decide +kernel)), (wdT 619 (by decide +kernel) (by decide +kernel)), (wdT 55 (by decide +kernel) (by decide +kernel)), (wdT 620 (by decide +kernel) (by decide +kernel)), ⟨by decide, by decide, by decide +kernel⟩⟩
theorem lk_RX8_167 : LV RX8 167 yX8_needPlace cX8_needPlace 2 none 1 := ⟨Or.inl (wdT 621 (by decide +kernel) (by decide +kernel)), (wdT 623 (by decide +kernel) (by decide +kernel)), (wdT 29 (by decide +kernel) (by decide +kernel)), (wdT 55 (by decide +kernel) (by decide +kernel)), (wdT 624 (by decide +kernel) (by decide +kernel)), ⟨by decide, by decide, by decide +kernel⟩⟩
theorem lk_RX8_235 : LV RX8 235 yX5_hasPlace cX5_hasPlace 2 (some .boolean) 1 := ⟨Or.inr ⟨RX8, (wdT 625 (by decide +kernel) (by decide +kernel))⟩, (wdT 242 (by decide +kernel) (by decide +kernel)), (wdT 5 (by decide +kernel) (by decide +kernel)), (wdT 57 (by decide +kernel) (by decide +kernel)), (wdT 243 (by decide +kernel) (by decide +kernel)), ⟨by decide, by decide, by decide +kernel⟩⟩
theorem lk_RX8_170 : LV RX8 170 yX8_chooseCover cX8_chooseCover 1 none 0 := ⟨Or.inl (wdT 627 (by decide +kernel) (by decide +kernel)), (wdT 629 (by decide +kernel) (by decide +kernel)), (wdT 30 (by decide +kernel) (by decide +kernel)), (wdT 55 (by decide +kernel) (by decide +kernel)), (wdT 630 (by decide +kernel) (by decide +kernel)), ⟨by decide, by decide, by decide +kernel⟩⟩
theorem lk_RX8_246 : LV RX8 246 yX1_choose cX1_choose 6 none 1 := ⟨Or.inr ⟨RX8, (wdT 631 (by decide +kernel) (by decide +kernel))⟩, (wdT 633 (by decide +kernel) (by decide +kernel)), (wdT 31 (by decide +kernel) (by decide +kernel)), (wdT 59 (by decide +kernel) (by decide +kernel)), (wdT 634 (by decide +kernel) (by decide +kernel)), ⟨by decide, by decide, by decide +kernel⟩⟩
theorem lk_RX1_51 : LSt RX1 51 yJ7_fill_53178 cJ7_fill_53178 4 none 2 := ⟨Or.inl (wdT 635 (by decide +kernel) (by decide +kernel)), (wdT 636 (by decide +kernel) (by decide +kernel)), (wdT 70 (by decide +kernel) (by decide +kernel)), (wdT 637 (by decide +kernel) (by decide +kernel)), ⟨by decide, by decide, by decide +kernel⟩⟩
theorem lk_RX1_57 : LV RX1 57 yX1_bestFrom cX1_bestFrom 5 (some .int) 3 := ⟨Or.inl (wdT 638 (by decide +kernel) (by decide +kernel)), (wdT 640 (by decide +kernel) (by decide +kernel)), (wdT 32 (by decide +kernel) (by decide +kernel)), (wdT 59 (by decide +kernel) (by decide +kernel)), (wdT 641 (by decide +kernel) (by decide +kernel)), ⟨by decide, by decide, by decide +kernel⟩⟩
theorem lk_RX1_61 : LV RX1 61 yX1_mark cX1_mark 4 none 2 := ⟨Or.inl (wdT 642 (by decide +kernel) (by decide +kernel)), (wdT 644 (by decide +kernel) (by decide +kernel)), (wdT 33 (by decide +kernel) (by decide +kernel)), (wdT 59 (by decide +kernel) (by decide +kernel)), (wdT 645 (by decide +kernel) (by decide +kernel)), ⟨by decide, by decide, by decide +kernel⟩⟩
theorem lk_RX8_173 : LV RX8 173 yX1_pickAt cX1_pickAt 2 (some .int) 1 := ⟨Or.inr ⟨RX8, (wdT 646 (by decide +kernel) (by decide +kernel))⟩, (wdT 648 (by decide +kernel) (by decide +kernel)), (wdT 34 (by decide +kernel) (by decide +kernel)), (wdT 59 (by decide +kernel) (by decide +kernel)), (wdT 649 (by decide +kernel) (by decide +kernel)), ⟨by decide, by decide, by decide +kernel⟩⟩
theorem lk_RX8_176 : LV RX8 176 yX7_entryOf cX7_entryOf 2 (some .int) 1 := ⟨Or.inr ⟨RX8, (wdT 650 (by decide +kernel) (by decide +kernel))⟩, (wdT 652 (by decide +kernel) (by decide +kernel)), (wdT 35 (by decide +kernel) (by decide +kernel)), (wdT 58 (by decide +kernel) (by decide +kernel)), (wdT 653 (by decide +kernel) (by decide +kernel)), ⟨by decide, by decide, by decide +kernel⟩⟩
theorem lk_RL_51 : LV RL 51 yX8_placesAt cX8_placesAt 2 (some .int) 1 := ⟨Or.inl (wdT 657 (by decide +kernel) (by decide +kernel)), (wdT 658 (by decide +kernel) (by decide +kernel)), (wdT 659 (by decide +kernel) (by decide +kernel)), (wdT 55 (by decide +kernel) (by decide +kernel)), (wdT 660 (by decide +kernel) (by decide +kernel)), ⟨by decide, by decide, by decide +kernel⟩⟩
theorem lk_RX8_179 : LV RX8 179 yX7_placesOf cX7_placesOf 2 (some .int) 1 := ⟨Or.inr ⟨RX8, (wdT 661 (by decide +kernel) (by decide +kernel))⟩, (wdT 280 (by decide +kernel) (by decide +kernel)), (wdT 12 (by decide +kernel) (by decide +kernel)), (wdT 58 (by decide +kernel) (by decide +kernel)), (wdT 281 (by decide +kernel) (by decide +kernel)), ⟨by decide, by decide, by decide +kernel⟩⟩
theorem lk_RL_54 : LV RL 54 yX8_newEntries cX8_newEntries 4 (some .int) 1 := ⟨Or.inl (wdT 665 (by decide +kernel) (by decide +kernel)), (wdT 666 (by decide +kernel) (by decide +kernel)), (wdT 667 (by decide +kernel) (by decide +kernel)), (wdT 55 (by decide +kernel) (by decide +kernel)), (wdT 668 (by decide +kernel) (by decide +kernel)), ⟨by decide, by decide, by decide +kernel⟩⟩
theorem lk_RX8_182 : LSt RX8 182 yX8_needReader cX8_needReader 1 none 1 := ⟨Or.inl (wdT 669 (by decide +kernel) (by decide +kernel)), (wdT 670 (by decide +kernel) (by decide +kernel)), (wdT 55 (by decide +kernel) (by decide +kernel)), (wdT 671 (by decide +kernel) (by decide +kernel)), ⟨by decide, by decide, by decide +kernel⟩⟩
theorem lk_RX8_185 : LV RX8 185 yX8_isInCover cX8_isInCover 3 (some .boolean) 1 := ⟨Or.inl (wdT 673 (by decide +kernel) (by decide +kernel)), (wdT 675 (by decide +kernel) (by decide +kernel)), (wdT 36 (by decide +kernel) (by decide +kernel)), (wdT 55 (by decide +kernel) (by decide +kernel)), (wdT 676 (by decide +kernel) (by decide +kernel)), ⟨by decide, by decide, by decide +kernel⟩⟩
theorem lk_RL_57 : LV RL 57 yX8_learn cX8_learn 3 (some .int) 2 := ⟨Or.inl (wdT 680 (by decide +kernel) (by decide +kernel)), (wdT 681 (by decide +kernel) (by decide +kernel)), (wdT 682 (by decide +kernel) (by decide +kernel)), (wdT 55 (by decide +kernel) (by decide +kernel)), (wdT 683 (by decide +kernel) (by decide +kernel)), ⟨by decide, by decide, by decide +kernel⟩⟩
theorem lk_RX8_194 : LV RX8 194 yX0_put cX0_put 5 none 4 := ⟨Or.inr ⟨RX8, (wdT 685 (by decide +kernel) (by decide +kernel))⟩, (wdT 687 (by decide +kernel) (by decide +kernel)), (wdT 37 (by decide +kernel) (by decide +kernel)), (wdT 60 (by decide +kernel) (by decide +kernel)), (wdT 688 (by decide +kernel) (by decide +kernel)), ⟨by decide, by decide, by decide +kernel⟩⟩
theorem lk_RX8_196 : LV RX8 196 yX0_countOf cX0_countOf 4 (some .int) 1 := ⟨Or.inr ⟨RX8, (wdT 689 (by decide +kernel) (by decide +kernel))⟩, (wdT 691 (by decide +kernel) (by decide +kernel)), (wdT 38 (by decide +kernel) (by decide +kernel)), (wdT 60 (by decide +kernel) (by decide +kernel)), (wdT 692 (by decide +kernel) (by decide +kernel)), ⟨by decide, by decide, by decide +kernel⟩⟩
theorem lk_RX0_27 : LV RX0 27 yX0_has cX0_has 3 (some .boolean) 2 := ⟨Or.inl (wdT 693 (by decide +kernel) (by decide +kernel)), (wdT 577 (by decide +kernel) (by decide +kernel)), (wdT 23 (by decide +kernel) (by decide +kernel)), (wdT 60 (by decide +kernel) (by decide +kernel)), (wdT 578 (by decide +kernel) (by decide +kernel)), ⟨by decide, by decide, by decide +kernel⟩⟩
theorem lk_RL_60 : LV RL 60 yX8_review cX8_review 6 (some .int) 3 := ⟨Or.inl (wdT 697 (by decide +kernel) (by decide +kernel)), (wdT 698 (by decide +kernel) (by decide +kernel)), (wdT 699 (by decide +kernel) (by decide +kernel)), (wdT 55 (by decide +kernel) (by decide +kernel)), (wdT 700 (by decide +kernel) (by decide +kernel)), ⟨by decide, by decide, by decide +kernel⟩⟩
theorem lk_RX8_199 : LV RX8 199 yX0_isDue cX0_isDue 4 (some .boolean) 3 := ⟨Or.inr ⟨RX8, (wdT 701 (by decide +kernel) (by decide +kernel))⟩, (wdT 703 (by decide +kernel) (by decide +kernel)), (wdT 39 (by decide +kernel) (by decide +kernel)), (wdT 60 (by decide +kernel) (by decide +kernel)), (wdT 704 (by decide +kernel) (by decide +kernel)), ⟨by decide, by decide, by decide +kernel⟩⟩
theorem lk_RX8_205 : LV RX8 205 yX0_intervalOf cX0_intervalOf 3 (some .int) 2 := ⟨Or.inr ⟨RX8, (wdT 706 (by decide +kernel) (by decide +kernel))⟩, (wdT 581 (by decide +kernel) (by decide +kernel)), (wdT 24 (by decide +kernel) (by decide +kernel)), (wdT 60 (by decide +kernel) (by decide +kernel)), (wdT 582 (by decide +kernel) (by decide +kernel)), ⟨by decide, by decide, by decide +kernel⟩⟩
theorem lk_RX8_208 : LSt RX8 208 yJ9_min_7cf53 cJ9_min_7cf53 2 (some .int) 2 := ⟨Or.inl (wdT 707 (by decide +kernel) (by decide +kernel)), (wdT 300 (by decide +kernel) (by decide +kernel)), (wdT 71 (by decide +kernel) (by decide +kernel)), (wdT 301 (by decide +kernel) (by decide +kernel)), ⟨by decide, by decide, by decide +kernel⟩⟩
theorem lk_RL_64 : LV RL 64 yX8_knows cX8_knows 3 (some .boolean) 2 := ⟨Or.inl (wdT 711 (by decide +kernel) (by decide +kernel)), (wdT 712 (by decide +kernel) (by decide +kernel)), (wdT 713 (by decide +kernel) (by decide +kernel)), (wdT 55 (by decide +kernel) (by decide +kernel)), (wdT 714 (by decide +kernel) (by decide +kernel)), ⟨by decide, by decide, by decide +kernel⟩⟩
theorem lk_RL_67 : LV RL 67 yX8_due cX8_due 4 (some .int) 1 := ⟨Or.inl (wdT 718 (by decide +kernel) (by decide +kernel)), (wdT 719 (by decide +kernel) (by decide +kernel)), (wdT 720 (by decide +kernel) (by decide +kernel)), (wdT 55 (by decide +kernel) (by decide +kernel)), (wdT 721 (by decide +kernel) (by decide +kernel)), ⟨by decide, by decide, by decide +kernel⟩⟩
theorem lk_RL_70 : LV RL 70 yX8_nextDue cX8_nextDue 2 (some .int) 1 := ⟨Or.inl (wdT 725 (by decide +kernel) (by decide +kernel)), (wdT 726 (by decide +kernel) (by decide +kernel)), (wdT 727 (by decide +kernel) (by decide +kernel)), (wdT 55 (by decide +kernel) (by decide +kernel)), (wdT 728 (by decide +kernel) (by decide +kernel)), ⟨by decide, by decide, by decide +kernel⟩⟩
theorem lk_RX8_213 : LV RX8 213 yX0_firstOf cX0_firstOf 4 (some .int) 1 := ⟨Or.inr ⟨RX8, (wdT 729 (by decide +kernel) (by decide +kernel))⟩, (wdT 731 (by decide +kernel) (by decide +kernel)), (wdT 40 (by decide +kernel) (by decide +kernel)), (wdT 60 (by decide +kernel) (by decide +kernel)), (wdT 732 (by decide +kernel) (by decide +kernel)), ⟨by decide, by decide, by decide +kernel⟩⟩
theorem lk_RL_73 : LV RL 73 yX8_pass cX8_pass 2 (some .int) 1 := ⟨Or.inl (wdT 736 (by decide +kernel) (by decide +kernel)), (wdT 737 (by decide +kernel) (by decide +kernel)), (wdT 738 (by decide +kernel) (by decide +kernel)), (wdT 55 (by decide +kernel) (by decide +kernel)), (wdT 739 (by decide +kernel) (by decide +kernel)), ⟨by decide, by decide, by decide +kernel⟩⟩
theorem lk_RL_79 : LI RL 79 yX9_init cX9_init 1 0 := ⟨Or.inl (wdT 743 (by decide +kernel) (by decide +kernel)), (wdT 744 (by decide +kernel) (by decide +kernel)), (wdT 61 (by decide +kernel) (by decide +kernel)), (wdT 745 (by decide +kernel) (by decide +kernel)), rfl, ⟨by decide, by decide, by decide +kernel⟩⟩
theorem lk_RL_86 : LV RL 86 yX9_thrown cX9_thrown 1 (some .int) 0 := ⟨Or.inl (wdT 821 (by decide +kernel) (by decide +kernel)), (wdT 822 (by decide +kernel) (by decide +kernel)), (wdT 823 (by decide +kernel) (by decide +kernel)), (wdT 61 (by decide +kernel) (by decide +kernel)), (wdT 824 (by decide +kernel) (by decide +kernel)), ⟨by decide, by decide, by decide +kernel⟩⟩
theorem lk_RL_85 : LV RL 85 yX9_addRule cX9_addRule 3 (some .int) 2 := ⟨Or.inl (wdT 825 (by decide +kernel) (by decide +kernel)), (wdT 826 (by decide +kernel) (by decide +kernel)), (wdT 827 (by decide +kernel) (by decide +kernel)), (wdT 61 (by decide +kernel) (by decide +kernel)), (wdT 828 (by decide +kernel) (by decide +kernel)), ⟨by decide, by decide, by decide +kernel⟩⟩
theorem lk_RX9_66 : LSt RX9 66 yX9_in cX9_in 3 (some .boolean) 3 := ⟨Or.inl (wdT 829 (by decide +kernel) (by decide +kernel)), (wdT 830 (by decide +kernel) (by decide +kernel)), (wdT 61 (by decide +kernel) (by decide +kernel)), (wdT 831 (by decide +kernel) (by decide +kernel)), ⟨by decide, by decide, by decide +kernel⟩⟩
theorem lk_RL_93 : LV RL 93 yX9_headwords cX9_headwords 4 (some .int) 1 := ⟨Or.inl (wdT 832 (by decide +kernel) (by decide +kernel)), (wdT 833 (by decide +kernel) (by decide +kernel)), (wdT 834 (by decide +kernel) (by decide +kernel)), (wdT 61 (by decide +kernel) (by decide +kernel)), (wdT 835 (by decide +kernel) (by decide +kernel)), ⟨by decide, by decide, by decide +kernel⟩⟩
theorem lk_RX9_76 : LSt RX9 76 yX9_isWord cX9_isWord 1 (some .boolean) 1 := ⟨Or.inl (wdT 836 (by decide +kernel) (by decide +kernel)), (wdT 837 (by decide +kernel) (by decide +kernel)), (wdT 61 (by decide +kernel) (by decide +kernel)), (wdT 838 (by decide +kernel) (by decide +kernel)), ⟨by decide, by decide, by decide +kernel⟩⟩
theorem lk_RX9_80 : LV RX9 80 yX9_forms cX9_forms 5 (some .boolean) 2 := ⟨Or.inl (wdT 839 (by decide +kernel) (by decide +kernel)), (wdT 841 (by decide +kernel) (by decide +kernel)), (wdT 41 (by decide +kernel) (by decide +kernel)), (wdT 61 (by decide +kernel) (by decide +kernel)), (wdT 842 (by decide +kernel) (by decide +kernel)), ⟨by decide, by decide, by decide +kernel⟩⟩
theorem lk_RL_96 : LV RL 96 yX9_isForm cX9_isForm 3 (some .boolean) 2 := ⟨Or.inl (wdT 843 (by decide +kernel) (by decide +kernel)), (wdT 844 (by decide +kernel) (by decide +kernel)), (wdT 845 (by decide +kernel) (by decide +kernel)), (wdT 61 (by decide +kernel) (by decide +kernel)), (wdT 846 (by decide +kernel) (by decide +kernel)), ⟨by decide, by decide, by decide +kernel⟩⟩
theorem lk_RL_99 : LV RL 99 yX9_part cX9_part 2 (some .int) 1 := ⟨Or.inl (wdT 847 (by decide +kernel) (by decide +kernel)), (wdT 848 (by decide +kernel) (by decide +kernel)), (wdT 849 (by decide +kernel) (by decide +kernel)), (wdT 61 (by decide +kernel) (by decide +kernel)), (wdT 850 (by decide +kernel) (by decide +kernel)), ⟨by decide, by decide, by decide +kernel⟩⟩
theorem lk_RL_102 : LV RL 102 yX9_addPhrase cX9_addPhrase 3 (some .int) 1 := ⟨Or.inl (wdT 851 (by decide +kernel) (by decide +kernel)), (wdT 852 (by decide +kernel) (by decide +kernel)), (wdT 853 (by decide +kernel) (by decide +kernel)), (wdT 61 (by decide +kernel) (by decide +kernel)), (wdT 854 (by decide +kernel) (by decide +kernel)), ⟨by decide, by decide, by decide +kernel⟩⟩
theorem lk_RX9_87 : LV RX9 87 yX9_makes cX9_makes 3 (some .int) 2 := ⟨Or.inl (wdT 855 (by decide +kernel) (by decide +kernel)), (wdT 857 (by decide +kernel) (by decide +kernel)), (wdT 42 (by decide +kernel) (by decide +kernel)), (wdT 61 (by decide +kernel) (by decide +kernel)), (wdT 858 (by decide +kernel) (by decide +kernel)), ⟨by decide, by decide, by decide +kernel⟩⟩
theorem lk_RL_106 : LV RL 106 yX9_addSplit cX9_addSplit 5 (some .int) 4 := ⟨Or.inl (wdT 859 (by decide +kernel) (by decide +kernel)), (wdT 860 (by decide +kernel) (by decide +kernel)), (wdT 861 (by decide +kernel) (by decide +kernel)), (wdT 61 (by decide +kernel) (by decide +kernel)), (wdT 862 (by decide +kernel) (by decide +kernel)), ⟨by decide, by decide, by decide +kernel⟩⟩
theorem lk_RL_109 : LV RL 109 yX9_takeOut cX9_takeOut 4 (some .int) 1 := ⟨Or.inl (wdT 863 (by decide +kernel) (by decide +kernel)), (wdT 864 (by decide +kernel) (by decide +kernel)), (wdT 865 (by decide +kernel) (by decide +kernel)), (wdT 61 (by decide +kernel) (by decide +kernel)), (wdT 866 (by decide +kernel) (by decide +kernel)), ⟨by decide, by decide, by decide +kernel⟩⟩
theorem lk_RX9_91 : LV RX9 91 yX9_isEntry cX9_isEntry 2 (some .boolean) 1 := ⟨Or.inl (wdT 867 (by decide +kernel) (by decide +kernel)), (wdT 869 (by decide +kernel) (by decide +kernel)), (wdT 43 (by decide +kernel) (by decide +kernel)), (wdT 61 (by decide +kernel) (by decide +kernel)), (wdT 870 (by decide +kernel) (by decide +kernel)), ⟨by decide, by decide, by decide +kernel⟩⟩
theorem lk_RL_113 : LV RL 113 yX9_entries cX9_entries 3 (some .int) 0 := ⟨Or.inl (wdT 871 (by decide +kernel) (by decide +kernel)), (wdT 872 (by decide +kernel) (by decide +kernel)), (wdT 873 (by decide +kernel) (by decide +kernel)), (wdT 61 (by decide +kernel) (by decide +kernel)), (wdT 874 (by decide +kernel) (by decide +kernel)), ⟨by decide, by decide, by decide +kernel⟩⟩
theorem lk_RL_116 : LV RL 116 yX9_say cX9_say 2 (some .int) 1 := ⟨Or.inl (wdT 875 (by decide +kernel) (by decide +kernel)), (wdT 876 (by decide +kernel) (by decide +kernel)), (wdT 877 (by decide +kernel) (by decide +kernel)), (wdT 61 (by decide +kernel) (by decide +kernel)), (wdT 878 (by decide +kernel) (by decide +kernel)), ⟨by decide, by decide, by decide +kernel⟩⟩
theorem lk_RL_120 : LV RL 120 yX9_clear cX9_clear 2 (some .int) 0 := ⟨Or.inl (wdT 879 (by decide +kernel) (by decide +kernel)), (wdT 880 (by decide +kernel) (by decide +kernel)), (wdT 881 (by decide +kernel) (by decide +kernel)), (wdT 61 (by decide +kernel) (by decide +kernel)), (wdT 882 (by decide +kernel) (by decide +kernel)), ⟨by decide, by decide, by decide +kernel⟩⟩
theorem lk_RL_123 : LV RL 123 yX9_setBare cX9_setBare 3 (some .int) 1 := ⟨Or.inl (wdT 883 (by decide +kernel) (by decide +kernel)), (wdT 884 (by decide +kernel) (by decide +kernel)), (wdT 885 (by decide +kernel) (by decide +kernel)), (wdT 61 (by decide +kernel) (by decide +kernel)), (wdT 886 (by decide +kernel) (by decide +kernel)), ⟨by decide, by decide, by decide +kernel⟩⟩
theorem lk_RL_127 : LV RL 127 yX9_standings cX9_standings 1 (some .int) 0 := ⟨Or.inl (wdT 887 (by decide +kernel) (by decide +kernel)), (wdT 888 (by decide +kernel) (by decide +kernel)), (wdT 889 (by decide +kernel) (by decide +kernel)), (wdT 61 (by decide +kernel) (by decide +kernel)), (wdT 890 (by decide +kernel) (by decide +kernel)), ⟨by decide, by decide, by decide +kernel⟩⟩
theorem lk_RX9_103 : LV RX9 103 yX9_finds cX9_finds 3 none 0 := ⟨Or.inl (wdT 891 (by decide +kernel) (by decide +kernel)), (wdT 893 (by decide +kernel) (by decide +kernel)), (wdT 44 (by decide +kernel) (by decide +kernel)), (wdT 61 (by decide +kernel) (by decide +kernel)), (wdT 894 (by decide +kernel) (by decide +kernel)), ⟨by decide, by decide, by decide +kernel⟩⟩
theorem lk_RX9_100 : LV RX9 100 yX9_stands cX9_stands 8 (some .boolean) 2 := ⟨Or.inl (wdT 895 (by decide +kernel) (by decide +kernel)), (wdT 897 (by decide +kernel) (by decide +kernel)), (wdT 45 (by decide +kernel) (by decide +kernel)), (wdT 61 (by decide +kernel) (by decide +kernel)), (wdT 898 (by decide +kernel) (by decide +kernel)), ⟨by decide, by decide, by decide +kernel⟩⟩
theorem lk_RL_131 : LV RL 131 yX9_cost cX9_cost 1 (some .int) 0 := ⟨Or.inl (wdT 899 (by decide +kernel) (by decide +kernel)), (wdT 900 (by decide +kernel) (by decide +kernel)), (wdT 901 (by decide +kernel) (by decide +kernel)), (wdT 61 (by decide +kernel) (by decide +kernel)), (wdT 902 (by decide +kernel) (by decide +kernel)), ⟨by decide, by decide, by decide +kernel⟩⟩
theorem lk_RX9_113 : LV RX9 113 yX9_covers cX9_covers 7 (some .int) 0 := ⟨Or.inl (wdT 903 (by decide +kernel) (by decide +kernel)), (wdT 905 (by decide +kernel) (by decide +kernel)), (wdT 46 (by decide +kernel) (by decide +kernel)), (wdT 61 (by decide +kernel) (by decide +kernel)), (wdT 906 (by decide +kernel) (by decide +kernel)), ⟨by decide, by decide, by decide +kernel⟩⟩
theorem lk_RX9_106 : LV RX9 106 yX9_firstFree cX9_firstFree 3 (some .int) 1 := ⟨Or.inl (wdT 907 (by decide +kernel) (by decide +kernel)), (wdT 909 (by decide +kernel) (by decide +kernel)), (wdT 47 (by decide +kernel) (by decide +kernel)), (wdT 61 (by decide +kernel) (by decide +kernel)), (wdT 910 (by decide +kernel) (by decide +kernel)), ⟨by decide, by decide, by decide +kernel⟩⟩
theorem lk_RX9_110 : LV RX9 110 yX9_chooses cX9_chooses 6 (some .int) 2 := ⟨Or.inl (wdT 911 (by decide +kernel) (by decide +kernel)), (wdT 913 (by decide +kernel) (by decide +kernel)), (wdT 48 (by decide +kernel) (by decide +kernel)), (wdT 61 (by decide +kernel) (by decide +kernel)), (wdT 914 (by decide +kernel) (by decide +kernel)), ⟨by decide, by decide, by decide +kernel⟩⟩
theorem lk_RL_135 : LV RL 135 yX9_costByAll cX9_costByAll 1 (some .int) 0 := ⟨Or.inl (wdT 915 (by decide +kernel) (by decide +kernel)), (wdT 916 (by decide +kernel) (by decide +kernel)), (wdT 917 (by decide +kernel) (by decide +kernel)), (wdT 61 (by decide +kernel) (by decide +kernel)), (wdT 918 (by decide +kernel) (by decide +kernel)), ⟨by decide, by decide, by decide +kernel⟩⟩
theorem lk_RL_138 : LV RL 138 yX9_glossAt cX9_glossAt 2 (some .int) 1 := ⟨Or.inl (wdT 919 (by decide +kernel) (by decide +kernel)), (wdT 920 (by decide +kernel) (by decide +kernel)), (wdT 921 (by decide +kernel) (by decide +kernel)), (wdT 61 (by decide +kernel) (by decide +kernel)), (wdT 922 (by decide +kernel) (by decide +kernel)), ⟨by decide, by decide, by decide +kernel⟩⟩
theorem lk_RX9_117 : LV RX9 117 yX9_told cX9_told 3 (some .int) 2 := ⟨Or.inl (wdT 923 (by decide +kernel) (by decide +kernel)), (wdT 925 (by decide +kernel) (by decide +kernel)), (wdT 49 (by decide +kernel) (by decide +kernel)), (wdT 61 (by decide +kernel) (by decide +kernel)), (wdT 926 (by decide +kernel) (by decide +kernel)), ⟨by decide, by decide, by decide +kernel⟩⟩
theorem lk_RL_141 : LV RL 141 yX9_placesAt cX9_placesAt 2 (some .int) 1 := ⟨Or.inl (wdT 927 (by decide +kernel) (by decide +kernel)), (wdT 928 (by decide +kernel) (by decide +kernel)), (wdT 929 (by decide +kernel) (by decide +kernel)), (wdT 61 (by decide +kernel) (by decide +kernel)), (wdT 930 (by decide +kernel) (by decide +kernel)), ⟨by decide, by decide, by decide +kernel⟩⟩
theorem lk_RL_144 : LV RL 144 yX9_newEntries cX9_newEntries 6 (some .int) 1 := ⟨Or.inl (wdT 931 (by decide +kernel) (by decide +kernel)), (wdT 932 (by decide +kernel) (by decide +kernel)), (wdT 933 (by decide +kernel) (by decide +kernel)), (wdT 61 (by decide +kernel) (by decide +kernel)), (wdT 934 (by decide +kernel) (by decide +kernel)), ⟨by decide, by decide, by decide +kernel⟩⟩
theorem lk_RX9_121 : LV RX9 121 yX9_isReader cX9_isReader 2 (some .boolean) 1 := ⟨Or.inl (wdT 935 (by decide +kernel) (by decide +kernel)), (wdT 937 (by decide +kernel) (by decide +kernel)), (wdT 50 (by decide +kernel) (by decide +kernel)), (wdT 61 (by decide +kernel) (by decide +kernel)), (wdT 938 (by decide +kernel) (by decide +kernel)), ⟨by decide, by decide, by decide +kernel⟩⟩
theorem lk_RL_147 : LV RL 147 yX9_learn cX9_learn 4 (some .int) 2 := ⟨Or.inl (wdT 939 (by decide +kernel) (by decide +kernel)), (wdT 940 (by decide +kernel) (by decide +kernel)), (wdT 941 (by decide +kernel) (by decide +kernel)), (wdT 61 (by decide +kernel) (by decide +kernel)), (wdT 942 (by decide +kernel) (by decide +kernel)), ⟨by decide, by decide, by decide +kernel⟩⟩
theorem lk_RX9_124 : LV RX9 124 yX9_barsCard cX9_barsCard 3 (some .int) 2 := ⟨Or.inl (wdT 943 (by decide +kernel) (by decide +kernel)), (wdT 945 (by decide +kernel) (by decide +kernel)), (wdT 51 (by decide +kernel) (by decide +kernel)), (wdT 61 (by decide +kernel) (by decide +kernel)), (wdT 946 (by decide +kernel) (by decide +kernel)), ⟨by decide, by decide, by decide +kernel⟩⟩
theorem lk_RX9_127 : LV RX9 127 yX9_fails cX9_fails 2 (some .int) 1 := ⟨Or.inl (wdT 947 (by decide +kernel) (by decide +kernel)), (wdT 949 (by decide +kernel) (by decide +kernel)), (wdT 52 (by decide +kernel) (by decide +kernel)), (wdT 61 (by decide +kernel) (by decide +kernel)), (wdT 950 (by decide +kernel) (by decide +kernel)), ⟨by decide, by decide, by decide +kernel⟩⟩
theorem lk_RX9_133 : LV RX9 133 yX9_cards cX9_cards 4 (some .int) 1 := ⟨Or.inl (wdT 951 (by decide +kernel) (by decide +kernel)), (wdT 953 (by decide +kernel) (by decide +kernel)), (wdT 53 (by decide +kernel) (by decide +kernel)), (wdT 61 (by decide +kernel) (by decide +kernel)), (wdT 954 (by decide +kernel) (by decide +kernel)), ⟨by decide, by decide, by decide +kernel⟩⟩
theorem lk_RL_151 : LV RL 151 yX9_review cX9_review 5 (some .int) 3 := ⟨Or.inl (wdT 955 (by decide +kernel) (by decide +kernel)), (wdT 956 (by decide +kernel) (by decide +kernel)), (wdT 957 (by decide +kernel) (by decide +kernel)), (wdT 61 (by decide +kernel) (by decide +kernel)), (wdT 958 (by decide +kernel) (by decide +kernel)), ⟨by decide, by decide, by decide +kernel⟩⟩
theorem lk_RL_154 : LV RL 154 yX9_knows cX9_knows 3 (some .boolean) 2 := ⟨Or.inl (wdT 959 (by decide +kernel) (by decide +kernel)), (wdT 960 (by decide +kernel) (by decide +kernel)), (wdT 961 (by decide +kernel) (by decide +kernel)), (wdT 61 (by decide +kernel) (by decide +kernel)), (wdT 962 (by decide +kernel) (by decide +kernel)), ⟨by decide, by decide, by decide +kernel⟩⟩
theorem lk_RL_157 : LV RL 157 yX9_due cX9_due 6 (some .int) 1 := ⟨Or.inl (wdT 963 (by decide +kernel) (by decide +kernel)), (wdT 964 (by decide +kernel) (by decide +kernel)), (wdT 965 (by decide +kernel) (by decide +kernel)), (wdT 61 (by decide +kernel) (by decide +kernel)), (wdT 966 (by decide +kernel) (by decide +kernel)), ⟨by decide, by decide, by decide +kernel⟩⟩
theorem lk_RL_160 : LV RL 160 yX9_nextDue cX9_nextDue 6 (some .int) 1 := ⟨Or.inl (wdT 967 (by decide +kernel) (by decide +kernel)), (wdT 968 (by decide +kernel) (by decide +kernel)), (wdT 969 (by decide +kernel) (by decide +kernel)), (wdT 61 (by decide +kernel) (by decide +kernel)), (wdT 970 (by decide +kernel) (by decide +kernel)), ⟨by decide, by decide, by decide +kernel⟩⟩
theorem lk_RL_163 : LV RL 163 yX9_pass cX9_pass 2 (some .int) 1 := ⟨Or.inl (wdT 971 (by decide +kernel) (by decide +kernel)), (wdT 972 (by decide +kernel) (by decide +kernel)), (wdT 973 (by decide +kernel) (by decide +kernel)), (wdT 61 (by decide +kernel) (by decide +kernel)), (wdT 974 (by decide +kernel) (by decide +kernel)), ⟨by decide, by decide, by decide +kernel⟩⟩
theorem nw_RL_8 : NW RL 8 7 [.null, .null, .null, .null, .null, .null, .null, .int 0, .int 0, .int 0, .int 0] := ⟨RX8, TX8, 11, tyX8, rfl, rfl, inT_RX8, tyX8_ok, (wdT 76 (by decide +kernel) (by decide +kernel)), (wdT 77 (by decide +kernel) (by decide +kernel)), (wdT 55 (by decide +kernel) (by decide +kernel)), fun j hj => by
  rcases (show j = 0 ∨ j = 1 ∨ j = 2 ∨ j = 3 ∨ j = 4 ∨ j = 5 ∨ j = 6 ∨ j = 7 ∨ j = 8 ∨ j = 9 ∨ j = 10 by omega) with rfl | rfl | rfl | rfl | rfl | rfl | rfl | rfl | rfl | rfl | rfl <;> rfl⟩
theorem nw_RX8_9 : NW RX8 9 3 [.null, .null, .int 0] := ⟨RX4, TX4, 3, tyX4, rfl, rfl, inT_RX4, tyX4_ok, (wdT 84 (by decide +kernel) (by decide +kernel)), (wdT 85 (by decide +kernel) (by decide +kernel)), (wdT 56 (by decide +kernel) (by decide +kernel)), fun j hj => by
  rcases (show j = 0 ∨ j = 1 ∨ j = 2 by omega) with rfl | rfl | rfl <;> rfl⟩
theorem nw_RX8_16 : NW RX8 16 4 [.null, .int 0] := ⟨RX5, TX5, 2, tyX5, rfl, rfl, inT_RX5, tyX5_ok, (wdT 101 (by decide +kernel) (by decide +kernel)), (wdT 102 (by decide +kernel) (by decide +kernel)), (wdT 57 (by decide +kernel) (by decide +kernel)), fun j hj => by
  rcases (show j = 0 ∨ j = 1 by omega) with rfl | rfl <;> rfl⟩
theorem nw_RX8_23 : NW RX8 23 6 [.null, .null, .null, .int 0] := ⟨RX7, TX7, 4, tyX7, rfl, rfl, inT_RX7, tyX7_ok, (wdT 115 (by decide +kernel) (by decide +kernel)), (wdT 116 (by decide +kernel) (by decide +kernel)), (wdT 58 (by decide +kernel) (by decide +kernel)), fun j hj => by
  rcases (show j = 0 ∨ j = 1 ∨ j = 2 ∨ j = 3 by omega) with rfl | rfl | rfl | rfl <;> rfl⟩
theorem nw_RX8_30 : NW RX8 30 1 [.null, .null] := ⟨RX1, TX1, 2, tyX1, rfl, rfl, inT_RX1, tyX1_ok, (wdT 136 (by decide +kernel) (by decide +kernel)), (wdT 137 (by decide +kernel) (by decide +kernel)), (wdT 59 (by decide +kernel) (by decide +kernel)), fun j hj => by
  rcases (show j = 0 ∨ j = 1 by omega) with rfl | rfl <;> rfl⟩
theorem nw_RX8_37 : NW RX8 37 0 [.null, .null] := ⟨RX0, TX0, 2, tyX0, rfl, rfl, inT_RX0, tyX0_ok, (wdT 151 (by decide +kernel) (by decide +kernel)), (wdT 152 (by decide +kernel) (by decide +kernel)), (wdT 60 (by decide +kernel) (by decide +kernel)), fun j hj => by
  rcases (show j = 0 ∨ j = 1 by omega) with rfl | rfl <;> rfl⟩
theorem nw_RX8_103 : NW RX8 103 2 [.int 0, .null] := ⟨RX3, TX3, 2, tyX3, rfl, rfl, inT_RX3, tyX3_ok, (wdT 486 (by decide +kernel) (by decide +kernel)), (wdT 234 (by decide +kernel) (by decide +kernel)), (wdT 69 (by decide +kernel) (by decide +kernel)), fun j hj => by
  rcases (show j = 0 ∨ j = 1 by omega) with rfl | rfl <;> rfl⟩
theorem nw_RX8_120 : NW RX8 120 5 [.int 0, .int 0, .int 0, .int 0] := ⟨RX6, TX6, 4, tyX6, rfl, rfl, inT_RX6, tyX6_ok, (wdT 531 (by decide +kernel) (by decide +kernel)), (wdT 259 (by decide +kernel) (by decide +kernel)), (wdT 73 (by decide +kernel) (by decide +kernel)), fun j hj => by
  rcases (show j = 0 ∨ j = 1 ∨ j = 2 ∨ j = 3 by omega) with rfl | rfl | rfl | rfl <;> rfl⟩
theorem nw_RL_77 : NW RL 77 8 [.int 0, .int 0, .null, .null, .int 0, .null, .int 0, .null, .null, .null, .null, .null, .int 0, .null, .int 0, .int 0, .null, .null, .null, .null, .null, .int 0, .null, .null] := ⟨RX9, TX9, 24, tyX9, rfl, rfl, inT_RX9, tyX9_ok, (wdT 741 (by decide +kernel) (by decide +kernel)), (wdT 742 (by decide +kernel) (by decide +kernel)), (wdT 61 (by decide +kernel) (by decide +kernel)), fun j hj => by
  rcases (show j = 0 ∨ j = 1 ∨ j = 2 ∨ j = 3 ∨ j = 4 ∨ j = 5 ∨ j = 6 ∨ j = 7 ∨ j = 8 ∨ j = 9 ∨ j = 10 ∨ j = 11 ∨ j = 12 ∨ j = 13 ∨ j = 14 ∨ j = 15 ∨ j = 16 ∨ j = 17 ∨ j = 18 ∨ j = 19 ∨ j = 20 ∨ j = 21 ∨ j = 22 ∨ j = 23 by omega) with rfl | rfl | rfl | rfl | rfl | rfl | rfl | rfl | rfl | rfl | rfl | rfl | rfl | rfl | rfl | rfl | rfl | rfl | rfl | rfl | rfl | rfl | rfl | rfl <;> rfl⟩
theorem wd_arr_int : Cond.arrayClass .int ∈ T1 := (wdT 100 (by decide +kernel) (by decide +kernel))
theorem wd_arr_byte : Cond.arrayClass .byte ∈ T1 := (wdT 399 (by decide +kernel) (by decide +kernel))
theorem wd_arr_boolean : Cond.arrayClass .boolean ∈ T1 := (wdT 820 (by decide +kernel) (by decide +kernel))
theorem wd_arr_long : Cond.arrayClass .long ∈ T1 := (wdT 975 (by decide +kernel) (by decide +kernel))
theorem wd_const_RJ6_264 : Cond.constant RJ6 264 (65536) ∈ T1 := (wdT 289 (by decide +kernel) (by decide +kernel))
theorem wd_const_RJ6_265 : Cond.constant RJ6 265 (1431655765) ∈ T1 := (wdT 317 (by decide +kernel) (by decide +kernel))
theorem wd_const_RJ6_266 : Cond.constant RJ6 266 (858993459) ∈ T1 := (wdT 318 (by decide +kernel) (by decide +kernel))
theorem wd_const_RJ6_267 : Cond.constant RJ6 267 (252645135) ∈ T1 := (wdT 319 (by decide +kernel) (by decide +kernel))
end
section
/-! ===== numbers: an int by its Nat, by an option (-1 for none), by a Bool ===== -/
theorem nI_and (a b : Nat) : nI a &&& nI b = nI (a &&& b) := by
  apply Int32.toBitVec_inj.1
  show BitVec.ofNat 32 a &&& BitVec.ofNat 32 b = BitVec.ofNat 32 (a &&& b)
  apply BitVec.eq_of_getLsbD_eq
  intro i hi
  simp [hi]
theorem nI_or (a b : Nat) : nI a ||| nI b = nI (a ||| b) := by
  apply Int32.toBitVec_inj.1
  show BitVec.ofNat 32 a ||| BitVec.ofNat 32 b = BitVec.ofNat 32 (a ||| b)
  apply BitVec.eq_of_getLsbD_eq
  intro i hi
  simp [hi]
theorem sh_l : ∀ n, n < 32 → ((nI n &&& 31).toBitVec.smod 32).toNat = n := by decide +kernel
theorem nI_shl (a k : Nat) (hk : k < 32) : nI a <<< (nI k &&& 31) = nI (a * 2 ^ k) := by
  apply Int32.toBitVec_inj.mp
  apply BitVec.eq_of_toNat_eq
  rw [pk_shl _ _ k (sh_l k hk)]
  show (BitVec.ofNat 32 a).toNat * 2 ^ k % 2 ^ 32 = (BitVec.ofNat 32 (a * 2 ^ k)).toNat
  rw [BitVec.toNat_ofNat, BitVec.toNat_ofNat, Nat.mod_mul_mod]
theorem nI_shr (a k : Nat) (ha : a < 2 ^ 31) (hk : k < 32) : nI a >>> (nI k &&& 31) = nI (a / 2 ^ k) := pk_shrN ha _ k (sh_l k hk)
theorem iincN1 (a : Nat) : nI a + Int32.ofInt 1 = nI (a + 1) := nI_add a 1
theorem iincN2 (a : Nat) : nI a + Int32.ofInt 2 = nI (a + 2) := nI_add a 2
theorem iincN4 (a : Nat) : nI a + Int32.ofInt 4 = nI (a + 4) := nI_add a 4
theorem iincN8 (a : Nat) : nI a + Int32.ofInt 8 = nI (a + 8) := nI_add a 8
theorem iincN16 (a : Nat) : nI a + Int32.ofInt 16 = nI (a + 16) := nI_add a 16
theorem iincN5 (a : Nat) : nI a + Int32.ofInt 5 = nI (a + 5) := nI_add a 5
theorem iincM1 (a : Nat) : nI (a + 1) + Int32.ofInt (-1) = nI a := pk_m1 a
theorem nar_b2i (b : Bool) : narrow .boolean (.int (b2i b)) = .int (b2i b) := by cases b <;> rfl
theorem vpn_b2i (b : Bool) : vp_nar .boolean (b2i b) = b2i b := by cases b <;> decide
theorem bT {b : Bool} (h : b = true) : nI 1 = b2i b := by rw [h]; rfl
theorem bF {b : Bool} (h : b = false) : nI 0 = b2i b := by rw [h]; rfl
def nA (f : Nat → Nat) : Nat → Int32 := fun j => nI (f j)
def zA (f : Nat → Bool) : Nat → Int32 := fun j => b2i (f j)
def oI (o : Option Nat) : Int32 := match o with
  | none => -1
  | some i => nI i
def oA (f : Nat → Option Nat) : Nat → Int32 := fun j => oI (f j)
theorem nA_up (f : Nat → Nat) (j v : Nat) : upd (nA f) j (nI v) = nA (va_up f j v) := by
  funext q; by_cases h : q = j <;> simp [upd, nA, va_up, h]
theorem zA_up (f : Nat → Bool) (j : Nat) (v : Bool) : upd (zA f) j (b2i v) = zA (va_up f j v) := by
  funext q; by_cases h : q = j <;> simp [upd, zA, va_up, h]
theorem oA_up (f : Nat → Option Nat) (j : Nat) (v : Option Nat) : upd (oA f) j (oI v) = oA (va_up f j v) := by
  funext q; by_cases h : q = j <;> simp [upd, oA, va_up, h]
theorem nA_0 : (fun _ => 0 : Nat → Int32) = nA (fun _ => 0) := rfl
theorem zA_0 : (fun _ => 0 : Nat → Int32) = zA (fun _ => false) := rfl
theorem nI_m1 {h : Nat} (hh : h < 2 ^ 31) : ¬ nI h = -1 := by
  intro q
  have a := nI_toInt hh
  rw [q] at a
  have : (-1 : Int32).toInt = -1 := by decide
  omega
theorem oI_m1 {o : Option Nat} (ho : ∀ h, o = some h → h < 2 ^ 31) : oI o = -1 ↔ o = none := by
  cases o with
  | none => exact ⟨fun _ => rfl, fun _ => rfl⟩
  | some h => exact ⟨fun q => absurd q (nI_m1 (ho h rfl)), fun q => by cases q⟩
theorem pk_remN {a d : Nat} (ha : a < 2 ^ 31) (h0 : 0 < d) (hd : d < 2 ^ 31) : nI a - nI a / nI d * nI d = nI (a % d) := pk_rem ha h0 hd
/-- an int by its Int -/
def zI (z : Int) : Int32 := Int32.ofInt z
theorem zI_n (n : Nat) : nI n = zI (n : Int) := rfl
theorem zI_add (a b : Int) : zI a + zI b = zI (a + b) := (Int32.ofInt_add a b).symm
theorem zI_sub (a b : Int) : zI a - zI b = zI (a - b) := (Int32.ofInt_sub a b).symm
theorem zI_toInt {a : Int} (h1 : -2147483648 ≤ a) (h2 : a < 2147483648) : (zI a).toInt = a := by
  show (Int32.ofInt a).toInt = a
  rw [Int32.toInt_ofInt]
  have hs : (Int32.size : Int) = 4294967296 := rfl
  exact Int.bmod_eq_of_le (by omega) (by omega)
theorem min_Z {a b : Int} (ha : -2147483648 ≤ a ∧ a < 2147483648) (hb : -2147483648 ≤ b ∧ b < 2147483648) : (if zI b < zI a then zI b else zI a) = zI (min a b) := by
  by_cases h : b < a
  · rw [if_pos (by rw [Int32.lt_iff_toInt_lt, zI_toInt ha.1 ha.2, zI_toInt hb.1 hb.2]; exact h), Int.min_eq_right (Int.le_of_lt h)]
  · rw [if_neg (by rw [Int32.lt_iff_toInt_lt, zI_toInt ha.1 ha.2, zI_toInt hb.1 hb.2]; exact h), Int.min_eq_left (Int.not_lt.mp h)]
section GR
variable {p : Program} {l : Launch} {e : Env} {R : Room} {s : State} {m : MethodId} {args : Array Value} {below : List Frame} {meth : Method} {c : Code} {κ : KK} {own : String} {cc : ByteArray} {nL : Nat} {ret : Option FieldType}
variable {J : JJ} {ws : va_W} {k n : Nat} {Q : State → Prop} {pc pc' : Nat} {lv : List (Nat × Value)} {st : List Value}
theorem g_ialdN (C : Cx p s m meth c κ own cc nL ret) (q0 : Nat) {a z : Nat} {f : Nat → Nat} (he : ws[q0]? = some (a, .inl (κ.2 0, z, .inl (nA f)))) (j : Nat) (hj : j < z) (hz : z < 2 ^ 31) (hd : decode cc pc = .ok (.iaload, 1)) (hp : pc + 1 = pc') (K : G p l e R s m args below meth c κ nL J ws k n Q pc' lv (.int (nI (f j)) :: st)) : G p l e R s m args below meth c κ nL J ws k n Q pc lv (.int (nI j) :: .ref a :: st) := g_iald C q0 he j hj hz hd hp K
theorem g_ialdO (C : Cx p s m meth c κ own cc nL ret) (q0 : Nat) {a z : Nat} {f : Nat → Option Nat} (he : ws[q0]? = some (a, .inl (κ.2 0, z, .inl (oA f)))) (j : Nat) (hj : j < z) (hz : z < 2 ^ 31) (hd : decode cc pc = .ok (.iaload, 1)) (hp : pc + 1 = pc') (K : G p l e R s m args below meth c κ nL J ws k n Q pc' lv (.int (oI (f j)) :: st)) : G p l e R s m args below meth c κ nL J ws k n Q pc lv (.int (nI j) :: .ref a :: st) := g_iald C q0 he j hj hz hd hp K
theorem g_ialdOs (C : Cx p s m meth c κ own cc nL ret) (q0 : Nat) {a z : Nat} {f : Nat → Option Nat} (he : ws[q0]? = some (a, .inl (κ.2 0, z, .inl (oA f)))) (j : Nat) {h : Nat} (hf : f j = some h) (hj : j < z) (hz : z < 2 ^ 31) (hd : decode cc pc = .ok (.iaload, 1)) (hp : pc + 1 = pc') (K : G p l e R s m args below meth c κ nL J ws k n Q pc' lv (.int (nI h) :: st)) : G p l e R s m args below meth c κ nL J ws k n Q pc lv (.int (nI j) :: .ref a :: st) := by
  refine g_iald C q0 he j hj hz hd hp ?_
  have e : oA f j = nI h := by show oI (f j) = _; rw [hf]; rfl
  rw [e]; exact K
theorem g_zaldB (C : Cx p s m meth c κ own cc nL ret) (q0 : Nat) {a z : Nat} {f : Nat → Bool} (he : ws[q0]? = some (a, .inl (κ.2 1, z, .inl (zA f)))) (j : Nat) (hj : j < z) (hz : z < 2 ^ 31) (hd : decode cc pc = .ok (.baload, 1)) (hp : pc + 1 = pc') (K : G p l e R s m args below meth c κ nL J ws k n Q pc' lv (.int (b2i (f j)) :: st)) : G p l e R s m args below meth c κ nL J ws k n Q pc lv (.int (nI j) :: .ref a :: st) := g_zald C q0 he j hj hz hd hp K
theorem g_iastN {A : Nat → Prop} (C : Cx p s m meth c κ own cc nL ret) (q0 : Nat) {a z : Nat} {f : Nat → Nat} {x : Nat} (he : ws[q0]? = some (a, .inl (κ.2 0, z, .inl (nA f)))) (j : Nat) (hj : j < z) (hz : z < 2 ^ 31) {ws' : va_W} (hw : ws.set q0 (a, .inl (κ.2 0, z, .inl (nA (va_up f j x)))) = ws') (hd : decode cc pc = .ok (.iastore, 1)) (hp : pc + 1 = pc') (K : G p l e R s m args below meth c κ nL (JM A s) ws' k n Q pc' lv st) : G p l e R s m args below meth c κ nL (JM A s) ws k n Q pc lv (.int (nI x) :: .int (nI j) :: .ref a :: st) :=
  g_iast C q0 he j hj hz (by rw [nA_up]; exact hw) hd hp K
theorem g_iastO {A : Nat → Prop} (C : Cx p s m meth c κ own cc nL ret) (q0 : Nat) {a z : Nat} {f : Nat → Option Nat} {x : Option Nat} {v : Int32} (hv : oI x = v) (he : ws[q0]? = some (a, .inl (κ.2 0, z, .inl (oA f)))) (j : Nat) (hj : j < z) (hz : z < 2 ^ 31) {ws' : va_W} (hw : ws.set q0 (a, .inl (κ.2 0, z, .inl (oA (va_up f j x)))) = ws') (hd : decode cc pc = .ok (.iastore, 1)) (hp : pc + 1 = pc') (K : G p l e R s m args below meth c κ nL (JM A s) ws' k n Q pc' lv st) : G p l e R s m args below meth c κ nL (JM A s) ws k n Q pc lv (.int v :: .int (nI j) :: .ref a :: st) := by
  subst hv
  exact g_iast C q0 he j hj hz (by rw [oA_up]; exact hw) hd hp K
theorem g_zastB {A : Nat → Prop} (C : Cx p s m meth c κ own cc nL ret) (q0 : Nat) {a z : Nat} {f : Nat → Bool} (x : Bool) {v : Int32} (hv : b2i x = v) (he : ws[q0]? = some (a, .inl (κ.2 1, z, .inl (zA f)))) (j : Nat) (hj : j < z) (hz : z < 2 ^ 31) {ws' : va_W} (hw : ws.set q0 (a, .inl (κ.2 1, z, .inl (zA (va_up f j x)))) = ws') (hd : decode cc pc = .ok (.bastore, 1)) (hp : pc + 1 = pc') (K : G p l e R s m args below meth c κ nL (JM A s) ws' k n Q pc' lv st) : G p l e R s m args below meth c κ nL (JM A s) ws k n Q pc lv (.int v :: .int (nI j) :: .ref a :: st) := by
  subst hv
  exact g_zast C q0 he j hj hz (vpn_b2i x) (by rw [zA_up]; exact hw) hd hp K
theorem g_icmp_eqO (C : Cx p s m meth c κ own cc nL ret) {o : Option Nat} (ho : ∀ h, o = some h → h < 2 ^ 31) {off : Int} {tgt : Nat} (hd : decode cc pc = .ok (.if_icmp .eq off, 3)) (ht : (pc : Int) + off = (tgt : Int)) (hp : pc + 3 = pc') (kt : o = none → G p l e R s m args below meth c κ nL J ws k n Q tgt lv st) (kf : ∀ h, o = some h → G p l e R s m args below meth c κ nL J ws k n Q pc' lv st) : G p l e R s m args below meth c κ nL J ws k n Q pc lv (.int (-1) :: .int (oI o) :: st) := by
  refine g_icmp_eq C hd ht hp (fun z => kt ((oI_m1 ho).mp z)) (fun z => ?_)
  cases h : o with
  | none => exact absurd ((oI_m1 ho).mpr h) z
  | some i => exact kf i h
theorem g_icmp_neO (C : Cx p s m meth c κ own cc nL ret) {o : Option Nat} (ho : ∀ h, o = some h → h < 2 ^ 31) {off : Int} {tgt : Nat} (hd : decode cc pc = .ok (.if_icmp .ne off, 3)) (ht : (pc : Int) + off = (tgt : Int)) (hp : pc + 3 = pc') (kt : ∀ h, o = some h → G p l e R s m args below meth c κ nL J ws k n Q tgt lv st) (kf : o = none → G p l e R s m args below meth c κ nL J ws k n Q pc' lv st) : G p l e R s m args below meth c κ nL J ws k n Q pc lv (.int (-1) :: .int (oI o) :: st) := by
  refine g_icmp_ne C hd ht hp (fun z => ?_) (fun z => kf ((oI_m1 ho).mp z))
  cases h : o with
  | none => exact absurd ((oI_m1 ho).mpr h) z
  | some i => exact kt i h
theorem g_val {x y : Int32} (h : x = y) (K : G p l e R s m args below meth c κ nL J ws k n Q pc lv (.int y :: st)) : G p l e R s m args below meth c κ nL J ws k n Q pc lv (.int x :: st) := by rw [h]; exact K
theorem g_O {o : Option Nat} (kn : o = none → G p l e R s m args below meth c κ nL J ws k n Q pc lv (.int (-1) :: st)) (ks : ∀ x, o = some x → G p l e R s m args below meth c κ nL J ws k n Q pc lv (.int (nI x) :: st)) : G p l e R s m args below meth c κ nL J ws k n Q pc lv (.int (oI o) :: st) := by
  cases h : o with
  | none => exact kn h
  | some x => exact ks x h
theorem g_min (C : Cx p s m meth c κ own cc nL ret) {idx : Nat} (h1 : Cond.methodLink own idx Lib.Math.min.name ∈ T1) (h2 : Cond.static Lib.Math.min.name ∈ T1) (h3 : Cond.initialized "java/lang/Math" ∈ T1) (h4 : Cond.code Lib.Math.min.name Lib.Math.min.code 2 (some .int) ∈ T1) (hf : 1 ≤ R.frames) (hl0 : (st.map fun v => v.category).sum + 13 ≤ R.locals) (hk : k ≤ R.cells ∧ n ≤ R.slots) {x y v : Int32} (hv : (if y < x then y else x) = v) (hd : decode cc pc = .ok (.invokestatic idx, 3)) (hp : pc + 3 = pc') (K : G p l e R s m args below meth c κ nL J ws k n Q pc' lv (.int v :: st)) : G p l e R s m args below meth c κ nL J ws k n Q pc lv (.int y :: .int x :: st) := by
  subst hp; subst hv
  exact fun H locs ls hP hJ hl => va_mmin C.1 C.2.1 (C.2.2.1.trans hl.1.symm) C.2.2.2.2.2.1 (C.2.2.2.2.2.2.2 _ h1 args) (C.2.2.2.2.2.2.2 _ h2 args) (C.2.2.2.2.2.2.2 _ h3 args) (C.2.2.2.2.2.2.2 _ h4 args) hf hl0 hk.1 hk.2 hd (K H locs ls hP hJ hl)
theorem min_N {a b : Nat} (ha : a < 2 ^ 31) (hb : b < 2 ^ 31) : (if nI b < nI a then nI b else nI a) = nI (min a b) := by
  by_cases h : b < a
  · rw [if_pos ((nI_ltI hb ha).mpr h), Nat.min_eq_right (Nat.le_of_lt h)]
  · rw [if_neg (fun q => h ((nI_ltI hb ha).mp q)), Nat.min_eq_left (Nat.not_lt.mp h)]
end GR
theorem mn_RX1_38 : Cond.methodLink RX1 38 Lib.Math.min.name ∈ T1 := wdT 299 (by decide +kernel) (by decide +kernel)
theorem mn_RX7_48 : Cond.methodLink RX7 48 Lib.Math.min.name ∈ T1 := wdT 321 (by decide +kernel) (by decide +kernel)
theorem mn_RJ7_304 : Cond.methodLink RJ7 304 Lib.Math.min.name ∈ T1 := wdT 497 (by decide +kernel) (by decide +kernel)
theorem mn_RX8_208 : Cond.methodLink RX8 208 Lib.Math.min.name ∈ T1 := wdT 707 (by decide +kernel) (by decide +kernel)
theorem wd_mn2 : Cond.static Lib.Math.min.name ∈ T1 := wdT 300 (by decide +kernel) (by decide +kernel)
theorem wd_mn3 : Cond.initialized "java/lang/Math" ∈ T1 := wdT 71 (by decide +kernel) (by decide +kernel)
theorem wd_mn4 : Cond.code Lib.Math.min.name Lib.Math.min.code 2 (some .int) ∈ T1 := wdT 301 (by decide +kernel) (by decide +kernel)
theorem nI_shl1 (k : Nat) (hk : k < 32) : nI 1 <<< (nI k &&& 31) = nI (2 ^ k) := by rw [nI_shl 1 k hk, Nat.one_mul]
theorem nI_pm1 (a : Nat) : nI a + (-1) = nI a - 1 := by rw [Int32.sub_eq_add_neg]
theorem nI_sub1 (a : Nat) : nI (a + 1) - 1 = nI a := nI_pred a
end
section
/-! ===== what the methods say, in plain words: forms, standings, covers ===== -/
/-- does a rule among the first i lead the word w back to the headword h -/
def fmL (fk fs : Nat → Nat) (w h : Nat) : Nat → Bool
  | 0 => false
  | i + 1 => fmL fk fs w h i || (decide (fk i = h % 3) && decide (w = h + fs i))
def fm (n : Nat) (fk fs : Nat → Nat) (w h : Nat) : Bool := decide (w = h) || fmL fk fs w h n
/-- the standings, a row each: the entry's number, the set of its places, its price -/
abbrev SL : Type := List (Nat × Nat × Nat)
/-- the lowest place of a set -/
def tz6 (s : Nat) : Nat := if s % 2 = 1 then 0 else if s / 2 % 2 = 1 then 1 else if s / 4 % 2 = 1 then 2 else if s / 8 % 2 = 1 then 3 else if s / 16 % 2 = 1 then 4 else if s / 32 % 2 = 1 then 5 else 32
def fits (s place taken : Nat) : Bool := decide (tz6 s = place) && decide (s &&& taken = 0)
/-- the bit of a place in a set -/
def tb (t p : Nat) : Bool := decide (t / 2 ^ p &&& 1 = 1)
theorem tb_t {t p : Nat} (h : t / 2 ^ p &&& 1 = 1) : tb t p = true := decide_eq_true h
theorem tb_n {t p : Nat} (h : t / 2 ^ p &&& 1 ≠ 1) : ¬ tb t p = true := fun q => h (of_decide_eq_true q)
theorem tb_f {t p : Nat} (h : t / 2 ^ p &&& 1 ≠ 1) : tb t p = false := decide_eq_false h
theorem tb_n0 {t p : Nat} (h : t / 2 ^ p &&& 1 = 0) : ¬ tb t p = true := tb_n (by omega)
theorem tb_t0 {t p : Nat} (h : t / 2 ^ p &&& 1 ≠ 0) : tb t p = true := tb_t (by have h2 : t / 2 ^ p &&& 1 ≤ 1 := Nat.and_le_right; omega)
theorem bit_le (t p : Nat) : t / 2 ^ p &&& 1 ≤ 1 := Nat.and_le_right
/-- the least cost from a place on, by the first i standings; m: the costs of the next place -/
def lfN (m : Nat → Nat) (fp fr : Nat → Nat) (pl tk idl : Nat) : Nat → Nat
  | 0 => idl + m tk
  | i + 1 => if fits (fp i) pl tk = true then min (lfN m fp fr pl tk idl i) (fr i + m (tk ||| fp i)) else lfN m fp fr pl tk idl i
def lfR (m : Nat → Nat) (fp fr : Nat → Nat) (cnt pl tk idl : Nat) : Nat := if tb tk pl = true then m tk else lfN m fp fr pl tk idl cnt
/-- the costs of the last k places -/
def optR (fp fr : Nat → Nat) (cnt size bare : Nat) : Nat → Nat → Nat
  | 0 => fun _ => 0
  | k + 1 => fun t => lfR (optR fp fr cnt size bare k) fp fr cnt (5 - k) t (if 5 - k < size then bare else 0)
def FW (cnt : Nat) (fp fr : Nat → Nat) : Prop := cnt ≤ 120 ∧ ∀ i, i < cnt → 0 < fp i ∧ fp i < 64 ∧ fr i ≤ 20
def MW (M : Nat → Nat → Nat) : Prop := ∀ i t, M i t ≤ 300
theorem lfN_le {m : Nat → Nat} {fp fr : Nat → Nat} {pl tk idl : Nat} : ∀ i, lfN m fp fr pl tk idl i ≤ idl + m tk
  | 0 => Nat.le_refl _
  | i + 1 => by
    have h := lfN_le (m := m) (fp := fp) (fr := fr) (pl := pl) (tk := tk) (idl := idl) i
    simp only [lfN]
    split
    · omega
    · exact h
theorem lfR_le {m : Nat → Nat} {fp fr : Nat → Nat} {cnt pl tk idl : Nat} : lfR m fp fr cnt pl tk idl ≤ idl + m tk := by
  unfold lfR
  split
  · omega
  · exact lfN_le cnt
theorem optR_le {fp fr : Nat → Nat} {cnt size bare : Nat} (hb : bare ≤ 50) : ∀ k t, optR fp fr cnt size bare k t ≤ 50 * k
  | 0, _ => Nat.le_refl _
  | k + 1, t => by
    have h := optR_le (fp := fp) (fr := fr) (cnt := cnt) (size := size) hb k t
    have h2 := lfR_le (m := optR fp fr cnt size bare k) (fp := fp) (fr := fr) (cnt := cnt) (pl := 5 - k) (tk := t) (idl := if 5 - k < size then bare else 0)
    simp only [optR]
    split at h2 <;> split <;> omega
theorem or64 {a b : Nat} (ha : a < 64) (hb : b < 64) : a ||| b < 64 := Nat.or_lt_two_pow (n := 6) ha hb
theorem and63 {x : Nat} (h : x < 64) : nI x &&& nI 63 = nI x := by
  rw [nI_and, show (63 : Nat) = 2 ^ 6 - 1 from rfl, Nat.and_two_pow_sub_one_eq_mod, Nat.mod_eq_of_lt h]
/-- the first number under n that is so -/
def firstB (P : Nat → Bool) : Nat → Option Nat
  | 0 => none
  | n + 1 => match firstB P n with
    | some i => some i
    | none => if P n = true then some n else none
theorem firstB_none {P : Nat → Bool} : ∀ {n : Nat}, (∀ j, j < n → P j = false) → firstB P n = none
  | 0, _ => rfl
  | n + 1, h => by simp [firstB, firstB_none (n := n) (fun j hj => h j (by omega)), h n (by omega)]
theorem firstB_is {P : Nat → Bool} {i : Nat} (h : ∀ j, j < i → P j = false) (hi : P i = true) : ∀ {n : Nat}, i < n → firstB P n = some i
  | 0, q => absurd q (Nat.not_lt_zero i)
  | n + 1, q => by
    rcases Nat.lt_or_ge i n with r | r
    · simp [firstB, firstB_is h hi r]
    · have e : i = n := by omega
      subst e
      simp [firstB, firstB_none h, hi]
theorem firstB_some {P : Nat → Bool} {i : Nat} : ∀ {n : Nat}, firstB P n = some i → i < n ∧ P i = true ∧ ∀ j, j < i → P j = false
  | 0, h => by simp [firstB] at h
  | n + 1, h => by
    simp only [firstB] at h
    cases q : firstB P n with
    | some k =>
      rw [q] at h
      have e : k = i := Option.some.inj h
      subst e
      obtain ⟨a, b, c⟩ := firstB_some q
      exact ⟨by omega, b, c⟩
    | none =>
      rw [q] at h
      have hn : ∀ j, j < n → P j = false := by
        intro j hj
        cases hp : P j with
        | false => rfl
        | true =>
          exfalso
          have : ∀ z, z < n → firstB P n ≠ none := by
            intro z hz hz2
            exact absurd hz2 (by
              intro hq
              have h0 : ∃ y, y ≤ j ∧ P y = true ∧ ∀ x, x < y → P x = false := by
                have : ∀ b, b ≤ j → (∃ y, y ≤ b ∧ P y = true ∧ ∀ x, x < y → P x = false) ∨ ∀ x, x ≤ b → P x = false := by
                  intro b
                  induction b with
                  | zero =>
                    intro _
                    cases h1 : P 0 with
                    | true => exact Or.inl ⟨0, Nat.le_refl _, h1, fun x hx => absurd hx (Nat.not_lt_zero x)⟩
                    | false => exact Or.inr (fun x hx => by have : x = 0 := by omega
                                                            rw [this]; exact h1)
                  | succ b ih =>
                    intro hb
                    rcases ih (by omega) with ⟨y, a, c, d⟩ | r
                    · exact Or.inl ⟨y, by omega, c, d⟩
                    · cases h1 : P (b + 1) with
                      | true => exact Or.inl ⟨b + 1, Nat.le_refl _, h1, fun x hx => r x (by omega)⟩
                      | false => exact Or.inr (fun x hx => by
                          rcases Nat.lt_or_ge x (b + 1) with u | u
                          · exact r x (by omega)
                          · have : x = b + 1 := by omega
                            rw [this]; exact h1)
                rcases this j (Nat.le_refl _) with r | r
                · exact r
                · exact absurd hp (by rw [r j (Nat.le_refl _)]; decide)
              obtain ⟨y, a, c, d⟩ := h0
              rw [firstB_is d c (by omega)] at hq
              cases hq)
          exact this j hj q
      by_cases hP : P n = true
      · simp [hP] at h
        subst h
        exact ⟨by omega, hP, hn⟩
      · simp [hP] at h
def bP (m : Nat → Nat) (fp fr : Nat → Nat) (pl tk v : Nat) (i : Nat) : Bool := fits (fp i) pl tk && decide (fr i + m (tk ||| fp i) = v)
/-- the standing at the places of s -/
def mkP (pk : Nat → Option Nat) (s : Nat) (ix : Option Nat) : Nat → (Nat → Option Nat)
  | 0 => pk
  | p + 1 => if tb s p = true then va_up (mkP pk s ix p) p ix else mkP pk s ix p
def bfAt (M : Nat → Nat → Nat) (fp fr : Nat → Nat) (cnt i t : Nat) : Option Nat := firstB (bP (M (i + 1)) fp fr i t (M i t)) cnt
/-- the choice: what is taken, and by which standings, after i places -/
def chT (M : Nat → Nat → Nat) (fp fr : Nat → Nat) (cnt : Nat) : Nat → Nat
  | 0 => 0
  | i + 1 => if tb (chT M fp fr cnt i) i = true then chT M fp fr cnt i else match bfAt M fp fr cnt i (chT M fp fr cnt i) with
    | none => chT M fp fr cnt i
    | some x => chT M fp fr cnt i ||| fp x
def chP (M : Nat → Nat → Nat) (fp fr : Nat → Nat) (cnt : Nat) : Nat → (Nat → Option Nat)
  | 0 => fun _ => none
  | i + 1 => if tb (chT M fp fr cnt i) i = true then chP M fp fr cnt i else match bfAt M fp fr cnt i (chT M fp fr cnt i) with
    | none => chP M fp fr cnt i
    | some x => mkP (chP M fp fr cnt i) (fp x) (some x) 6
/-- rows of an array of arrays, at the addresses cr i -/
def g7 (cr : Nat → Nat) : Nat → Option Nat := fun i => if i < 7 then some (cr i) else none
theorem g7_at {cr : Nat → Nat} {i : Nat} (h : i < 7) : g7 cr i = some (cr i) := if_pos h
abbrev rows7 (κ : KK) (cr : Nat → Nat) (M : Nat → Nat → Nat) : va_W := [(cr 0, .inl (κ.2 0, 64, .inl (nA (M 0)))), (cr 1, .inl (κ.2 0, 64, .inl (nA (M 1)))), (cr 2, .inl (κ.2 0, 64, .inl (nA (M 2)))), (cr 3, .inl (κ.2 0, 64, .inl (nA (M 3)))), (cr 4, .inl (κ.2 0, 64, .inl (nA (M 4)))), (cr 5, .inl (κ.2 0, 64, .inl (nA (M 5)))), (cr 6, .inl (κ.2 0, 64, .inl (nA (M 6))))]
theorem row7 {κ : KK} {cr : Nat → Nat} {M : Nat → Nat → Nat} {X Y w : va_W} {b j : Nat} (hX : X.length = b) (hw : X ++ (rows7 κ cr M ++ Y) = w) (hj : j < 7) : w[b + j]? = some (cr j, .inl (κ.2 0, 64, .inl (nA (M j)))) := by
  subst hw; subst hX
  rw [List.getElem?_append_right (Nat.le_add_right _ _), Nat.add_sub_cancel_left]
  rcases (show j = 0 ∨ j = 1 ∨ j = 2 ∨ j = 3 ∨ j = 4 ∨ j = 5 ∨ j = 6 by omega) with e | e | e | e | e | e | e <;> subst e <;> rfl
theorem rowset7 {κ : KK} {cr : Nat → Nat} {M : Nat → Nat → Nat} {X Y w w' : va_W} {b j : Nat} {f : Nat → Nat} (hX : X.length = b) (hw : X ++ (rows7 κ cr M ++ Y) = w) (hw' : X ++ (rows7 κ cr (va_up M j f) ++ Y) = w') (hj : j < 7) : w.set (b + j) (cr j, .inl (κ.2 0, 64, .inl (nA f))) = w' := by
  subst hw; subst hw'; subst hX
  rw [List.set_append_right _ _ (Nat.le_add_right _ _), Nat.add_sub_cancel_left]
  congr 1
  rcases (show j = 0 ∨ j = 1 ∨ j = 2 ∨ j = 3 ∨ j = 4 ∨ j = 5 ∨ j = 6 by omega) with e | e | e | e | e | e | e <;> subst e <;> simp [va_up]
def tzm (s : Nat) : Nat := 2 ^ tz6 s - 1
theorem tzm_okA : ∀ x, x < 64 → (0 < x → (nI x ^^^ (-1)) &&& nI (x - 1) = nI (tzm x)) := by decide +kernel
theorem tzm_ok (x : Nat) (h0 : 0 < x) (h1 : x < 64) : (nI x ^^^ (-1)) &&& nI (x - 1) = nI (tzm x) := tzm_okA x h1 h0
theorem tzm_allA : ∀ x, x < 64 → (0 < x → (tzm x = 0 ∧ tz6 x = 0) ∨ (tzm x = 1 ∧ tz6 x = 1) ∨ (tzm x = 3 ∧ tz6 x = 2) ∨ (tzm x = 7 ∧ tz6 x = 3) ∨ (tzm x = 15 ∧ tz6 x = 4) ∨ (tzm x = 31 ∧ tz6 x = 5)) := by decide +kernel
theorem tzm_all (x : Nat) (h0 : 0 < x) (h1 : x < 64) : (tzm x = 0 ∧ tz6 x = 0) ∨ (tzm x = 1 ∧ tz6 x = 1) ∨ (tzm x = 3 ∧ tz6 x = 2) ∨ (tzm x = 7 ∧ tz6 x = 3) ∨ (tzm x = 15 ∧ tz6 x = 4) ∨ (tzm x = 31 ∧ tz6 x = 5) := tzm_allA x h1 h0
/-- how many places a set has -/
def bc6 (s : Nat) : Nat := s % 2 + s / 2 % 2 + s / 4 % 2 + s / 8 % 2 + s / 16 % 2 + s / 32 % 2
theorem tz6_lt : ∀ x, x < 64 → (0 < x → tz6 x < 6) := by decide +kernel
theorem tb_0 (p : Nat) : tb 0 p = false := by simp [tb]
theorem mkP_0 {pk : Nat → Option Nat} {ix : Option Nat} : ∀ n, mkP pk 0 ix n = pk
  | 0 => rfl
  | n + 1 => by rw [mkP, if_neg (by rw [tb_0]; decide), mkP_0 n]
theorem mkP_congr {pk pk' : Nat → Option Nat} {s : Nat} {ix : Option Nat} (h : ∀ j, j < 6 → pk j = pk' j) : ∀ n j, j < 6 → mkP pk s ix n j = mkP pk' s ix n j
  | 0, j, hj => h j hj
  | n + 1, j, hj => by
    simp only [mkP]
    split
    · by_cases e : j = n
      · subst e; simp [va_up]
      · simp only [va_up, if_neg e]; exact mkP_congr h n j hj
    · exact mkP_congr h n j hj
theorem lfN_congr {m m' : Nat → Nat} {fp fr : Nat → Nat} {cnt pl tk idl : Nat} (hm : ∀ u, u < 64 → m u = m' u) (hf : ∀ i, i < cnt → fp i < 64) (ht : tk < 64) : ∀ i, i ≤ cnt → lfN m fp fr pl tk idl i = lfN m' fp fr pl tk idl i
  | 0, _ => by simp only [lfN]; rw [hm tk ht]
  | i + 1, h => by
    simp only [lfN]
    rw [lfN_congr hm hf ht i (by omega), hm _ (or64 ht (hf i (by omega)))]
theorem lfR_congr {m m' : Nat → Nat} {fp fr : Nat → Nat} {cnt pl tk idl : Nat} (hm : ∀ u, u < 64 → m u = m' u) (hf : ∀ i, i < cnt → fp i < 64) (ht : tk < 64) : lfR m fp fr cnt pl tk idl = lfR m' fp fr cnt pl tk idl := by
  unfold lfR
  rw [hm tk ht, lfN_congr hm hf ht cnt (Nat.le_refl _)]
theorem down_0 {x : Int32} {j : Nat} (hx : x = nI j - 1) (c : x < 0) (hj : j ≤ 6) : j = 0 := by
  cases j with
  | zero => rfl
  | succ q =>
    exfalso
    rw [hx, nI_pred] at c
    exact nI_pos (by omega) c
theorem down_s {x : Int32} {j : Nat} (hx : x = nI j - 1) (c : ¬ x < 0) : ∃ q, j = q + 1 ∧ x = nI q := by
  cases j with
  | zero =>
    exfalso
    rw [hx] at c
    exact c (by decide)
  | succ q => exact ⟨q, rfl, by rw [hx, nI_pred]⟩
theorem weigh_s {M7 M8 : Nat → Nat → Nat} {fp fr : Nat → Nat} {cnt size bare pl idl t : Nat} (hF : FW cnt fp fr) (hpl : pl < 6) (ht : t < 64) (hoth : ∀ i, i ≠ pl → M7 i = M8 i) (hopt : ∀ k, k ≤ 6 - (pl + 1) → ∀ u, u < 64 → M8 (6 - k) u = optR fp fr cnt size bare k u) (hidl : idl = if pl < size then bare else 0) : lfR (M7 (pl + 1)) fp fr cnt pl t idl = optR fp fr cnt size bare (6 - pl) t := by
  have e : 6 - pl = (5 - pl) + 1 := by omega
  have e2 : 5 - (5 - pl) = pl := by omega
  rw [e, optR, e2, ← hidl]
  refine lfR_congr (fun u hu => ?_) (fun i hi => (hF.2 i hi).2.1) ht
  have h := hopt (5 - pl) (by omega) u hu
  rw [show 6 - (5 - pl) = pl + 1 by omega] at h
  rw [hoth (pl + 1) (by omega)]
  exact h
theorem weigh_o {M7 M8 : Nat → Nat → Nat} {fp fr : Nat → Nat} {cnt size bare pl : Nat} (hpl : pl < 6) (hoth : ∀ i, i ≠ pl → M7 i = M8 i) (hrow : ∀ u, u < 64 → M7 pl u = optR fp fr cnt size bare (6 - pl) u) (hopt : ∀ k, k ≤ 6 - (pl + 1) → ∀ u, u < 64 → M8 (6 - k) u = optR fp fr cnt size bare k u) : ∀ k, k ≤ 6 - pl → ∀ u, u < 64 → M7 (6 - k) u = optR fp fr cnt size bare k u := by
  intro k hk u hu
  by_cases e : k = 6 - pl
  · subst e
    rw [show 6 - (6 - pl) = pl by omega]
    exact hrow u hu
  · rw [hoth _ (by omega)]
    exact hopt k (by omega) u hu
theorem MW_up {M : Nat → Nat → Nat} (h : MW M) (pl t : Nat) {v : Nat} (hv : v ≤ 300) : MW (va_up M pl (va_up (M pl) t v)) := by
  intro i u
  by_cases e : i = pl
  · subst e
    simp only [va_up, if_true]
    by_cases e2 : u = t
    · simp [e2, hv]
    · simp [e2, h i u]
  · simp only [va_up, if_neg e]; exact h i u
section CH
variable {M : Nat → Nat → Nat} {fp fr : Nat → Nat} {cnt i : Nat}
theorem chT_t (h : tb (chT M fp fr cnt i) i = true) : chT M fp fr cnt (i + 1) = chT M fp fr cnt i := by rw [chT, if_pos h]
theorem chT_0 (h : ¬ tb (chT M fp fr cnt i) i = true) (ho : bfAt M fp fr cnt i (chT M fp fr cnt i) = none) : chT M fp fr cnt (i + 1) = chT M fp fr cnt i := by rw [chT, if_neg h, ho]
theorem chT_1 {x : Nat} (h : ¬ tb (chT M fp fr cnt i) i = true) (ho : bfAt M fp fr cnt i (chT M fp fr cnt i) = some x) : chT M fp fr cnt (i + 1) = chT M fp fr cnt i ||| fp x := by rw [chT, if_neg h, ho]
theorem chP_t (h : tb (chT M fp fr cnt i) i = true) : chP M fp fr cnt (i + 1) = chP M fp fr cnt i := by rw [chP, if_pos h]
theorem chP_0 (h : ¬ tb (chT M fp fr cnt i) i = true) (ho : bfAt M fp fr cnt i (chT M fp fr cnt i) = none) : chP M fp fr cnt (i + 1) = chP M fp fr cnt i := by rw [chP, if_neg h, ho]
theorem chP_1 {x : Nat} (h : ¬ tb (chT M fp fr cnt i) i = true) (ho : bfAt M fp fr cnt i (chT M fp fr cnt i) = some x) : chP M fp fr cnt (i + 1) = mkP (chP M fp fr cnt i) (fp x) (some x) 6 := by rw [chP, if_neg h, ho]
end CH
def RW (n : Nat) (fk fs : Nat → Nat) : Prop := n ≤ 6 ∧ (∀ i, fk i < 3) ∧ ∀ i, fs i ≤ 50
def SW (len : Nat) (fw : Nat → Nat) : Prop := len ≤ 6 ∧ ∀ i, fw i < 100
def PW (pn : Nat) (pa : Nat → Option Nat) : Prop := 1 ≤ pn ∧ pn ≤ 4 ∧ ∀ i h, pa i = some h → h < 100
theorem fmL_t {fk fs : Nat → Nat} {w h : Nat} : ∀ {n i : Nat}, i < n → fk i = h % 3 → w = h + fs i → fmL fk fs w h n = true
  | 0, i, hi, _, _ => absurd hi (Nat.not_lt_zero i)
  | n + 1, i, hi, h1, h2 => by
    rcases Nat.lt_or_ge i n with q | q
    · simp [fmL, fmL_t q h1 h2]
    · have e : i = n := by omega
      subst e
      simp [fmL, h1, h2]
theorem fm_t {n : Nat} {fk fs : Nat → Nat} {w h i : Nat} (hi : i < n) (h1 : fk i = h % 3) (h2 : w = h + fs i) : fm n fk fs w h = true := by simp [fm, fmL_t hi h1 h2]
/-- the phrase of pn parts, from the place f on: does it stand, by its first i parts; which places it takes -/
def phOk (n : Nat) (fk fs : Nat → Nat) (len : Nat) (fw : Nat → Nat) (pa : Nat → Option Nat) (f : Nat) : Nat → Bool
  | 0 => true
  | i + 1 => phOk n fk fs len fw pa f i && (match pa i with
    | none => true
    | some h => decide (f + i < len) && fm n fk fs (fw (f + i)) h)
def phSet (pa : Nat → Option Nat) (f : Nat) : Nat → Nat
  | 0 => 0
  | i + 1 => match pa i with
    | none => phSet pa f i
    | some _ => phSet pa f i ||| 2 ^ (f + i)
def phAt (n : Nat) (fk fs : Nat → Nat) (len : Nat) (fw : Nat → Nat) (pa : Nat → Option Nat) (pn f : Nat) : Nat := if phOk n fk fs len fw pa f pn = true then phSet pa f pn else 0
theorem phOk_f {n : Nat} {fk fs : Nat → Nat} {len : Nat} {fw : Nat → Nat} {pa : Nat → Option Nat} {f : Nat} : ∀ {pn i : Nat} {h : Nat}, i < pn → pa i = some h → (decide (f + i < len) && fm n fk fs (fw (f + i)) h) = false → phOk n fk fs len fw pa f pn = false
  | 0, i, _, hi, _, _ => absurd hi (Nat.not_lt_zero i)
  | pn + 1, i, h, hi, h1, h2 => by
    rcases Nat.lt_or_ge i pn with q | q
    · simp only [phOk, phOk_f q h1 h2, Bool.false_and]
    · have e : i = pn := by omega
      subst e
      simp only [phOk, h1, h2, Bool.and_false]
def phL (n : Nat) (fk fs : Nat → Nat) (len : Nat) (fw : Nat → Nat) (pa : Nat → Option Nat) (pn en pr : Nat) : Nat → SL
  | 0 => []
  | f + 1 => phL n fk fs len fw pa pn en pr f ++ (if phAt n fk fs len fw pa pn f = 0 then [] else [(en, phAt n fk fs len fw pa pn f, pr)])
def spB (n : Nat) (fk fs : Nat → Nat) (len : Nat) (fw : Nat → Nat) (en pr sec f : Nat) : Nat → SL
  | 0 => []
  | b + 1 => spB n fk fs len fw en pr sec f b ++ (if (decide (f + 1 + b < len) && fm n fk fs (fw (f + 1 + b)) sec) = true then [(en, 2 ^ f ||| 2 ^ (f + 1 + b), pr)] else [])
def spL (n : Nat) (fk fs : Nat → Nat) (len : Nat) (fw : Nat → Nat) (en pr fst sec rch : Nat) : Nat → SL
  | 0 => []
  | f + 1 => spL n fk fs len fw en pr fst sec rch f ++ (if (decide (f < len) && fm n fk fs (fw f) fst) = true then spB n fk fs len fw en pr sec f (rch + 1) else [])
/-- the first cnt places of the three rows hold the list -/
def stOK (L : SL) (cnt : Nat) (fn fp fr : Nat → Nat) : Prop := L.length = cnt ∧ ∀ (i : Nat) (x : Nat × Nat × Nat), L[i]? = some x → fn i = x.1 ∧ fp i = x.2.1 ∧ fr i = x.2.2
theorem stOK_0 {fn fp fr : Nat → Nat} : stOK [] 0 fn fp fr := ⟨rfl, fun i x h => by simp at h⟩
theorem stOK_put {L : SL} {cnt : Nat} {fn fp fr : Nat → Nat} (h : stOK L cnt fn fp fr) (en s v : Nat) : stOK (L ++ [(en, s, v)]) (cnt + 1) (va_up fn cnt en) (va_up fp cnt s) (va_up fr cnt v) := by
  obtain ⟨h1, h2⟩ := h
  refine ⟨by simp [h1], fun i x hx => ?_⟩
  rcases Nat.lt_or_ge i cnt with q | q
  · rw [List.getElem?_append_left (by omega)] at hx
    obtain ⟨a, b, c⟩ := h2 i x hx
    have hne : i ≠ cnt := by omega
    rw [va_up_ne _ _ hne, va_up_ne _ _ hne, va_up_ne _ _ hne]
    exact ⟨a, b, c⟩
  · have hi := (List.getElem?_eq_some_iff.mp hx).1
    have e : i = cnt := by simp at hi; omega
    subst e
    rw [List.getElem?_append_right (by omega), h1] at hx
    simp at hx
    subst hx
    simp [va_up]
theorem phL_len {n : Nat} {fk fs : Nat → Nat} {len : Nat} {fw : Nat → Nat} {pa : Nat → Option Nat} {pn en pr : Nat} : ∀ f, (phL n fk fs len fw pa pn en pr f).length ≤ f
  | 0 => Nat.le_refl _
  | f + 1 => by
    have h := phL_len (n := n) (fk := fk) (fs := fs) (len := len) (fw := fw) (pa := pa) (pn := pn) (en := en) (pr := pr) f
    simp only [phL, List.length_append]
    split <;> simp <;> omega
theorem spB_len {n : Nat} {fk fs : Nat → Nat} {len : Nat} {fw : Nat → Nat} {en pr sec f : Nat} (hl : len ≤ 6) : ∀ b, (spB n fk fs len fw en pr sec f b).length ≤ b ∧ (spB n fk fs len fw en pr sec f b).length ≤ 5 - f
  | 0 => ⟨Nat.le_refl _, Nat.zero_le _⟩
  | b + 1 => by
    obtain ⟨h1, h2⟩ := spB_len (n := n) (fk := fk) (fs := fs) (fw := fw) (en := en) (pr := pr) (sec := sec) (f := f) hl b
    simp only [spB, List.length_append]
    split
    · rename_i q
      simp only [Bool.and_eq_true, decide_eq_true_eq] at q
      simp only [List.length_cons, List.length_nil]
      omega
    · simp; omega
theorem spL_len {n : Nat} {fk fs : Nat → Nat} {len : Nat} {fw : Nat → Nat} {en pr fst sec rch : Nat} (hl : len ≤ 6) : ∀ f, f ≤ 6 → 2 * (spL n fk fs len fw en pr fst sec rch f).length ≤ f * (11 - f)
  | 0, _ => Nat.le_refl _
  | f + 1, hf => by
    have h := spL_len (n := n) (fk := fk) (fs := fs) (fw := fw) (en := en) (pr := pr) (fst := fst) (sec := sec) (rch := rch) hl f (by omega)
    have hb := (spB_len (n := n) (fk := fk) (fs := fs) (fw := fw) (en := en) (pr := pr) (sec := sec) (f := f) hl (rch + 1)).2
    simp only [spL, List.length_append]
    have hm : f * (11 - f) + 2 * (5 - f) ≤ (f + 1) * (11 - (f + 1)) := by
      rcases (show f = 0 ∨ f = 1 ∨ f = 2 ∨ f = 3 ∨ f = 4 ∨ f = 5 by omega) with e | e | e | e | e | e <;> subst e <;> decide
    split
    · omega
    · rw [List.length_nil]; omega
theorem sp_room {n : Nat} {fk fs : Nat → Nat} {len : Nat} {fw : Nat → Nat} {en pr fst sec rch f b : Nat} (hl : len ≤ 6) (h : f + 1 + b < len) : (spL n fk fs len fw en pr fst sec rch f).length + (spB n fk fs len fw en pr sec f b).length < 15 := by
  have h1 := spL_len (n := n) (fk := fk) (fs := fs) (fw := fw) (en := en) (pr := pr) (fst := fst) (sec := sec) (rch := rch) hl f (by omega)
  have h2 := (spB_len (n := n) (fk := fk) (fs := fs) (fw := fw) (en := en) (pr := pr) (sec := sec) (f := f) hl b).1
  rcases (show f = 0 ∨ f = 1 ∨ f = 2 ∨ f = 3 ∨ f = 4 by omega) with e | e | e | e | e <;> subst e <;> omega
theorem phSet_lt {pa : Nat → Option Nat} {f : Nat} {n : Nat} {fk fs : Nat → Nat} {len : Nat} {fw : Nat → Nat} (hl : len ≤ 6) : ∀ i, phOk n fk fs len fw pa f i = true → phSet pa f i < 64
  | 0, _ => by show 0 < 64; decide
  | i + 1, h => by
    simp only [phOk, Bool.and_eq_true] at h
    have h1 := phSet_lt hl i h.1
    simp only [phSet]
    cases hp : pa i with
    | none => exact h1
    | some v =>
      have h2 := h.2
      rw [hp] at h2
      simp only [Bool.and_eq_true, decide_eq_true_eq] at h2
      have h3 : 2 ^ (f + i) < 64 := by
        have : f + i ≤ 5 := by omega
        exact Nat.lt_of_le_of_lt (Nat.pow_le_pow_right (by decide) this) (by decide)
      exact Nat.or_lt_two_pow (n := 6) h1 h3
theorem phAt_lt {n : Nat} {fk fs : Nat → Nat} {len : Nat} {fw : Nat → Nat} {pa : Nat → Option Nat} {pn f : Nat} (hP : PW pn pa) (hS : SW len fw) (hR : RW n fk fs) (_ : f < 6) : phAt n fk fs len fw pa pn f < 64 := by
  unfold phAt
  split
  · rename_i q
    exact phSet_lt hS.1 pn q
  · decide
/-- the least change of the cost by standings of the list that leave t alone, and one another -/
def wt (bare : Nat) (x : Nat × Nat × Nat) : Int := (x.2.2 : Int) - ((bare * bc6 x.2.1 : Nat) : Int)
def dm (bare : Nat) : SL → Nat → Int
  | [], _ => 0
  | x :: xs, t => if x.2.1 &&& t = 0 then min (dm bare xs t) (wt bare x + dm bare xs (t ||| x.2.1)) else dm bare xs t
theorem dm_le (bare : Nat) : ∀ (L : SL) (t : Nat), dm bare L t ≤ 0
  | [], _ => by simp [dm]
  | x :: xs, t => by
    have h := dm_le bare xs t
    simp only [dm]
    split <;> omega
theorem bc6_le (s : Nat) : bc6 s ≤ 6 := by unfold bc6; omega
theorem wt_ge {bare : Nat} (hb : bare ≤ 50) (x : Nat × Nat × Nat) : -300 ≤ wt bare x := by
  have h := bc6_le x.2.1
  have h2 : bare * bc6 x.2.1 ≤ 50 * 6 := Nat.mul_le_mul hb h
  unfold wt
  omega
theorem dm_ge {bare : Nat} (hb : bare ≤ 50) : ∀ (L : SL) (t : Nat), -(300 * (L.length : Int)) ≤ dm bare L t
  | [], _ => by simp [dm]
  | x :: xs, t => by
    have h := dm_ge hb xs t
    have h2 := dm_ge hb xs (t ||| x.2.1)
    have h3 := wt_ge hb x
    simp only [dm, List.length_cons]
    split <;> omega
theorem bc6_orA : ∀ a, a < 64 → ∀ b, b < 64 → (b &&& a = 0 → bc6 (a ||| b) = bc6 a + bc6 b) := by decide +kernel
theorem bc6_posA : ∀ a, a < 64 → (0 < a → 0 < bc6 a) := by decide +kernel
theorem bc6_fullA : ∀ a, a < 64 → (6 ≤ bc6 a → a = 63) := by decide +kernel
theorem and63N : ∀ a, a < 64 → a &&& 63 = a := by decide +kernel
theorem dm_full {bare : Nat} : ∀ (L : SL), (∀ x, x ∈ L → 0 < x.2.1 ∧ x.2.1 < 64) → dm bare L 63 = 0
  | [], _ => rfl
  | x :: xs, h => by
    have h1 := h x List.mem_cons_self
    simp only [dm]
    rw [if_neg (by rw [and63N _ h1.2]; omega)]
    exact dm_full xs (fun y hy => h y (List.mem_cons_of_mem _ hy))
theorem nZ_sub (a b : Nat) : nI a - nI b = zI ((a : Int) - (b : Int)) := zI_sub a b
theorem stOK_at {L : SL} {cnt : Nat} {fn fp fr : Nat → Nat} (h : stOK L cnt fn fp fr) {i : Nat} (hi : i < cnt) : L.drop i = (fn i, fp i, fr i) :: L.drop (i + 1) := by
  have hi2 : i < L.length := by rw [h.1]; exact hi
  obtain ⟨a, b, c⟩ := h.2 i _ (List.getElem?_eq_getElem hi2)
  rw [List.drop_eq_getElem_cons hi2, a, b, c]
theorem stOK_all {L : SL} {cnt : Nat} {fn fp fr : Nat → Nat} (h : stOK L cnt fn fp fr) (hF : FW cnt fp fr) : ∀ x, x ∈ L → 0 < x.2.1 ∧ x.2.1 < 64 := by
  intro x hx
  obtain ⟨i, hi⟩ := List.getElem?_of_mem hx
  have hi2 := (List.getElem?_eq_some_iff.mp hi).1
  obtain ⟨-, b, -⟩ := h.2 i x hi
  have := hF.2 i (by rw [← h.1]; exact hi2)
  rw [← b]
  exact ⟨this.1, this.2.1⟩
def g3 (cr : Nat → Nat) : Nat → Option Nat := fun i => if i < 3 then some (cr i) else none
theorem g3_at {cr : Nat → Nat} {i : Nat} (h : i < 3) : g3 cr i = some (cr i) := if_pos h
abbrev rows3 (κ : KK) (cr : Nat → Nat) (M : Nat → Nat → Nat) : va_W := [(cr 0, .inl (κ.2 0, 8, .inl (nA (M 0)))), (cr 1, .inl (κ.2 0, 8, .inl (nA (M 1)))), (cr 2, .inl (κ.2 0, 8, .inl (nA (M 2))))]
theorem row3 {κ : KK} {cr : Nat → Nat} {M : Nat → Nat → Nat} {X Y w : va_W} {b j : Nat} (hX : X.length = b) (hw : X ++ (rows3 κ cr M ++ Y) = w) (hj : j < 3) : w[b + j]? = some (cr j, .inl (κ.2 0, 8, .inl (nA (M j)))) := by
  subst hw; subst hX
  rw [List.getElem?_append_right (Nat.le_add_right _ _), Nat.add_sub_cancel_left]
  rcases (show j = 0 ∨ j = 1 ∨ j = 2 by omega) with e | e | e <;> subst e <;> rfl
theorem rowset3 {κ : KK} {cr : Nat → Nat} {M : Nat → Nat → Nat} {X Y w w' : va_W} {b j : Nat} {f : Nat → Nat} (hX : X.length = b) (hw : X ++ (rows3 κ cr M ++ Y) = w) (hw' : X ++ (rows3 κ cr (va_up M j f) ++ Y) = w') (hj : j < 3) : w.set (b + j) (cr j, .inl (κ.2 0, 8, .inl (nA f))) = w' := by
  subst hw; subst hw'; subst hX
  rw [List.set_append_right _ _ (Nat.le_add_right _ _), Nat.add_sub_cancel_left]
  congr 1
  rcases (show j = 0 ∨ j = 1 ∨ j = 2 by omega) with e | e | e <;> subst e <;> simp [va_up]
def KW (iv dv : Nat → Nat → Nat) : Prop := ∀ r e, iv r e ≤ 64 ∧ dv r e < 2 ^ 30
/-- how many of the first cards there are -/
def ctC (f : Nat → Nat) : Nat → Nat
  | 0 => 0
  | e + 1 => ctC f e + (if 0 < f e then 1 else 0)
/-- the first card that is due first -/
def fsC (f d : Nat → Nat) : Nat → Option Nat
  | 0 => none
  | e + 1 => match fsC f d e with
    | none => if 0 < f e then some e else none
    | some x => if 0 < f e ∧ d e < d x then some e else some x
theorem ctC_le (f : Nat → Nat) : ∀ n, ctC f n ≤ n
  | 0 => Nat.le_refl _
  | n + 1 => by have h := ctC_le f n; simp only [ctC]; split <;> omega
theorem fsC_lt {f d : Nat → Nat} : ∀ {n x : Nat}, fsC f d n = some x → x < n
  | 0, x, h => by simp [fsC] at h
  | n + 1, x, h => by
    unfold fsC at h
    cases q : fsC f d n with
    | none =>
      rw [q] at h
      simp only at h
      split at h
      · have : n = x := Option.some.inj h
        omega
      · cases h
    | some y =>
      rw [q] at h
      simp only at h
      have hy := fsC_lt q
      split at h
      · have : n = x := Option.some.inj h
        omega
      · have : y = x := Option.some.inj h
        omega
end
section
set_option maxHeartbeats 4000000 in
set_option maxRecDepth 100000 in
theorem kJ6_numberOfTrailingZeros_0f7a4 (l : Launch) (κ : KK) (x : Nat) (h0 : 0 < x) (h1 : x < 64) : CP l yJ6_numberOfTrailingZeros_0f7a4 cJ6_numberOfTrailingZeros_0f7a4 2 (some .int) 0 κ [.int (nI x)] [] (fun vr_ => vr_ = nI (tz6 x)) := by
  refine cp_of RJ6 rfl (by decide) (Nat.le_of_ble_eq_true rfl) ?_
  intro p e s m below meth c C
  refine g_lv (lv' := [(0, .int (nI x))]) [0] rfl ?_
  refine g_iload_n (pc' := 1) C 0 dJ6_numberOfTrailingZeros_0f7a4_0 rfl rfl rfl ?_
  refine g_iconst (pc' := 2) (v := (-1)) C dJ6_numberOfTrailingZeros_0f7a4_1 (by decide) rfl ?_
  refine g_ixor (pc' := 3) (v := (nI x) ^^^ (-1)) C dJ6_numberOfTrailingZeros_0f7a4_2 rfl rfl ?_
  refine g_iload_n (pc' := 4) C 0 dJ6_numberOfTrailingZeros_0f7a4_3 rfl rfl rfl ?_
  refine g_iconst (pc' := 5) (v := nI 1) C dJ6_numberOfTrailingZeros_0f7a4_4 (by decide) rfl ?_
  refine g_isub (pc' := 6) (v := nI (x - 1)) C dJ6_numberOfTrailingZeros_0f7a4_5 (pk_sub (by first | assumption | omega)) rfl ?_
  refine g_iand (pc' := 7) (v := nI (tzm x)) C dJ6_numberOfTrailingZeros_0f7a4_6 (tzm_ok x h0 h1) rfl ?_
  refine g_istore_n (pc' := 8) (lv' := [(0, .int (nI (tzm x)))]) C dJ6_numberOfTrailingZeros_0f7a4_7 rfl (by decide) rfl rfl ?_
  have hz := tzm_all x h0 h1
  rcases hz with ⟨e1, e2⟩ | ⟨e1, e2⟩ | ⟨e1, e2⟩ | ⟨e1, e2⟩ | ⟨e1, e2⟩ | ⟨e1, e2⟩
  · rw [e1]
    refine g_iload_n (pc' := 9) C 0 dJ6_numberOfTrailingZeros_0f7a4_8 rfl rfl rfl ?_
    refine g_if_gtN (pc' := 12) (tgt := 17) C (by first | assumption | omega) dJ6_numberOfTrailingZeros_0f7a4_9 (by decide) rfl (fun z => absurd z (by decide)) (fun _ => ?_)
    refine g_iload_n (pc' := 13) C 0 dJ6_numberOfTrailingZeros_0f7a4_12 rfl rfl rfl ?_
    refine g_bipush (pc' := 15) (v := nI 32) C dJ6_numberOfTrailingZeros_0f7a4_13 (by decide) rfl ?_
    refine g_iand (pc' := 16) (v := nI 0) C dJ6_numberOfTrailingZeros_0f7a4_15 (by decide) rfl ?_
    exact g_retP C rfl rfl (show nI 0 = nI (tz6 x) by rw [e2]) dJ6_numberOfTrailingZeros_0f7a4_16
  · rw [e1]
    refine g_iload_n (pc' := 9) C 0 dJ6_numberOfTrailingZeros_0f7a4_8 rfl rfl rfl ?_
    refine g_if_gtN (pc' := 12) (tgt := 17) C (by first | assumption | omega) dJ6_numberOfTrailingZeros_0f7a4_9 (by decide) rfl (fun _ => ?_) (fun z => absurd z (by decide))
    refine g_iconst (pc' := 18) (v := nI 1) C dJ6_numberOfTrailingZeros_0f7a4_17 (by decide) rfl ?_
    refine g_istore_n (pc' := 19) (lv' := [(1, .int (nI 1)), (0, .int (nI 1))]) C dJ6_numberOfTrailingZeros_0f7a4_18 rfl (by decide) rfl rfl ?_
    refine g_iload_n (pc' := 20) C 1 dJ6_numberOfTrailingZeros_0f7a4_19 rfl rfl rfl ?_
    refine g_ldcw (pc' := 23) C wd_const_RJ6_264 dJ6_numberOfTrailingZeros_0f7a4_20 rfl ?_
    refine g_val (y := nI 65536) (by decide) ?_
    refine g_icmp_leN (pc' := 26) (tgt := 34) C (by first | assumption | omega) (by first | assumption | omega) dJ6_numberOfTrailingZeros_0f7a4_23 (by decide) rfl (fun _ => ?_) (fun z => absurd z (by decide))
    refine g_iload_n (pc' := 35) C 1 dJ6_numberOfTrailingZeros_0f7a4_34 rfl rfl rfl ?_
    refine g_sipush (pc' := 38) (v := nI 256) C dJ6_numberOfTrailingZeros_0f7a4_35 (by decide) rfl ?_
    refine g_icmp_leN (pc' := 41) (tgt := 49) C (by first | assumption | omega) (by first | assumption | omega) dJ6_numberOfTrailingZeros_0f7a4_38 (by decide) rfl (fun _ => ?_) (fun z => absurd z (by decide))
    refine g_iload_n (pc' := 50) C 1 dJ6_numberOfTrailingZeros_0f7a4_49 rfl rfl rfl ?_
    refine g_bipush (pc' := 52) (v := nI 16) C dJ6_numberOfTrailingZeros_0f7a4_50 (by decide) rfl ?_
    refine g_icmp_leN (pc' := 55) (tgt := 62) C (by first | assumption | omega) (by first | assumption | omega) dJ6_numberOfTrailingZeros_0f7a4_52 (by decide) rfl (fun _ => ?_) (fun z => absurd z (by decide))
    refine g_iload_n (pc' := 63) C 1 dJ6_numberOfTrailingZeros_0f7a4_62 rfl rfl rfl ?_
    refine g_iconst (pc' := 64) (v := nI 4) C dJ6_numberOfTrailingZeros_0f7a4_63 (by decide) rfl ?_
    refine g_icmp_leN (pc' := 67) (tgt := 74) C (by first | assumption | omega) (by first | assumption | omega) dJ6_numberOfTrailingZeros_0f7a4_64 (by decide) rfl (fun _ => ?_) (fun z => absurd z (by decide))
    refine g_iload_n (pc' := 75) C 0 dJ6_numberOfTrailingZeros_0f7a4_74 rfl rfl rfl ?_
    refine g_iload_n (pc' := 76) C 1 dJ6_numberOfTrailingZeros_0f7a4_75 rfl rfl rfl ?_
    refine g_iconst (pc' := 77) (v := nI 1) C dJ6_numberOfTrailingZeros_0f7a4_76 (by decide) rfl ?_
    refine g_iushr (pc' := 78) (v := nI 0) C dJ6_numberOfTrailingZeros_0f7a4_77 (by decide) rfl ?_
    refine g_iadd (pc' := 79) (v := nI 1) C dJ6_numberOfTrailingZeros_0f7a4_78 (by decide) rfl ?_
    exact g_retP C rfl rfl (show nI 1 = nI (tz6 x) by rw [e2]) dJ6_numberOfTrailingZeros_0f7a4_79
  · rw [e1]
    refine g_iload_n (pc' := 9) C 0 dJ6_numberOfTrailingZeros_0f7a4_8 rfl rfl rfl ?_
    refine g_if_gtN (pc' := 12) (tgt := 17) C (by first | assumption | omega) dJ6_numberOfTrailingZeros_0f7a4_9 (by decide) rfl (fun _ => ?_) (fun z => absurd z (by decide))
    refine g_iconst (pc' := 18) (v := nI 1) C dJ6_numberOfTrailingZeros_0f7a4_17 (by decide) rfl ?_
    refine g_istore_n (pc' := 19) (lv' := [(1, .int (nI 1)), (0, .int (nI 3))]) C dJ6_numberOfTrailingZeros_0f7a4_18 rfl (by decide) rfl rfl ?_
    refine g_iload_n (pc' := 20) C 1 dJ6_numberOfTrailingZeros_0f7a4_19 rfl rfl rfl ?_
    refine g_ldcw (pc' := 23) C wd_const_RJ6_264 dJ6_numberOfTrailingZeros_0f7a4_20 rfl ?_
    refine g_val (y := nI 65536) (by decide) ?_
    refine g_icmp_leN (pc' := 26) (tgt := 34) C (by first | assumption | omega) (by first | assumption | omega) dJ6_numberOfTrailingZeros_0f7a4_23 (by decide) rfl (fun _ => ?_) (fun z => absurd z (by decide))
    refine g_iload_n (pc' := 35) C 1 dJ6_numberOfTrailingZeros_0f7a4_34 rfl rfl rfl ?_
    refine g_sipush (pc' := 38) (v := nI 256) C dJ6_numberOfTrailingZeros_0f7a4_35 (by decide) rfl ?_
    refine g_icmp_leN (pc' := 41) (tgt := 49) C (by first | assumption | omega) (by first | assumption | omega) dJ6_numberOfTrailingZeros_0f7a4_38 (by decide) rfl (fun _ => ?_) (fun z => absurd z (by decide))
    refine g_iload_n (pc' := 50) C 1 dJ6_numberOfTrailingZeros_0f7a4_49 rfl rfl rfl ?_
    refine g_bipush (pc' := 52) (v := nI 16) C dJ6_numberOfTrailingZeros_0f7a4_50 (by decide) rfl ?_
    refine g_icmp_leN (pc' := 55) (tgt := 62) C (by first | assumption | omega) (by first | assumption | omega) dJ6_numberOfTrailingZeros_0f7a4_52 (by decide) rfl (fun _ => ?_) (fun z => absurd z (by decide))
    refine g_iload_n (pc' := 63) C 1 dJ6_numberOfTrailingZeros_0f7a4_62 rfl rfl rfl ?_
    refine g_iconst (pc' := 64) (v := nI 4) C dJ6_numberOfTrailingZeros_0f7a4_63 (by decide) rfl ?_
    refine g_icmp_leN (pc' := 67) (tgt := 74) C (by first | assumption | omega) (by first | assumption | omega) dJ6_numberOfTrailingZeros_0f7a4_64 (by decide) rfl (fun _ => ?_) (fun z => absurd z (by decide))
    refine g_iload_n (pc' := 75) C 0 dJ6_numberOfTrailingZeros_0f7a4_74 rfl rfl rfl ?_
    refine g_iload_n (pc' := 76) C 1 dJ6_numberOfTrailingZeros_0f7a4_75 rfl rfl rfl ?_
    refine g_iconst (pc' := 77) (v := nI 1) C dJ6_numberOfTrailingZeros_0f7a4_76 (by decide) rfl ?_
    refine g_iushr (pc' := 78) (v := nI 1) C dJ6_numberOfTrailingZeros_0f7a4_77 (by decide) rfl ?_
    refine g_iadd (pc' := 79) (v := nI 2) C dJ6_numberOfTrailingZeros_0f7a4_78 (by decide) rfl ?_
    exact g_retP C rfl rfl (show nI 2 = nI (tz6 x) by rw [e2]) dJ6_numberOfTrailingZeros_0f7a4_79
  · rw [e1]
    refine g_iload_n (pc' := 9) C 0 dJ6_numberOfTrailingZeros_0f7a4_8 rfl rfl rfl ?_
    refine g_if_gtN (pc' := 12) (tgt := 17) C (by first | assumption | omega) dJ6_numberOfTrailingZeros_0f7a4_9 (by decide) rfl (fun _ => ?_) (fun z => absurd z (by decide))
    refine g_iconst (pc' := 18) (v := nI 1) C dJ6_numberOfTrailingZeros_0f7a4_17 (by decide) rfl ?_
    refine g_istore_n (pc' := 19) (lv' := [(1, .int (nI 1)), (0, .int (nI 7))]) C dJ6_numberOfTrailingZeros_0f7a4_18 rfl (by decide) rfl rfl ?_
    refine g_iload_n (pc' := 20) C 1 dJ6_numberOfTrailingZeros_0f7a4_19 rfl rfl rfl ?_
    refine g_ldcw (pc' := 23) C wd_const_RJ6_264 dJ6_numberOfTrailingZeros_0f7a4_20 rfl ?_
    refine g_val (y := nI 65536) (by decide) ?_
    refine g_icmp_leN (pc' := 26) (tgt := 34) C (by first | assumption | omega) (by first | assumption | omega) dJ6_numberOfTrailingZeros_0f7a4_23 (by decide) rfl (fun _ => ?_) (fun z => absurd z (by decide))
    refine g_iload_n (pc' := 35) C 1 dJ6_numberOfTrailingZeros_0f7a4_34 rfl rfl rfl ?_
    refine g_sipush (pc' := 38) (v := nI 256) C dJ6_numberOfTrailingZeros_0f7a4_35 (by decide) rfl ?_
    refine g_icmp_leN (pc' := 41) (tgt := 49) C (by first | assumption | omega) (by first | assumption | omega) dJ6_numberOfTrailingZeros_0f7a4_38 (by decide) rfl (fun _ => ?_) (fun z => absurd z (by decide))
    refine g_iload_n (pc' := 50) C 1 dJ6_numberOfTrailingZeros_0f7a4_49 rfl rfl rfl ?_
    refine g_bipush (pc' := 52) (v := nI 16) C dJ6_numberOfTrailingZeros_0f7a4_50 (by decide) rfl ?_
    refine g_icmp_leN (pc' := 55) (tgt := 62) C (by first | assumption | omega) (by first | assumption | omega) dJ6_numberOfTrailingZeros_0f7a4_52 (by decide) rfl (fun _ => ?_) (fun z => absurd z (by decide))
    refine g_iload_n (pc' := 63) C 1 dJ6_numberOfTrailingZeros_0f7a4_62 rfl rfl rfl ?_
    refine g_iconst (pc' := 64) (v := nI 4) C dJ6_numberOfTrailingZeros_0f7a4_63 (by decide) rfl ?_
    refine g_icmp_leN (pc' := 67) (tgt := 74) C (by first | assumption | omega) (by first | assumption | omega) dJ6_numberOfTrailingZeros_0f7a4_64 (by decide) rfl (fun z => absurd z (by decide)) (fun _ => ?_)
    refine g_iinc (pc' := 70) (v := nI 3) (lv' := [(1, .int (nI 3)), (0, .int (nI 7))]) C 0 dJ6_numberOfTrailingZeros_0f7a4_67 rfl (by decide) (by decide) rfl rfl ?_
    refine g_iload_n (pc' := 71) C 1 dJ6_numberOfTrailingZeros_0f7a4_70 rfl rfl rfl ?_
    refine g_iconst (pc' := 72) (v := nI 2) C dJ6_numberOfTrailingZeros_0f7a4_71 (by decide) rfl ?_
    refine g_iushr (pc' := 73) (v := nI 1) C dJ6_numberOfTrailingZeros_0f7a4_72 (by decide) rfl ?_
    refine g_istore_n (pc' := 74) (lv' := [(0, .int (nI 1)), (1, .int (nI 3))]) C dJ6_numberOfTrailingZeros_0f7a4_73 rfl (by decide) rfl rfl ?_
    refine g_iload_n (pc' := 75) C 1 dJ6_numberOfTrailingZeros_0f7a4_74 rfl rfl rfl ?_
    refine g_iload_n (pc' := 76) C 0 dJ6_numberOfTrailingZeros_0f7a4_75 rfl rfl rfl ?_
    refine g_iconst (pc' := 77) (v := nI 1) C dJ6_numberOfTrailingZeros_0f7a4_76 (by decide) rfl ?_
    refine g_iushr (pc' := 78) (v := nI 0) C dJ6_numberOfTrailingZeros_0f7a4_77 (by decide) rfl ?_
    refine g_iadd (pc' := 79) (v := nI 3) C dJ6_numberOfTrailingZeros_0f7a4_78 (by decide) rfl ?_
    exact g_retP C rfl rfl (show nI 3 = nI (tz6 x) by rw [e2]) dJ6_numberOfTrailingZeros_0f7a4_79
  · rw [e1]
    refine g_iload_n (pc' := 9) C 0 dJ6_numberOfTrailingZeros_0f7a4_8 rfl rfl rfl ?_
    refine g_if_gtN (pc' := 12) (tgt := 17) C (by first | assumption | omega) dJ6_numberOfTrailingZeros_0f7a4_9 (by decide) rfl (fun _ => ?_) (fun z => absurd z (by decide))
    refine g_iconst (pc' := 18) (v := nI 1) C dJ6_numberOfTrailingZeros_0f7a4_17 (by decide) rfl ?_
    refine g_istore_n (pc' := 19) (lv' := [(1, .int (nI 1)), (0, .int (nI 15))]) C dJ6_numberOfTrailingZeros_0f7a4_18 rfl (by decide) rfl rfl ?_
    refine g_iload_n (pc' := 20) C 1 dJ6_numberOfTrailingZeros_0f7a4_19 rfl rfl rfl ?_
    refine g_ldcw (pc' := 23) C wd_const_RJ6_264 dJ6_numberOfTrailingZeros_0f7a4_20 rfl ?_
    refine g_val (y := nI 65536) (by decide) ?_
    refine g_icmp_leN (pc' := 26) (tgt := 34) C (by first | assumption | omega) (by first | assumption | omega) dJ6_numberOfTrailingZeros_0f7a4_23 (by decide) rfl (fun _ => ?_) (fun z => absurd z (by decide))
    refine g_iload_n (pc' := 35) C 1 dJ6_numberOfTrailingZeros_0f7a4_34 rfl rfl rfl ?_
    refine g_sipush (pc' := 38) (v := nI 256) C dJ6_numberOfTrailingZeros_0f7a4_35 (by decide) rfl ?_
    refine g_icmp_leN (pc' := 41) (tgt := 49) C (by first | assumption | omega) (by first | assumption | omega) dJ6_numberOfTrailingZeros_0f7a4_38 (by decide) rfl (fun _ => ?_) (fun z => absurd z (by decide))
    refine g_iload_n (pc' := 50) C 1 dJ6_numberOfTrailingZeros_0f7a4_49 rfl rfl rfl ?_
    refine g_bipush (pc' := 52) (v := nI 16) C dJ6_numberOfTrailingZeros_0f7a4_50 (by decide) rfl ?_
    refine g_icmp_leN (pc' := 55) (tgt := 62) C (by first | assumption | omega) (by first | assumption | omega) dJ6_numberOfTrailingZeros_0f7a4_52 (by decide) rfl (fun _ => ?_) (fun z => absurd z (by decide))
    refine g_iload_n (pc' := 63) C 1 dJ6_numberOfTrailingZeros_0f7a4_62 rfl rfl rfl ?_
    refine g_iconst (pc' := 64) (v := nI 4) C dJ6_numberOfTrailingZeros_0f7a4_63 (by decide) rfl ?_
    refine g_icmp_leN (pc' := 67) (tgt := 74) C (by first | assumption | omega) (by first | assumption | omega) dJ6_numberOfTrailingZeros_0f7a4_64 (by decide) rfl (fun z => absurd z (by decide)) (fun _ => ?_)
    refine g_iinc (pc' := 70) (v := nI 3) (lv' := [(1, .int (nI 3)), (0, .int (nI 15))]) C 0 dJ6_numberOfTrailingZeros_0f7a4_67 rfl (by decide) (by decide) rfl rfl ?_
    refine g_iload_n (pc' := 71) C 1 dJ6_numberOfTrailingZeros_0f7a4_70 rfl rfl rfl ?_
    refine g_iconst (pc' := 72) (v := nI 2) C dJ6_numberOfTrailingZeros_0f7a4_71 (by decide) rfl ?_
    refine g_iushr (pc' := 73) (v := nI 3) C dJ6_numberOfTrailingZeros_0f7a4_72 (by decide) rfl ?_
    refine g_istore_n (pc' := 74) (lv' := [(0, .int (nI 3)), (1, .int (nI 3))]) C dJ6_numberOfTrailingZeros_0f7a4_73 rfl (by decide) rfl rfl ?_
    refine g_iload_n (pc' := 75) C 1 dJ6_numberOfTrailingZeros_0f7a4_74 rfl rfl rfl ?_
    refine g_iload_n (pc' := 76) C 0 dJ6_numberOfTrailingZeros_0f7a4_75 rfl rfl rfl ?_
    refine g_iconst (pc' := 77) (v := nI 1) C dJ6_numberOfTrailingZeros_0f7a4_76 (by decide) rfl ?_
    refine g_iushr (pc' := 78) (v := nI 1) C dJ6_numberOfTrailingZeros_0f7a4_77 (by decide) rfl ?_
    refine g_iadd (pc' := 79) (v := nI 4) C dJ6_numberOfTrailingZeros_0f7a4_78 (by decide) rfl ?_
    exact g_retP C rfl rfl (show nI 4 = nI (tz6 x) by rw [e2]) dJ6_numberOfTrailingZeros_0f7a4_79
  · rw [e1]
    refine g_iload_n (pc' := 9) C 0 dJ6_numberOfTrailingZeros_0f7a4_8 rfl rfl rfl ?_
    refine g_if_gtN (pc' := 12) (tgt := 17) C (by first | assumption | omega) dJ6_numberOfTrailingZeros_0f7a4_9 (by decide) rfl (fun _ => ?_) (fun z => absurd z (by decide))
    refine g_iconst (pc' := 18) (v := nI 1) C dJ6_numberOfTrailingZeros_0f7a4_17 (by decide) rfl ?_
    refine g_istore_n (pc' := 19) (lv' := [(1, .int (nI 1)), (0, .int (nI 31))]) C dJ6_numberOfTrailingZeros_0f7a4_18 rfl (by decide) rfl rfl ?_
    refine g_iload_n (pc' := 20) C 1 dJ6_numberOfTrailingZeros_0f7a4_19 rfl rfl rfl ?_
    refine g_ldcw (pc' := 23) C wd_const_RJ6_264 dJ6_numberOfTrailingZeros_0f7a4_20 rfl ?_
    refine g_val (y := nI 65536) (by decide) ?_
    refine g_icmp_leN (pc' := 26) (tgt := 34) C (by first | assumption | omega) (by first | assumption | omega) dJ6_numberOfTrailingZeros_0f7a4_23 (by decide) rfl (fun _ => ?_) (fun z => absurd z (by decide))
    refine g_iload_n (pc' := 35) C 1 dJ6_numberOfTrailingZeros_0f7a4_34 rfl rfl rfl ?_
    refine g_sipush (pc' := 38) (v := nI 256) C dJ6_numberOfTrailingZeros_0f7a4_35 (by decide) rfl ?_
    refine g_icmp_leN (pc' := 41) (tgt := 49) C (by first | assumption | omega) (by first | assumption | omega) dJ6_numberOfTrailingZeros_0f7a4_38 (by decide) rfl (fun _ => ?_) (fun z => absurd z (by decide))
    refine g_iload_n (pc' := 50) C 1 dJ6_numberOfTrailingZeros_0f7a4_49 rfl rfl rfl ?_
    refine g_bipush (pc' := 52) (v := nI 16) C dJ6_numberOfTrailingZeros_0f7a4_50 (by decide) rfl ?_
    refine g_icmp_leN (pc' := 55) (tgt := 62) C (by first | assumption | omega) (by first | assumption | omega) dJ6_numberOfTrailingZeros_0f7a4_52 (by decide) rfl (fun z => absurd z (by decide)) (fun _ => ?_)
    refine g_iinc (pc' := 58) (v := nI 5) (lv' := [(1, .int (nI 5)), (0, .int (nI 31))]) C 0 dJ6_numberOfTrailingZeros_0f7a4_55 rfl (by decide) (by decide) rfl rfl ?_
    refine g_iload_n (pc' := 59) C 1 dJ6_numberOfTrailingZeros_0f7a4_58 rfl rfl rfl ?_
    refine g_iconst (pc' := 60) (v := nI 4) C dJ6_numberOfTrailingZeros_0f7a4_59 (by decide) rfl ?_
    refine g_iushr (pc' := 61) (v := nI 1) C dJ6_numberOfTrailingZeros_0f7a4_60 (by decide) rfl ?_
    refine g_istore_n (pc' := 62) (lv' := [(0, .int (nI 1)), (1, .int (nI 5))]) C dJ6_numberOfTrailingZeros_0f7a4_61 rfl (by decide) rfl rfl ?_
    refine g_iload_n (pc' := 63) C 0 dJ6_numberOfTrailingZeros_0f7a4_62 rfl rfl rfl ?_
    refine g_iconst (pc' := 64) (v := nI 4) C dJ6_numberOfTrailingZeros_0f7a4_63 (by decide) rfl ?_
    refine g_icmp_leN (pc' := 67) (tgt := 74) C (by first | assumption | omega) (by first | assumption | omega) dJ6_numberOfTrailingZeros_0f7a4_64 (by decide) rfl (fun _ => ?_) (fun z => absurd z (by decide))
    refine g_iload_n (pc' := 75) C 1 dJ6_numberOfTrailingZeros_0f7a4_74 rfl rfl rfl ?_
    refine g_iload_n (pc' := 76) C 0 dJ6_numberOfTrailingZeros_0f7a4_75 rfl rfl rfl ?_
    refine g_iconst (pc' := 77) (v := nI 1) C dJ6_numberOfTrailingZeros_0f7a4_76 (by decide) rfl ?_
    refine g_iushr (pc' := 78) (v := nI 0) C dJ6_numberOfTrailingZeros_0f7a4_77 (by decide) rfl ?_
    refine g_iadd (pc' := 79) (v := nI 5) C dJ6_numberOfTrailingZeros_0f7a4_78 (by decide) rfl ?_
    exact g_retP C rfl rfl (show nI 5 = nI (tz6 x) by rw [e2]) dJ6_numberOfTrailingZeros_0f7a4_79

theorem bc6_all : ∀ x, x < 64 → ((((((((nI x) - ((((nI x).toUInt32 >>> ((nI 1).toUInt32 &&& Int32.toUInt32 31)).toInt32) &&& (nI 1431655765))) &&& (nI 858993459)) + (((((nI x) - ((((nI x).toUInt32 >>> ((nI 1).toUInt32 &&& Int32.toUInt32 31)).toInt32) &&& (nI 1431655765))).toUInt32 >>> ((nI 2).toUInt32 &&& Int32.toUInt32 31)).toInt32) &&& (nI 858993459))) + ((((((nI x) - ((((nI x).toUInt32 >>> ((nI 1).toUInt32 &&& Int32.toUInt32 31)).toInt32) &&& (nI 1431655765))) &&& (nI 858993459)) + (((((nI x) - ((((nI x).toUInt32 >>> ((nI 1).toUInt32 &&& Int32.toUInt32 31)).toInt32) &&& (nI 1431655765))).toUInt32 >>> ((nI 2).toUInt32 &&& Int32.toUInt32 31)).toInt32) &&& (nI 858993459))).toUInt32 >>> ((nI 4).toUInt32 &&& Int32.toUInt32 31)).toInt32)) &&& (nI 252645135)) + ((((((((nI x) - ((((nI x).toUInt32 >>> ((nI 1).toUInt32 &&& Int32.toUInt32 31)).toInt32) &&& (nI 1431655765))) &&& (nI 858993459)) + (((((nI x) - ((((nI x).toUInt32 >>> ((nI 1).toUInt32 &&& Int32.toUInt32 31)).toInt32) &&& (nI 1431655765))).toUInt32 >>> ((nI 2).toUInt32 &&& Int32.toUInt32 31)).toInt32) &&& (nI 858993459))) + ((((((nI x) - ((((nI x).toUInt32 >>> ((nI 1).toUInt32 &&& Int32.toUInt32 31)).toInt32) &&& (nI 1431655765))) &&& (nI 858993459)) + (((((nI x) - ((((nI x).toUInt32 >>> ((nI 1).toUInt32 &&& Int32.toUInt32 31)).toInt32) &&& (nI 1431655765))).toUInt32 >>> ((nI 2).toUInt32 &&& Int32.toUInt32 31)).toInt32) &&& (nI 858993459))).toUInt32 >>> ((nI 4).toUInt32 &&& Int32.toUInt32 31)).toInt32)) &&& (nI 252645135)).toUInt32 >>> ((nI 8).toUInt32 &&& Int32.toUInt32 31)).toInt32)) + (((((((((nI x) - ((((nI x).toUInt32 >>> ((nI 1).toUInt32 &&& Int32.toUInt32 31)).toInt32) &&& (nI 1431655765))) &&& (nI 858993459)) + (((((nI x) - ((((nI x).toUInt32 >>> ((nI 1).toUInt32 &&& Int32.toUInt32 31)).toInt32) &&& (nI 1431655765))).toUInt32 >>> ((nI 2).toUInt32 &&& Int32.toUInt32 31)).toInt32) &&& (nI 858993459))) + ((((((nI x) - ((((nI x).toUInt32 >>> ((nI 1).toUInt32 &&& Int32.toUInt32 31)).toInt32) &&& (nI 1431655765))) &&& (nI 858993459)) + (((((nI x) - ((((nI x).toUInt32 >>> ((nI 1).toUInt32 &&& Int32.toUInt32 31)).toInt32) &&& (nI 1431655765))).toUInt32 >>> ((nI 2).toUInt32 &&& Int32.toUInt32 31)).toInt32) &&& (nI 858993459))).toUInt32 >>> ((nI 4).toUInt32 &&& Int32.toUInt32 31)).toInt32)) &&& (nI 252645135)) + ((((((((nI x) - ((((nI x).toUInt32 >>> ((nI 1).toUInt32 &&& Int32.toUInt32 31)).toInt32) &&& (nI 1431655765))) &&& (nI 858993459)) + (((((nI x) - ((((nI x).toUInt32 >>> ((nI 1).toUInt32 &&& Int32.toUInt32 31)).toInt32) &&& (nI 1431655765))).toUInt32 >>> ((nI 2).toUInt32 &&& Int32.toUInt32 31)).toInt32) &&& (nI 858993459))) + ((((((nI x) - ((((nI x).toUInt32 >>> ((nI 1).toUInt32 &&& Int32.toUInt32 31)).toInt32) &&& (nI 1431655765))) &&& (nI 858993459)) + (((((nI x) - ((((nI x).toUInt32 >>> ((nI 1).toUInt32 &&& Int32.toUInt32 31)).toInt32) &&& (nI 1431655765))).toUInt32 >>> ((nI 2).toUInt32 &&& Int32.toUInt32 31)).toInt32) &&& (nI 858993459))).toUInt32 >>> ((nI 4).toUInt32 &&& Int32.toUInt32 31)).toInt32)) &&& (nI 252645135)).toUInt32 >>> ((nI 8).toUInt32 &&& Int32.toUInt32 31)).toInt32)).toUInt32 >>> ((nI 16).toUInt32 &&& Int32.toUInt32 31)).toInt32)) &&& (nI 63) = nI (bc6 x) := by decide +kernel

set_option maxHeartbeats 4000000 in
set_option maxRecDepth 100000 in
theorem kJ6_bitCount_0f7a4 (l : Launch) (κ : KK) (x : Nat) (h1 : x < 64) : CP l yJ6_bitCount_0f7a4 cJ6_bitCount_0f7a4 1 (some .int) 0 κ [.int (nI x)] [] (fun vr_ => vr_ = nI (bc6 x)) := by
  refine cp_of RJ6 rfl (by decide) (Nat.le_of_ble_eq_true rfl) ?_
  intro p e s m below meth c C
  refine g_lv (lv' := [(0, .int (nI x))]) [0] rfl ?_
  refine g_iload_n (pc' := 1) C 0 dJ6_bitCount_0f7a4_0 rfl rfl rfl ?_
  refine g_iload_n (pc' := 2) C 0 dJ6_bitCount_0f7a4_1 rfl rfl rfl ?_
  refine g_iconst (pc' := 3) (v := nI 1) C dJ6_bitCount_0f7a4_2 (by decide) rfl ?_
  refine g_iushr (pc' := 4) (v := ((nI x).toUInt32 >>> ((nI 1).toUInt32 &&& Int32.toUInt32 31)).toInt32) C dJ6_bitCount_0f7a4_3 rfl rfl ?_
  refine g_ldcw (pc' := 7) C wd_const_RJ6_265 dJ6_bitCount_0f7a4_4 rfl ?_
  refine g_val (y := nI 1431655765) (by decide) ?_
  refine g_iand (pc' := 8) (v := (((nI x).toUInt32 >>> ((nI 1).toUInt32 &&& Int32.toUInt32 31)).toInt32) &&& (nI 1431655765)) C dJ6_bitCount_0f7a4_7 rfl rfl ?_
  refine g_isub (pc' := 9) (v := (nI x) - ((((nI x).toUInt32 >>> ((nI 1).toUInt32 &&& Int32.toUInt32 31)).toInt32) &&& (nI 1431655765))) C dJ6_bitCount_0f7a4_8 rfl rfl ?_
  refine g_istore_n (pc' := 10) (lv' := [(0, .int ((nI x) - ((((nI x).toUInt32 >>> ((nI 1).toUInt32 &&& Int32.toUInt32 31)).toInt32) &&& (nI 1431655765))))]) C dJ6_bitCount_0f7a4_9 rfl (by decide) rfl rfl ?_
  refine g_iload_n (pc' := 11) C 0 dJ6_bitCount_0f7a4_10 rfl rfl rfl ?_
  refine g_ldcw (pc' := 14) C wd_const_RJ6_266 dJ6_bitCount_0f7a4_11 rfl ?_
  refine g_val (y := nI 858993459) (by decide) ?_
  refine g_iand (pc' := 15) (v := ((nI x) - ((((nI x).toUInt32 >>> ((nI 1).toUInt32 &&& Int32.toUInt32 31)).toInt32) &&& (nI 1431655765))) &&& (nI 858993459)) C dJ6_bitCount_0f7a4_14 rfl rfl ?_
  refine g_iload_n (pc' := 16) C 0 dJ6_bitCount_0f7a4_15 rfl rfl rfl ?_
  refine g_iconst (pc' := 17) (v := nI 2) C dJ6_bitCount_0f7a4_16 (by decide) rfl ?_
  refine g_iushr (pc' := 18) (v := (((nI x) - ((((nI x).toUInt32 >>> ((nI 1).toUInt32 &&& Int32.toUInt32 31)).toInt32) &&& (nI 1431655765))).toUInt32 >>> ((nI 2).toUInt32 &&& Int32.toUInt32 31)).toInt32) C dJ6_bitCount_0f7a4_17 rfl rfl ?_
  refine g_ldcw (pc' := 21) C wd_const_RJ6_266 dJ6_bitCount_0f7a4_18 rfl ?_
  refine g_val (y := nI 858993459) (by decide) ?_
  refine g_iand (pc' := 22) (v := ((((nI x) - ((((nI x).toUInt32 >>> ((nI 1).toUInt32 &&& Int32.toUInt32 31)).toInt32) &&& (nI 1431655765))).toUInt32 >>> ((nI 2).toUInt32 &&& Int32.toUInt32 31)).toInt32) &&& (nI 858993459)) C dJ6_bitCount_0f7a4_21 rfl rfl ?_
  refine g_iadd (pc' := 23) (v := (((nI x) - ((((nI x).toUInt32 >>> ((nI 1).toUInt32 &&& Int32.toUInt32 31)).toInt32) &&& (nI 1431655765))) &&& (nI 858993459)) + (((((nI x) - ((((nI x).toUInt32 >>> ((nI 1).toUInt32 &&& Int32.toUInt32 31)).toInt32) &&& (nI 1431655765))).toUInt32 >>> ((nI 2).toUInt32 &&& Int32.toUInt32 31)).toInt32) &&& (nI 858993459))) C dJ6_bitCount_0f7a4_22 rfl rfl ?_
  refine g_istore_n (pc' := 24) (lv' := [(0, .int ((((nI x) - ((((nI x).toUInt32 >>> ((nI 1).toUInt32 &&& Int32.toUInt32 31)).toInt32) &&& (nI 1431655765))) &&& (nI 858993459)) + (((((nI x) - ((((nI x).toUInt32 >>> ((nI 1).toUInt32 &&& Int32.toUInt32 31)).toInt32) &&& (nI 1431655765))).toUInt32 >>> ((nI 2).toUInt32 &&& Int32.toUInt32 31)).toInt32) &&& (nI 858993459))))]) C dJ6_bitCount_0f7a4_23 rfl (by decide) rfl rfl ?_
  refine g_iload_n (pc' := 25) C 0 dJ6_bitCount_0f7a4_24 rfl rfl rfl ?_
  refine g_iload_n (pc' := 26) C 0 dJ6_bitCount_0f7a4_25 rfl rfl rfl ?_
  refine g_iconst (pc' := 27) (v := nI 4) C dJ6_bitCount_0f7a4_26 (by decide) rfl ?_
  refine g_iushr (pc' := 28) (v := (((((nI x) - ((((nI x).toUInt32 >>> ((nI 1).toUInt32 &&& Int32.toUInt32 31)).toInt32) &&& (nI 1431655765))) &&& (nI 858993459)) + (((((nI x) - ((((nI x).toUInt32 >>> ((nI 1).toUInt32 &&& Int32.toUInt32 31)).toInt32) &&& (nI 1431655765))).toUInt32 >>> ((nI 2).toUInt32 &&& Int32.toUInt32 31)).toInt32) &&& (nI 858993459))).toUInt32 >>> ((nI 4).toUInt32 &&& Int32.toUInt32 31)).toInt32) C dJ6_bitCount_0f7a4_27 rfl rfl ?_
  refine g_iadd (pc' := 29) (v := ((((nI x) - ((((nI x).toUInt32 >>> ((nI 1).toUInt32 &&& Int32.toUInt32 31)).toInt32) &&& (nI 1431655765))) &&& (nI 858993459)) + (((((nI x) - ((((nI x).toUInt32 >>> ((nI 1).toUInt32 &&& Int32.toUInt32 31)).toInt32) &&& (nI 1431655765))).toUInt32 >>> ((nI 2).toUInt32 &&& Int32.toUInt32 31)).toInt32) &&& (nI 858993459))) + ((((((nI x) - ((((nI x).toUInt32 >>> ((nI 1).toUInt32 &&& Int32.toUInt32 31)).toInt32) &&& (nI 1431655765))) &&& (nI 858993459)) + (((((nI x) - ((((nI x).toUInt32 >>> ((nI 1).toUInt32 &&& Int32.toUInt32 31)).toInt32) &&& (nI 1431655765))).toUInt32 >>> ((nI 2).toUInt32 &&& Int32.toUInt32 31)).toInt32) &&& (nI 858993459))).toUInt32 >>> ((nI 4).toUInt32 &&& Int32.toUInt32 31)).toInt32)) C dJ6_bitCount_0f7a4_28 rfl rfl ?_
  refine g_ldcw (pc' := 32) C wd_const_RJ6_267 dJ6_bitCount_0f7a4_29 rfl ?_
  refine g_val (y := nI 252645135) (by decide) ?_
  refine g_iand (pc' := 33) (v := (((((nI x) - ((((nI x).toUInt32 >>> ((nI 1).toUInt32 &&& Int32.toUInt32 31)).toInt32) &&& (nI 1431655765))) &&& (nI 858993459)) + (((((nI x) - ((((nI x).toUInt32 >>> ((nI 1).toUInt32 &&& Int32.toUInt32 31)).toInt32) &&& (nI 1431655765))).toUInt32 >>> ((nI 2).toUInt32 &&& Int32.toUInt32 31)).toInt32) &&& (nI 858993459))) + ((((((nI x) - ((((nI x).toUInt32 >>> ((nI 1).toUInt32 &&& Int32.toUInt32 31)).toInt32) &&& (nI 1431655765))) &&& (nI 858993459)) + (((((nI x) - ((((nI x).toUInt32 >>> ((nI 1).toUInt32 &&& Int32.toUInt32 31)).toInt32) &&& (nI 1431655765))).toUInt32 >>> ((nI 2).toUInt32 &&& Int32.toUInt32 31)).toInt32) &&& (nI 858993459))).toUInt32 >>> ((nI 4).toUInt32 &&& Int32.toUInt32 31)).toInt32)) &&& (nI 252645135)) C dJ6_bitCount_0f7a4_32 rfl rfl ?_
  refine g_istore_n (pc' := 34) (lv' := [(0, .int ((((((nI x) - ((((nI x).toUInt32 >>> ((nI 1).toUInt32 &&& Int32.toUInt32 31)).toInt32) &&& (nI 1431655765))) &&& (nI 858993459)) + (((((nI x) - ((((nI x).toUInt32 >>> ((nI 1).toUInt32 &&& Int32.toUInt32 31)).toInt32) &&& (nI 1431655765))).toUInt32 >>> ((nI 2).toUInt32 &&& Int32.toUInt32 31)).toInt32) &&& (nI 858993459))) + ((((((nI x) - ((((nI x).toUInt32 >>> ((nI 1).toUInt32 &&& Int32.toUInt32 31)).toInt32) &&& (nI 1431655765))) &&& (nI 858993459)) + (((((nI x) - ((((nI x).toUInt32 >>> ((nI 1).toUInt32 &&& Int32.toUInt32 31)).toInt32) &&& (nI 1431655765))).toUInt32 >>> ((nI 2).toUInt32 &&& Int32.toUInt32 31)).toInt32) &&& (nI 858993459))).toUInt32 >>> ((nI 4).toUInt32 &&& Int32.toUInt32 31)).toInt32)) &&& (nI 252645135)))]) C dJ6_bitCount_0f7a4_33 rfl (by decide) rfl rfl ?_
  refine g_iload_n (pc' := 35) C 0 dJ6_bitCount_0f7a4_34 rfl rfl rfl ?_
  refine g_iload_n (pc' := 36) C 0 dJ6_bitCount_0f7a4_35 rfl rfl rfl ?_
  refine g_bipush (pc' := 38) (v := nI 8) C dJ6_bitCount_0f7a4_36 (by decide) rfl ?_
  refine g_iushr (pc' := 39) (v := (((((((nI x) - ((((nI x).toUInt32 >>> ((nI 1).toUInt32 &&& Int32.toUInt32 31)).toInt32) &&& (nI 1431655765))) &&& (nI 858993459)) + (((((nI x) - ((((nI x).toUInt32 >>> ((nI 1).toUInt32 &&& Int32.toUInt32 31)).toInt32) &&& (nI 1431655765))).toUInt32 >>> ((nI 2).toUInt32 &&& Int32.toUInt32 31)).toInt32) &&& (nI 858993459))) + ((((((nI x) - ((((nI x).toUInt32 >>> ((nI 1).toUInt32 &&& Int32.toUInt32 31)).toInt32) &&& (nI 1431655765))) &&& (nI 858993459)) + (((((nI x) - ((((nI x).toUInt32 >>> ((nI 1).toUInt32 &&& Int32.toUInt32 31)).toInt32) &&& (nI 1431655765))).toUInt32 >>> ((nI 2).toUInt32 &&& Int32.toUInt32 31)).toInt32) &&& (nI 858993459))).toUInt32 >>> ((nI 4).toUInt32 &&& Int32.toUInt32 31)).toInt32)) &&& (nI 252645135)).toUInt32 >>> ((nI 8).toUInt32 &&& Int32.toUInt32 31)).toInt32) C dJ6_bitCount_0f7a4_38 rfl rfl ?_
  refine g_iadd (pc' := 40) (v := ((((((nI x) - ((((nI x).toUInt32 >>> ((nI 1).toUInt32 &&& Int32.toUInt32 31)).toInt32) &&& (nI 1431655765))) &&& (nI 858993459)) + (((((nI x) - ((((nI x).toUInt32 >>> ((nI 1).toUInt32 &&& Int32.toUInt32 31)).toInt32) &&& (nI 1431655765))).toUInt32 >>> ((nI 2).toUInt32 &&& Int32.toUInt32 31)).toInt32) &&& (nI 858993459))) + ((((((nI x) - ((((nI x).toUInt32 >>> ((nI 1).toUInt32 &&& Int32.toUInt32 31)).toInt32) &&& (nI 1431655765))) &&& (nI 858993459)) + (((((nI x) - ((((nI x).toUInt32 >>> ((nI 1).toUInt32 &&& Int32.toUInt32 31)).toInt32) &&& (nI 1431655765))).toUInt32 >>> ((nI 2).toUInt32 &&& Int32.toUInt32 31)).toInt32) &&& (nI 858993459))).toUInt32 >>> ((nI 4).toUInt32 &&& Int32.toUInt32 31)).toInt32)) &&& (nI 252645135)) + ((((((((nI x) - ((((nI x).toUInt32 >>> ((nI 1).toUInt32 &&& Int32.toUInt32 31)).toInt32) &&& (nI 1431655765))) &&& (nI 858993459)) + (((((nI x) - ((((nI x).toUInt32 >>> ((nI 1).toUInt32 &&& Int32.toUInt32 31)).toInt32) &&& (nI 1431655765))).toUInt32 >>> ((nI 2).toUInt32 &&& Int32.toUInt32 31)).toInt32) &&& (nI 858993459))) + ((((((nI x) - ((((nI x).toUInt32 >>> ((nI 1).toUInt32 &&& Int32.toUInt32 31)).toInt32) &&& (nI 1431655765))) &&& (nI 858993459)) + (((((nI x) - ((((nI x).toUInt32 >>> ((nI 1).toUInt32 &&& Int32.toUInt32 31)).toInt32) &&& (nI 1431655765))).toUInt32 >>> ((nI 2).toUInt32 &&& Int32.toUInt32 31)).toInt32) &&& (nI 858993459))).toUInt32 >>> ((nI 4).toUInt32 &&& Int32.toUInt32 31)).toInt32)) &&& (nI 252645135)).toUInt32 >>> ((nI 8).toUInt32 &&& Int32.toUInt32 31)).toInt32)) C dJ6_bitCount_0f7a4_39 rfl rfl ?_
  refine g_istore_n (pc' := 41) (lv' := [(0, .int (((((((nI x) - ((((nI x).toUInt32 >>> ((nI 1).toUInt32 &&& Int32.toUInt32 31)).toInt32) &&& (nI 1431655765))) &&& (nI 858993459)) + (((((nI x) - ((((nI x).toUInt32 >>> ((nI 1).toUInt32 &&& Int32.toUInt32 31)).toInt32) &&& (nI 1431655765))).toUInt32 >>> ((nI 2).toUInt32 &&& Int32.toUInt32 31)).toInt32) &&& (nI 858993459))) + ((((((nI x) - ((((nI x).toUInt32 >>> ((nI 1).toUInt32 &&& Int32.toUInt32 31)).toInt32) &&& (nI 1431655765))) &&& (nI 858993459)) + (((((nI x) - ((((nI x).toUInt32 >>> ((nI 1).toUInt32 &&& Int32.toUInt32 31)).toInt32) &&& (nI 1431655765))).toUInt32 >>> ((nI 2).toUInt32 &&& Int32.toUInt32 31)).toInt32) &&& (nI 858993459))).toUInt32 >>> ((nI 4).toUInt32 &&& Int32.toUInt32 31)).toInt32)) &&& (nI 252645135)) + ((((((((nI x) - ((((nI x).toUInt32 >>> ((nI 1).toUInt32 &&& Int32.toUInt32 31)).toInt32) &&& (nI 1431655765))) &&& (nI 858993459)) + (((((nI x) - ((((nI x).toUInt32 >>> ((nI 1).toUInt32 &&& Int32.toUInt32 31)).toInt32) &&& (nI 1431655765))).toUInt32 >>> ((nI 2).toUInt32 &&& Int32.toUInt32 31)).toInt32) &&& (nI 858993459))) + ((((((nI x) - ((((nI x).toUInt32 >>> ((nI 1).toUInt32 &&& Int32.toUInt32 31)).toInt32) &&& (nI 1431655765))) &&& (nI 858993459)) + (((((nI x) - ((((nI x).toUInt32 >>> ((nI 1).toUInt32 &&& Int32.toUInt32 31)).toInt32) &&& (nI 1431655765))).toUInt32 >>> ((nI 2).toUInt32 &&& Int32.toUInt32 31)).toInt32) &&& (nI 858993459))).toUInt32 >>> ((nI 4).toUInt32 &&& Int32.toUInt32 31)).toInt32)) &&& (nI 252645135)).toUInt32 >>> ((nI 8).toUInt32 &&& Int32.toUInt32 31)).toInt32)))]) C dJ6_bitCount_0f7a4_40 rfl (by decide) rfl rfl ?_
  refine g_iload_n (pc' := 42) C 0 dJ6_bitCount_0f7a4_41 rfl rfl rfl ?_
  refine g_iload_n (pc' := 43) C 0 dJ6_bitCount_0f7a4_42 rfl rfl rfl ?_
  refine g_bipush (pc' := 45) (v := nI 16) C dJ6_bitCount_0f7a4_43 (by decide) rfl ?_
  refine g_iushr (pc' := 46) (v := ((((((((nI x) - ((((nI x).toUInt32 >>> ((nI 1).toUInt32 &&& Int32.toUInt32 31)).toInt32) &&& (nI 1431655765))) &&& (nI 858993459)) + (((((nI x) - ((((nI x).toUInt32 >>> ((nI 1).toUInt32 &&& Int32.toUInt32 31)).toInt32) &&& (nI 1431655765))).toUInt32 >>> ((nI 2).toUInt32 &&& Int32.toUInt32 31)).toInt32) &&& (nI 858993459))) + ((((((nI x) - ((((nI x).toUInt32 >>> ((nI 1).toUInt32 &&& Int32.toUInt32 31)).toInt32) &&& (nI 1431655765))) &&& (nI 858993459)) + (((((nI x) - ((((nI x).toUInt32 >>> ((nI 1).toUInt32 &&& Int32.toUInt32 31)).toInt32) &&& (nI 1431655765))).toUInt32 >>> ((nI 2).toUInt32 &&& Int32.toUInt32 31)).toInt32) &&& (nI 858993459))).toUInt32 >>> ((nI 4).toUInt32 &&& Int32.toUInt32 31)).toInt32)) &&& (nI 252645135)) + ((((((((nI x) - ((((nI x).toUInt32 >>> ((nI 1).toUInt32 &&& Int32.toUInt32 31)).toInt32) &&& (nI 1431655765))) &&& (nI 858993459)) + (((((nI x) - ((((nI x).toUInt32 >>> ((nI 1).toUInt32 &&& Int32.toUInt32 31)).toInt32) &&& (nI 1431655765))).toUInt32 >>> ((nI 2).toUInt32 &&& Int32.toUInt32 31)).toInt32) &&& (nI 858993459))) + ((((((nI x) - ((((nI x).toUInt32 >>> ((nI 1).toUInt32 &&& Int32.toUInt32 31)).toInt32) &&& (nI 1431655765))) &&& (nI 858993459)) + (((((nI x) - ((((nI x).toUInt32 >>> ((nI 1).toUInt32 &&& Int32.toUInt32 31)).toInt32) &&& (nI 1431655765))).toUInt32 >>> ((nI 2).toUInt32 &&& Int32.toUInt32 31)).toInt32) &&& (nI 858993459))).toUInt32 >>> ((nI 4).toUInt32 &&& Int32.toUInt32 31)).toInt32)) &&& (nI 252645135)).toUInt32 >>> ((nI 8).toUInt32 &&& Int32.toUInt32 31)).toInt32)).toUInt32 >>> ((nI 16).toUInt32 &&& Int32.toUInt32 31)).toInt32) C dJ6_bitCount_0f7a4_45 rfl rfl ?_
  refine g_iadd (pc' := 47) (v := (((((((nI x) - ((((nI x).toUInt32 >>> ((nI 1).toUInt32 &&& Int32.toUInt32 31)).toInt32) &&& (nI 1431655765))) &&& (nI 858993459)) + (((((nI x) - ((((nI x).toUInt32 >>> ((nI 1).toUInt32 &&& Int32.toUInt32 31)).toInt32) &&& (nI 1431655765))).toUInt32 >>> ((nI 2).toUInt32 &&& Int32.toUInt32 31)).toInt32) &&& (nI 858993459))) + ((((((nI x) - ((((nI x).toUInt32 >>> ((nI 1).toUInt32 &&& Int32.toUInt32 31)).toInt32) &&& (nI 1431655765))) &&& (nI 858993459)) + (((((nI x) - ((((nI x).toUInt32 >>> ((nI 1).toUInt32 &&& Int32.toUInt32 31)).toInt32) &&& (nI 1431655765))).toUInt32 >>> ((nI 2).toUInt32 &&& Int32.toUInt32 31)).toInt32) &&& (nI 858993459))).toUInt32 >>> ((nI 4).toUInt32 &&& Int32.toUInt32 31)).toInt32)) &&& (nI 252645135)) + ((((((((nI x) - ((((nI x).toUInt32 >>> ((nI 1).toUInt32 &&& Int32.toUInt32 31)).toInt32) &&& (nI 1431655765))) &&& (nI 858993459)) + (((((nI x) - ((((nI x).toUInt32 >>> ((nI 1).toUInt32 &&& Int32.toUInt32 31)).toInt32) &&& (nI 1431655765))).toUInt32 >>> ((nI 2).toUInt32 &&& Int32.toUInt32 31)).toInt32) &&& (nI 858993459))) + ((((((nI x) - ((((nI x).toUInt32 >>> ((nI 1).toUInt32 &&& Int32.toUInt32 31)).toInt32) &&& (nI 1431655765))) &&& (nI 858993459)) + (((((nI x) - ((((nI x).toUInt32 >>> ((nI 1).toUInt32 &&& Int32.toUInt32 31)).toInt32) &&& (nI 1431655765))).toUInt32 >>> ((nI 2).toUInt32 &&& Int32.toUInt32 31)).toInt32) &&& (nI 858993459))).toUInt32 >>> ((nI 4).toUInt32 &&& Int32.toUInt32 31)).toInt32)) &&& (nI 252645135)).toUInt32 >>> ((nI 8).toUInt32 &&& Int32.toUInt32 31)).toInt32)) + (((((((((nI x) - ((((nI x).toUInt32 >>> ((nI 1).toUInt32 &&& Int32.toUInt32 31)).toInt32) &&& (nI 1431655765))) &&& (nI 858993459)) + (((((nI x) - ((((nI x).toUInt32 >>> ((nI 1).toUInt32 &&& Int32.toUInt32 31)).toInt32) &&& (nI 1431655765))).toUInt32 >>> ((nI 2).toUInt32 &&& Int32.toUInt32 31)).toInt32) &&& (nI 858993459))) + ((((((nI x) - ((((nI x).toUInt32 >>> ((nI 1).toUInt32 &&& Int32.toUInt32 31)).toInt32) &&& (nI 1431655765))) &&& (nI 858993459)) + (((((nI x) - ((((nI x).toUInt32 >>> ((nI 1).toUInt32 &&& Int32.toUInt32 31)).toInt32) &&& (nI 1431655765))).toUInt32 >>> ((nI 2).toUInt32 &&& Int32.toUInt32 31)).toInt32) &&& (nI 858993459))).toUInt32 >>> ((nI 4).toUInt32 &&& Int32.toUInt32 31)).toInt32)) &&& (nI 252645135)) + ((((((((nI x) - ((((nI x).toUInt32 >>> ((nI 1).toUInt32 &&& Int32.toUInt32 31)).toInt32) &&& (nI 1431655765))) &&& (nI 858993459)) + (((((nI x) - ((((nI x).toUInt32 >>> ((nI 1).toUInt32 &&& Int32.toUInt32 31)).toInt32) &&& (nI 1431655765))).toUInt32 >>> ((nI 2).toUInt32 &&& Int32.toUInt32 31)).toInt32) &&& (nI 858993459))) + ((((((nI x) - ((((nI x).toUInt32 >>> ((nI 1).toUInt32 &&& Int32.toUInt32 31)).toInt32) &&& (nI 1431655765))) &&& (nI 858993459)) + (((((nI x) - ((((nI x).toUInt32 >>> ((nI 1).toUInt32 &&& Int32.toUInt32 31)).toInt32) &&& (nI 1431655765))).toUInt32 >>> ((nI 2).toUInt32 &&& Int32.toUInt32 31)).toInt32) &&& (nI 858993459))).toUInt32 >>> ((nI 4).toUInt32 &&& Int32.toUInt32 31)).toInt32)) &&& (nI 252645135)).toUInt32 >>> ((nI 8).toUInt32 &&& Int32.toUInt32 31)).toInt32)).toUInt32 >>> ((nI 16).toUInt32 &&& Int32.toUInt32 31)).toInt32)) C dJ6_bitCount_0f7a4_46 rfl rfl ?_
  refine g_istore_n (pc' := 48) (lv' := [(0, .int ((((((((nI x) - ((((nI x).toUInt32 >>> ((nI 1).toUInt32 &&& Int32.toUInt32 31)).toInt32) &&& (nI 1431655765))) &&& (nI 858993459)) + (((((nI x) - ((((nI x).toUInt32 >>> ((nI 1).toUInt32 &&& Int32.toUInt32 31)).toInt32) &&& (nI 1431655765))).toUInt32 >>> ((nI 2).toUInt32 &&& Int32.toUInt32 31)).toInt32) &&& (nI 858993459))) + ((((((nI x) - ((((nI x).toUInt32 >>> ((nI 1).toUInt32 &&& Int32.toUInt32 31)).toInt32) &&& (nI 1431655765))) &&& (nI 858993459)) + (((((nI x) - ((((nI x).toUInt32 >>> ((nI 1).toUInt32 &&& Int32.toUInt32 31)).toInt32) &&& (nI 1431655765))).toUInt32 >>> ((nI 2).toUInt32 &&& Int32.toUInt32 31)).toInt32) &&& (nI 858993459))).toUInt32 >>> ((nI 4).toUInt32 &&& Int32.toUInt32 31)).toInt32)) &&& (nI 252645135)) + ((((((((nI x) - ((((nI x).toUInt32 >>> ((nI 1).toUInt32 &&& Int32.toUInt32 31)).toInt32) &&& (nI 1431655765))) &&& (nI 858993459)) + (((((nI x) - ((((nI x).toUInt32 >>> ((nI 1).toUInt32 &&& Int32.toUInt32 31)).toInt32) &&& (nI 1431655765))).toUInt32 >>> ((nI 2).toUInt32 &&& Int32.toUInt32 31)).toInt32) &&& (nI 858993459))) + ((((((nI x) - ((((nI x).toUInt32 >>> ((nI 1).toUInt32 &&& Int32.toUInt32 31)).toInt32) &&& (nI 1431655765))) &&& (nI 858993459)) + (((((nI x) - ((((nI x).toUInt32 >>> ((nI 1).toUInt32 &&& Int32.toUInt32 31)).toInt32) &&& (nI 1431655765))).toUInt32 >>> ((nI 2).toUInt32 &&& Int32.toUInt32 31)).toInt32) &&& (nI 858993459))).toUInt32 >>> ((nI 4).toUInt32 &&& Int32.toUInt32 31)).toInt32)) &&& (nI 252645135)).toUInt32 >>> ((nI 8).toUInt32 &&& Int32.toUInt32 31)).toInt32)) + (((((((((nI x) - ((((nI x).toUInt32 >>> ((nI 1).toUInt32 &&& Int32.toUInt32 31)).toInt32) &&& (nI 1431655765))) &&& (nI 858993459)) + (((((nI x) - ((((nI x).toUInt32 >>> ((nI 1).toUInt32 &&& Int32.toUInt32 31)).toInt32) &&& (nI 1431655765))).toUInt32 >>> ((nI 2).toUInt32 &&& Int32.toUInt32 31)).toInt32) &&& (nI 858993459))) + ((((((nI x) - ((((nI x).toUInt32 >>> ((nI 1).toUInt32 &&& Int32.toUInt32 31)).toInt32) &&& (nI 1431655765))) &&& (nI 858993459)) + (((((nI x) - ((((nI x).toUInt32 >>> ((nI 1).toUInt32 &&& Int32.toUInt32 31)).toInt32) &&& (nI 1431655765))).toUInt32 >>> ((nI 2).toUInt32 &&& Int32.toUInt32 31)).toInt32) &&& (nI 858993459))).toUInt32 >>> ((nI 4).toUInt32 &&& Int32.toUInt32 31)).toInt32)) &&& (nI 252645135)) + ((((((((nI x) - ((((nI x).toUInt32 >>> ((nI 1).toUInt32 &&& Int32.toUInt32 31)).toInt32) &&& (nI 1431655765))) &&& (nI 858993459)) + (((((nI x) - ((((nI x).toUInt32 >>> ((nI 1).toUInt32 &&& Int32.toUInt32 31)).toInt32) &&& (nI 1431655765))).toUInt32 >>> ((nI 2).toUInt32 &&& Int32.toUInt32 31)).toInt32) &&& (nI 858993459))) + ((((((nI x) - ((((nI x).toUInt32 >>> ((nI 1).toUInt32 &&& Int32.toUInt32 31)).toInt32) &&& (nI 1431655765))) &&& (nI 858993459)) + (((((nI x) - ((((nI x).toUInt32 >>> ((nI 1).toUInt32 &&& Int32.toUInt32 31)).toInt32) &&& (nI 1431655765))).toUInt32 >>> ((nI 2).toUInt32 &&& Int32.toUInt32 31)).toInt32) &&& (nI 858993459))).toUInt32 >>> ((nI 4).toUInt32 &&& Int32.toUInt32 31)).toInt32)) &&& (nI 252645135)).toUInt32 >>> ((nI 8).toUInt32 &&& Int32.toUInt32 31)).toInt32)).toUInt32 >>> ((nI 16).toUInt32 &&& Int32.toUInt32 31)).toInt32)))]) C dJ6_bitCount_0f7a4_47 rfl (by decide) rfl rfl ?_
  refine g_iload_n (pc' := 49) C 0 dJ6_bitCount_0f7a4_48 rfl rfl rfl ?_
  refine g_bipush (pc' := 51) (v := nI 63) C dJ6_bitCount_0f7a4_49 (by decide) rfl ?_
  refine g_iand (pc' := 52) (v := ((((((((nI x) - ((((nI x).toUInt32 >>> ((nI 1).toUInt32 &&& Int32.toUInt32 31)).toInt32) &&& (nI 1431655765))) &&& (nI 858993459)) + (((((nI x) - ((((nI x).toUInt32 >>> ((nI 1).toUInt32 &&& Int32.toUInt32 31)).toInt32) &&& (nI 1431655765))).toUInt32 >>> ((nI 2).toUInt32 &&& Int32.toUInt32 31)).toInt32) &&& (nI 858993459))) + ((((((nI x) - ((((nI x).toUInt32 >>> ((nI 1).toUInt32 &&& Int32.toUInt32 31)).toInt32) &&& (nI 1431655765))) &&& (nI 858993459)) + (((((nI x) - ((((nI x).toUInt32 >>> ((nI 1).toUInt32 &&& Int32.toUInt32 31)).toInt32) &&& (nI 1431655765))).toUInt32 >>> ((nI 2).toUInt32 &&& Int32.toUInt32 31)).toInt32) &&& (nI 858993459))).toUInt32 >>> ((nI 4).toUInt32 &&& Int32.toUInt32 31)).toInt32)) &&& (nI 252645135)) + ((((((((nI x) - ((((nI x).toUInt32 >>> ((nI 1).toUInt32 &&& Int32.toUInt32 31)).toInt32) &&& (nI 1431655765))) &&& (nI 858993459)) + (((((nI x) - ((((nI x).toUInt32 >>> ((nI 1).toUInt32 &&& Int32.toUInt32 31)).toInt32) &&& (nI 1431655765))).toUInt32 >>> ((nI 2).toUInt32 &&& Int32.toUInt32 31)).toInt32) &&& (nI 858993459))) + ((((((nI x) - ((((nI x).toUInt32 >>> ((nI 1).toUInt32 &&& Int32.toUInt32 31)).toInt32) &&& (nI 1431655765))) &&& (nI 858993459)) + (((((nI x) - ((((nI x).toUInt32 >>> ((nI 1).toUInt32 &&& Int32.toUInt32 31)).toInt32) &&& (nI 1431655765))).toUInt32 >>> ((nI 2).toUInt32 &&& Int32.toUInt32 31)).toInt32) &&& (nI 858993459))).toUInt32 >>> ((nI 4).toUInt32 &&& Int32.toUInt32 31)).toInt32)) &&& (nI 252645135)).toUInt32 >>> ((nI 8).toUInt32 &&& Int32.toUInt32 31)).toInt32)) + (((((((((nI x) - ((((nI x).toUInt32 >>> ((nI 1).toUInt32 &&& Int32.toUInt32 31)).toInt32) &&& (nI 1431655765))) &&& (nI 858993459)) + (((((nI x) - ((((nI x).toUInt32 >>> ((nI 1).toUInt32 &&& Int32.toUInt32 31)).toInt32) &&& (nI 1431655765))).toUInt32 >>> ((nI 2).toUInt32 &&& Int32.toUInt32 31)).toInt32) &&& (nI 858993459))) + ((((((nI x) - ((((nI x).toUInt32 >>> ((nI 1).toUInt32 &&& Int32.toUInt32 31)).toInt32) &&& (nI 1431655765))) &&& (nI 858993459)) + (((((nI x) - ((((nI x).toUInt32 >>> ((nI 1).toUInt32 &&& Int32.toUInt32 31)).toInt32) &&& (nI 1431655765))).toUInt32 >>> ((nI 2).toUInt32 &&& Int32.toUInt32 31)).toInt32) &&& (nI 858993459))).toUInt32 >>> ((nI 4).toUInt32 &&& Int32.toUInt32 31)).toInt32)) &&& (nI 252645135)) + ((((((((nI x) - ((((nI x).toUInt32 >>> ((nI 1).toUInt32 &&& Int32.toUInt32 31)).toInt32) &&& (nI 1431655765))) &&& (nI 858993459)) + (((((nI x) - ((((nI x).toUInt32 >>> ((nI 1).toUInt32 &&& Int32.toUInt32 31)).toInt32) &&& (nI 1431655765))).toUInt32 >>> ((nI 2).toUInt32 &&& Int32.toUInt32 31)).toInt32) &&& (nI 858993459))) + ((((((nI x) - ((((nI x).toUInt32 >>> ((nI 1).toUInt32 &&& Int32.toUInt32 31)).toInt32) &&& (nI 1431655765))) &&& (nI 858993459)) + (((((nI x) - ((((nI x).toUInt32 >>> ((nI 1).toUInt32 &&& Int32.toUInt32 31)).toInt32) &&& (nI 1431655765))).toUInt32 >>> ((nI 2).toUInt32 &&& Int32.toUInt32 31)).toInt32) &&& (nI 858993459))).toUInt32 >>> ((nI 4).toUInt32 &&& Int32.toUInt32 31)).toInt32)) &&& (nI 252645135)).toUInt32 >>> ((nI 8).toUInt32 &&& Int32.toUInt32 31)).toInt32)).toUInt32 >>> ((nI 16).toUInt32 &&& Int32.toUInt32 31)).toInt32)) &&& (nI 63)) C dJ6_bitCount_0f7a4_51 rfl rfl ?_
  exact g_retP C rfl rfl (show ((((((((nI x) - ((((nI x).toUInt32 >>> ((nI 1).toUInt32 &&& Int32.toUInt32 31)).toInt32) &&& (nI 1431655765))) &&& (nI 858993459)) + (((((nI x) - ((((nI x).toUInt32 >>> ((nI 1).toUInt32 &&& Int32.toUInt32 31)).toInt32) &&& (nI 1431655765))).toUInt32 >>> ((nI 2).toUInt32 &&& Int32.toUInt32 31)).toInt32) &&& (nI 858993459))) + ((((((nI x) - ((((nI x).toUInt32 >>> ((nI 1).toUInt32 &&& Int32.toUInt32 31)).toInt32) &&& (nI 1431655765))) &&& (nI 858993459)) + (((((nI x) - ((((nI x).toUInt32 >>> ((nI 1).toUInt32 &&& Int32.toUInt32 31)).toInt32) &&& (nI 1431655765))).toUInt32 >>> ((nI 2).toUInt32 &&& Int32.toUInt32 31)).toInt32) &&& (nI 858993459))).toUInt32 >>> ((nI 4).toUInt32 &&& Int32.toUInt32 31)).toInt32)) &&& (nI 252645135)) + ((((((((nI x) - ((((nI x).toUInt32 >>> ((nI 1).toUInt32 &&& Int32.toUInt32 31)).toInt32) &&& (nI 1431655765))) &&& (nI 858993459)) + (((((nI x) - ((((nI x).toUInt32 >>> ((nI 1).toUInt32 &&& Int32.toUInt32 31)).toInt32) &&& (nI 1431655765))).toUInt32 >>> ((nI 2).toUInt32 &&& Int32.toUInt32 31)).toInt32) &&& (nI 858993459))) + ((((((nI x) - ((((nI x).toUInt32 >>> ((nI 1).toUInt32 &&& Int32.toUInt32 31)).toInt32) &&& (nI 1431655765))) &&& (nI 858993459)) + (((((nI x) - ((((nI x).toUInt32 >>> ((nI 1).toUInt32 &&& Int32.toUInt32 31)).toInt32) &&& (nI 1431655765))).toUInt32 >>> ((nI 2).toUInt32 &&& Int32.toUInt32 31)).toInt32) &&& (nI 858993459))).toUInt32 >>> ((nI 4).toUInt32 &&& Int32.toUInt32 31)).toInt32)) &&& (nI 252645135)).toUInt32 >>> ((nI 8).toUInt32 &&& Int32.toUInt32 31)).toInt32)) + (((((((((nI x) - ((((nI x).toUInt32 >>> ((nI 1).toUInt32 &&& Int32.toUInt32 31)).toInt32) &&& (nI 1431655765))) &&& (nI 858993459)) + (((((nI x) - ((((nI x).toUInt32 >>> ((nI 1).toUInt32 &&& Int32.toUInt32 31)).toInt32) &&& (nI 1431655765))).toUInt32 >>> ((nI 2).toUInt32 &&& Int32.toUInt32 31)).toInt32) &&& (nI 858993459))) + ((((((nI x) - ((((nI x).toUInt32 >>> ((nI 1).toUInt32 &&& Int32.toUInt32 31)).toInt32) &&& (nI 1431655765))) &&& (nI 858993459)) + (((((nI x) - ((((nI x).toUInt32 >>> ((nI 1).toUInt32 &&& Int32.toUInt32 31)).toInt32) &&& (nI 1431655765))).toUInt32 >>> ((nI 2).toUInt32 &&& Int32.toUInt32 31)).toInt32) &&& (nI 858993459))).toUInt32 >>> ((nI 4).toUInt32 &&& Int32.toUInt32 31)).toInt32)) &&& (nI 252645135)) + ((((((((nI x) - ((((nI x).toUInt32 >>> ((nI 1).toUInt32 &&& Int32.toUInt32 31)).toInt32) &&& (nI 1431655765))) &&& (nI 858993459)) + (((((nI x) - ((((nI x).toUInt32 >>> ((nI 1).toUInt32 &&& Int32.toUInt32 31)).toInt32) &&& (nI 1431655765))).toUInt32 >>> ((nI 2).toUInt32 &&& Int32.toUInt32 31)).toInt32) &&& (nI 858993459))) + ((((((nI x) - ((((nI x).toUInt32 >>> ((nI 1).toUInt32 &&& Int32.toUInt32 31)).toInt32) &&& (nI 1431655765))) &&& (nI 858993459)) + (((((nI x) - ((((nI x).toUInt32 >>> ((nI 1).toUInt32 &&& Int32.toUInt32 31)).toInt32) &&& (nI 1431655765))).toUInt32 >>> ((nI 2).toUInt32 &&& Int32.toUInt32 31)).toInt32) &&& (nI 858993459))).toUInt32 >>> ((nI 4).toUInt32 &&& Int32.toUInt32 31)).toInt32)) &&& (nI 252645135)).toUInt32 >>> ((nI 8).toUInt32 &&& Int32.toUInt32 31)).toInt32)).toUInt32 >>> ((nI 16).toUInt32 &&& Int32.toUInt32 31)).toInt32)) &&& (nI 63) = nI (bc6 x) by exact bc6_all x h1) dJ6_bitCount_0f7a4_52

set_option maxHeartbeats 4000000 in
set_option maxRecDepth 100000 in
theorem kX7_empty (l : Launch) (κ : KK) (q0 : Nat) (q1 : Nat) (q2 : Nat) (q3 : Nat) (cnt : Nat) : CMv l yX7_empty cX7_empty 1 none 0 0 0 κ [.ref q0] [(q0, .inr (6, [.ref q1, .ref q2, .ref q3, .int (nI cnt)]))] (fun (vw_ : va_W) => vw_ = [(q0, .inr (6, [.ref q1, .ref q2, .ref q3, .int (nI 0)]))]) := by
  refine cmv_of RX7 rfl (by decide) (Nat.le_of_ble_eq_true rfl) ?_
  intro p e s m below meth c A C hAe hA hini
  refine g_lv (lv' := [(0, .ref q0)]) [0] rfl ?_
  refine g_aload_n (pc' := 1) C 0 dX7_empty_0 rfl rfl rfl ?_
  refine g_iconst (pc' := 2) (v := nI 0) C dX7_empty_1 (by decide) rfl ?_
  refine g_put (pc' := 5) (ws' := [(q0, .inr (6, [.ref q1, .ref q2, .ref q3, .int (nI 0)]))]) C fp_RX7_21_6 0 rfl rfl rfl (Nat.le_of_ble_eq_true rfl) rfl dX7_empty_2 rfl ?_
  exact g_retMv C hAe rfl (Nat.le_of_ble_eq_true rfl) (Nat.le_of_ble_eq_true rfl) (rfl) dX7_empty_5

set_option maxHeartbeats 4000000 in
set_option maxRecDepth 100000 in
theorem kX7_put (l : Launch) (κ : KK) (q0 : Nat) (q1 : Nat) (q2 : Nat) (q3 : Nat) (cnt : Nat) (fn : Nat → Nat) (fp : Nat → Nat) (fr : Nat → Nat) (en : Nat) (s9 : Nat) (v : Nat) (hc : cnt < 120) : CMv l yX7_put cX7_put 4 none 0 0 0 κ [.ref q0, .int (nI en), .int (nI s9), .int (nI v)] [(q0, .inr (6, [.ref q1, .ref q2, .ref q3, .int (nI cnt)])), (q1, .inl (κ.2 0, 120, .inl (nA fn))), (q2, .inl (κ.2 0, 120, .inl (nA fp))), (q3, .inl (κ.2 0, 120, .inl (nA fr)))] (fun (vw_ : va_W) => vw_ = [(q0, .inr (6, [.ref q1, .ref q2, .ref q3, .int (nI (cnt + 1))])), (q1, .inl (κ.2 0, 120, .inl (nA (va_up fn cnt en)))), (q2, .inl (κ.2 0, 120, .inl (nA (va_up fp cnt s9)))), (q3, .inl (κ.2 0, 120, .inl (nA (va_up fr cnt v))))]) := by
  refine cmv_of RX7 rfl (by decide) (Nat.le_of_ble_eq_true rfl) ?_
  intro p e s m below meth c A C hAe hA hini
  refine g_lv (lv' := [(0, .ref q0), (1, .int (nI en)), (2, .int (nI s9)), (3, .int (nI v))]) [0, 1, 2, 3] rfl ?_
  refine g_aload_n (pc' := 1) C 0 dX7_put_0 rfl rfl rfl ?_
  refine g_get (pc' := 4) C fl_RX7_21_6 0 rfl rfl dX7_put_1 rfl ?_
  refine g_bipush (pc' := 6) (v := nI 120) C dX7_put_4 (by decide) rfl ?_
  refine g_icmp_geN (pc' := 9) (tgt := 49) C (by first | assumption | omega) (by first | assumption | omega) dX7_put_6 (by decide) rfl (fun c_6_1 => absurd c_6_1 (by omega)) (fun c_6_1 => ?_)
  refine g_aload_n (pc' := 10) C 0 dX7_put_9 rfl rfl rfl ?_
  refine g_get (pc' := 13) C fl_RX7_9_6 0 rfl rfl dX7_put_10 rfl ?_
  refine g_aload_n (pc' := 14) C 0 dX7_put_13 rfl rfl rfl ?_
  refine g_get (pc' := 17) C fl_RX7_21_6 0 rfl rfl dX7_put_14 rfl ?_
  refine g_iload_n (pc' := 18) C 1 dX7_put_17 rfl rfl rfl ?_
  refine g_iastN (pc' := 19) (ws' := [(q0, .inr (6, [.ref q1, .ref q2, .ref q3, .int (nI cnt)])), (q1, .inl (κ.2 0, 120, .inl (nA (va_up fn cnt en)))), (q2, .inl (κ.2 0, 120, .inl (nA fp))), (q3, .inl (κ.2 0, 120, .inl (nA fr)))]) C 1 rfl cnt (by first | assumption | omega) (by decide) rfl dX7_put_18 rfl ?_
  refine g_aload_n (pc' := 20) C 0 dX7_put_19 rfl rfl rfl ?_
  refine g_get (pc' := 23) C fl_RX7_15_6 0 rfl rfl dX7_put_20 rfl ?_
  refine g_aload_n (pc' := 24) C 0 dX7_put_23 rfl rfl rfl ?_
  refine g_get (pc' := 27) C fl_RX7_21_6 0 rfl rfl dX7_put_24 rfl ?_
  refine g_iload_n (pc' := 28) C 2 dX7_put_27 rfl rfl rfl ?_
  refine g_iastN (pc' := 29) (ws' := [(q0, .inr (6, [.ref q1, .ref q2, .ref q3, .int (nI cnt)])), (q1, .inl (κ.2 0, 120, .inl (nA (va_up fn cnt en)))), (q2, .inl (κ.2 0, 120, .inl (nA (va_up fp cnt s9)))), (q3, .inl (κ.2 0, 120, .inl (nA fr)))]) C 2 rfl cnt (by first | assumption | omega) (by decide) rfl dX7_put_28 rfl ?_
  refine g_aload_n (pc' := 30) C 0 dX7_put_29 rfl rfl rfl ?_
  refine g_get (pc' := 33) C fl_RX7_18_6 0 rfl rfl dX7_put_30 rfl ?_
  refine g_aload_n (pc' := 34) C 0 dX7_put_33 rfl rfl rfl ?_
  refine g_get (pc' := 37) C fl_RX7_21_6 0 rfl rfl dX7_put_34 rfl ?_
  refine g_iload_n (pc' := 38) C 3 dX7_put_37 rfl rfl rfl ?_
  refine g_iastN (pc' := 39) (ws' := [(q0, .inr (6, [.ref q1, .ref q2, .ref q3, .int (nI cnt)])), (q1, .inl (κ.2 0, 120, .inl (nA (va_up fn cnt en)))), (q2, .inl (κ.2 0, 120, .inl (nA (va_up fp cnt s9)))), (q3, .inl (κ.2 0, 120, .inl (nA (va_up fr cnt v))))]) C 3 rfl cnt (by first | assumption | omega) (by decide) rfl dX7_put_38 rfl ?_
  refine g_aload_n (pc' := 40) C 0 dX7_put_39 rfl rfl rfl ?_
  refine g_dup (pc' := 41) C dX7_put_40 rfl rfl ?_
  refine g_get (pc' := 44) C fl_RX7_21_6 0 rfl rfl dX7_put_41 rfl ?_
  refine g_iconst (pc' := 45) (v := nI 1) C dX7_put_44 (by decide) rfl ?_
  refine g_iadd (pc' := 46) (v := nI (cnt + 1)) C dX7_put_45 (nI_add _ _) rfl ?_
  refine g_put (pc' := 49) (ws' := [(q0, .inr (6, [.ref q1, .ref q2, .ref q3, .int (nI (cnt + 1))])), (q1, .inl (κ.2 0, 120, .inl (nA (va_up fn cnt en)))), (q2, .inl (κ.2 0, 120, .inl (nA (va_up fp cnt s9)))), (q3, .inl (κ.2 0, 120, .inl (nA (va_up fr cnt v))))]) C fp_RX7_21_6 0 rfl rfl rfl (Nat.le_of_ble_eq_true rfl) rfl dX7_put_46 rfl ?_
  exact g_retMv C hAe rfl (Nat.le_of_ble_eq_true rfl) (Nat.le_of_ble_eq_true rfl) (rfl) dX7_put_49

set_option maxHeartbeats 4000000 in
set_option maxRecDepth 100000 in
theorem kX7_has (l : Launch) (κ : KK) (q0 : Nat) (q1 : Nat) (q2 : Nat) (q3 : Nat) (cnt : Nat) (i : Nat) (hc : cnt ≤ 120) (hi : i < 2 ^ 31) : CP l yX7_has cX7_has 2 (some .boolean) 0 κ [.ref q0, .int (nI i)] [(q0, .inr (6, [.ref q1, .ref q2, .ref q3, .int (nI cnt)]))] (fun vr_ => vr_ = b2i (decide (i < cnt))) := by
  refine cp_of RX7 rfl (by decide) (Nat.le_of_ble_eq_true rfl) ?_
  intro p e s m below meth c C
  refine g_lv (lv' := [(0, .ref q0), (1, .int (nI i))]) [0, 1] rfl ?_
  refine g_iload_n (pc' := 1) C 1 dX7_has_0 rfl rfl rfl ?_
  refine g_if_ltN (pc' := 4) (tgt := 22) C (by first | assumption | omega) dX7_has_1 (by decide) rfl ?_
  refine g_iload_n (pc' := 5) C 1 dX7_has_4 rfl rfl rfl ?_
  refine g_aload_n (pc' := 6) C 0 dX7_has_5 rfl rfl rfl ?_
  refine g_get (pc' := 9) C fl_RX7_21_6 0 rfl rfl dX7_has_6 rfl ?_
  refine g_icmp_geN (pc' := 12) (tgt := 22) C (by first | assumption | omega) (by first | assumption | omega) dX7_has_9 (by decide) rfl (fun c_9_2 => ?_) (fun c_9_2 => ?_)
  · refine g_iconst (pc' := 23) (v := nI 0) C dX7_has_22 (by decide) rfl ?_
    exact g_retP C rfl rfl (show nI 0 = b2i (decide (i < cnt)) by exact bF (by simp <;> omega)) dX7_has_23
  · refine g_iload_n (pc' := 13) C 1 dX7_has_12 rfl rfl rfl ?_
    refine g_bipush (pc' := 15) (v := nI 120) C dX7_has_13 (by decide) rfl ?_
    refine g_icmp_geN (pc' := 18) (tgt := 22) C (by first | assumption | omega) (by first | assumption | omega) dX7_has_15 (by decide) rfl (fun c_15_3 => ?_) (fun c_15_3 => ?_)
    · refine g_iconst (pc' := 23) (v := nI 0) C dX7_has_22 (by decide) rfl ?_
      exact g_retP C rfl rfl (show nI 0 = b2i (decide (i < cnt)) by exact bF (by simp <;> omega)) dX7_has_23
    · refine g_iconst (pc' := 19) (v := nI 1) C dX7_has_18 (by decide) rfl ?_
      refine g_goto (tgt := 23) C dX7_has_19 (by decide) ?_
      exact g_retP C rfl rfl (show nI 1 = b2i (decide (i < cnt)) by exact bT (by simp <;> omega)) dX7_has_23

set_option maxHeartbeats 4000000 in
set_option maxRecDepth 100000 in
theorem kX7_has_m (l : Launch) (κ : KK) (q0 : Nat) (q1 : Nat) (q2 : Nat) (q3 : Nat) (cnt : Nat) : CP l yX7_has cX7_has 2 (some .boolean) 0 κ [.ref q0, .int (-1)] [(q0, .inr (6, [.ref q1, .ref q2, .ref q3, .int (nI cnt)]))] (fun vr_ => vr_ = b2i false) := by
  refine cp_of RX7 rfl (by decide) (Nat.le_of_ble_eq_true rfl) ?_
  intro p e s m below meth c C
  refine g_lv (lv' := [(0, .ref q0), (1, .int (-1))]) [0, 1] rfl ?_
  refine g_iload_n (pc' := 1) C 1 dX7_has_0 rfl rfl rfl ?_
  refine g_if_lt (pc' := 4) (tgt := 22) C dX7_has_1 (by decide) rfl (fun c_1_1 => ?_) (fun c_1_1 => absurd c_1_1 (by decide))
  refine g_iconst (pc' := 23) (v := nI 0) C dX7_has_22 (by decide) rfl ?_
  exact g_retP C rfl rfl (show nI 0 = b2i false by exact bF (by simp <;> omega)) dX7_has_23

set_option maxHeartbeats 4000000 in
set_option maxRecDepth 100000 in
theorem kX7_entryOf (l : Launch) (κ : KK) (q0 : Nat) (q1 : Nat) (q2 : Nat) (q3 : Nat) (cnt : Nat) (fn : Nat → Nat) (i : Nat) (hc : cnt ≤ 120) (hi : i < cnt) : CP l yX7_entryOf cX7_entryOf 2 (some .int) 1 κ [.ref q0, .int (nI i)] [(q0, .inr (6, [.ref q1, .ref q2, .ref q3, .int (nI cnt)])), (q1, .inl (κ.2 0, 120, .inl (nA fn)))] (fun vr_ => vr_ = nI (fn i)) := by
  refine cp_of RX7 rfl (by decide) (Nat.le_of_ble_eq_true rfl) ?_
  intro p e s m below meth c C
  refine g_lv (lv' := [(0, .ref q0), (1, .int (nI i))]) [0, 1] rfl ?_
  refine g_aload_n (pc' := 1) C 0 dX7_entryOf_0 rfl rfl rfl ?_
  refine g_iload_n (pc' := 2) C 1 dX7_entryOf_1 rfl rfl rfl ?_
  refine g_callP (pc' := 5) C lk_RX7_25 (kX7_has l κ q0 q1 q2 q3 cnt i (by first | assumption | omega) (by first | assumption | omega)) 0 rfl rfl [0] rfl rfl (Nat.le_of_ble_eq_true rfl) ⟨Nat.le_of_ble_eq_true rfl, Nat.le_of_ble_eq_true rfl⟩ ⟨Nat.le_of_ble_eq_true rfl, Nat.le_of_ble_eq_true rfl⟩ rfl dX7_entryOf_2 rfl (fun r_2_1 h_2_1 => ?_)
  obtain rfl : r_2_1 = b2i (decide (i < cnt)) := h_2_1
  refine g_if_eqB (pc' := 8) (tgt := 17) C dX7_entryOf_5 (by decide) rfl (fun c_5_2 => absurd c_5_2 (by simp [hi])) (fun c_5_2 => ?_)
  refine g_aload_n (pc' := 9) C 0 dX7_entryOf_8 rfl rfl rfl ?_
  refine g_get (pc' := 12) C fl_RX7_9_6 0 rfl rfl dX7_entryOf_9 rfl ?_
  refine g_iload_n (pc' := 13) C 1 dX7_entryOf_12 rfl rfl rfl ?_
  refine g_ialdN (pc' := 14) C 1 (f := fn) rfl i (by first | assumption | omega) (by decide) dX7_entryOf_13 rfl ?_
  refine g_goto (tgt := 18) C dX7_entryOf_14 (by decide) ?_
  exact g_retP C rfl rfl (show nI (fn i) = nI (fn i) by rfl) dX7_entryOf_18

set_option maxHeartbeats 4000000 in
set_option maxRecDepth 100000 in
theorem kX7_entryOf_m (l : Launch) (κ : KK) (q0 : Nat) (q1 : Nat) (q2 : Nat) (q3 : Nat) (cnt : Nat) : CP l yX7_entryOf cX7_entryOf 2 (some .int) 1 κ [.ref q0, .int (-1)] [(q0, .inr (6, [.ref q1, .ref q2, .ref q3, .int (nI cnt)]))] (fun vr_ => vr_ = (-1)) := by
  refine cp_of RX7 rfl (by decide) (Nat.le_of_ble_eq_true rfl) ?_
  intro p e s m below meth c C
  refine g_lv (lv' := [(0, .ref q0), (1, .int (-1))]) [0, 1] rfl ?_
  refine g_aload_n (pc' := 1) C 0 dX7_entryOf_0 rfl rfl rfl ?_
  refine g_iload_n (pc' := 2) C 1 dX7_entryOf_1 rfl rfl rfl ?_
  refine g_callP (pc' := 5) C lk_RX7_25 (kX7_has_m l κ q0 q1 q2 q3 cnt) 0 rfl rfl [0] rfl rfl (Nat.le_of_ble_eq_true rfl) ⟨Nat.le_of_ble_eq_true rfl, Nat.le_of_ble_eq_true rfl⟩ ⟨Nat.le_of_ble_eq_true rfl, Nat.le_of_ble_eq_true rfl⟩ rfl dX7_entryOf_2 rfl (fun r_2_1 h_2_1 => ?_)
  obtain rfl : r_2_1 = b2i false := h_2_1
  refine g_if_eqB (pc' := 8) (tgt := 17) C dX7_entryOf_5 (by decide) rfl (fun _ => ?_) (fun z => absurd z (by decide))
  refine g_iconst (pc' := 18) (v := (-1)) C dX7_entryOf_17 (by decide) rfl ?_
  exact g_retP C rfl rfl (show (-1) = (-1) by rfl) dX7_entryOf_18

set_option maxHeartbeats 4000000 in
set_option maxRecDepth 100000 in
theorem kX7_placesOf (l : Launch) (κ : KK) (q0 : Nat) (q1 : Nat) (q2 : Nat) (q3 : Nat) (cnt : Nat) (fp : Nat → Nat) (i : Nat) (hc : cnt ≤ 120) (hi : i < cnt) : CP l yX7_placesOf cX7_placesOf 2 (some .int) 1 κ [.ref q0, .int (nI i)] [(q0, .inr (6, [.ref q1, .ref q2, .ref q3, .int (nI cnt)])), (q2, .inl (κ.2 0, 120, .inl (nA fp)))] (fun vr_ => vr_ = nI (fp i)) := by
  refine cp_of RX7 rfl (by decide) (Nat.le_of_ble_eq_true rfl) ?_
  intro p e s m below meth c C
  refine g_lv (lv' := [(0, .ref q0), (1, .int (nI i))]) [0, 1] rfl ?_
  refine g_aload_n (pc' := 1) C 0 dX7_placesOf_0 rfl rfl rfl ?_
  refine g_iload_n (pc' := 2) C 1 dX7_placesOf_1 rfl rfl rfl ?_
  refine g_callP (pc' := 5) C lk_RX7_25 (kX7_has l κ q0 q1 q2 q3 cnt i (by first | assumption | omega) (by first | assumption | omega)) 0 rfl rfl [0] rfl rfl (Nat.le_of_ble_eq_true rfl) ⟨Nat.le_of_ble_eq_true rfl, Nat.le_of_ble_eq_true rfl⟩ ⟨Nat.le_of_ble_eq_true rfl, Nat.le_of_ble_eq_true rfl⟩ rfl dX7_placesOf_2 rfl (fun r_2_1 h_2_1 => ?_)
  obtain rfl : r_2_1 = b2i (decide (i < cnt)) := h_2_1
  refine g_if_eqB (pc' := 8) (tgt := 17) C dX7_placesOf_5 (by decide) rfl (fun c_5_2 => absurd c_5_2 (by simp [hi])) (fun c_5_2 => ?_)
  refine g_aload_n (pc' := 9) C 0 dX7_placesOf_8 rfl rfl rfl ?_
  refine g_get (pc' := 12) C fl_RX7_15_6 0 rfl rfl dX7_placesOf_9 rfl ?_
  refine g_iload_n (pc' := 13) C 1 dX7_placesOf_12 rfl rfl rfl ?_
  refine g_ialdN (pc' := 14) C 1 (f := fp) rfl i (by first | assumption | omega) (by decide) dX7_placesOf_13 rfl ?_
  refine g_goto (tgt := 18) C dX7_placesOf_14 (by decide) ?_
  exact g_retP C rfl rfl (show nI (fp i) = nI (fp i) by rfl) dX7_placesOf_18

set_option maxHeartbeats 4000000 in
set_option maxRecDepth 100000 in
theorem kX7_placesOf_m (l : Launch) (κ : KK) (q0 : Nat) (q1 : Nat) (q2 : Nat) (q3 : Nat) (cnt : Nat) : CP l yX7_placesOf cX7_placesOf 2 (some .int) 1 κ [.ref q0, .int (-1)] [(q0, .inr (6, [.ref q1, .ref q2, .ref q3, .int (nI cnt)]))] (fun vr_ => vr_ = nI 0) := by
  refine cp_of RX7 rfl (by decide) (Nat.le_of_ble_eq_true rfl) ?_
  intro p e s m below meth c C
  refine g_lv (lv' := [(0, .ref q0), (1, .int (-1))]) [0, 1] rfl ?_
  refine g_aload_n (pc' := 1) C 0 dX7_placesOf_0 rfl rfl rfl ?_
  refine g_iload_n (pc' := 2) C 1 dX7_placesOf_1 rfl rfl rfl ?_
  refine g_callP (pc' := 5) C lk_RX7_25 (kX7_has_m l κ q0 q1 q2 q3 cnt) 0 rfl rfl [0] rfl rfl (Nat.le_of_ble_eq_true rfl) ⟨Nat.le_of_ble_eq_true rfl, Nat.le_of_ble_eq_true rfl⟩ ⟨Nat.le_of_ble_eq_true rfl, Nat.le_of_ble_eq_true rfl⟩ rfl dX7_placesOf_2 rfl (fun r_2_1 h_2_1 => ?_)
  obtain rfl : r_2_1 = b2i false := h_2_1
  refine g_if_eqB (pc' := 8) (tgt := 17) C dX7_placesOf_5 (by decide) rfl (fun _ => ?_) (fun z => absurd z (by decide))
  refine g_iconst (pc' := 18) (v := nI 0) C dX7_placesOf_17 (by decide) rfl ?_
  exact g_retP C rfl rfl (show nI 0 = nI 0 by rfl) dX7_placesOf_18

set_option maxHeartbeats 4000000 in
set_option maxRecDepth 100000 in
theorem kX7_priceOf (l : Launch) (κ : KK) (q0 : Nat) (q1 : Nat) (q2 : Nat) (q3 : Nat) (cnt : Nat) (fr : Nat → Nat) (i : Nat) (hc : cnt ≤ 120) (hi : i < cnt) : CP l yX7_priceOf cX7_priceOf 2 (some .int) 1 κ [.ref q0, .int (nI i)] [(q0, .inr (6, [.ref q1, .ref q2, .ref q3, .int (nI cnt)])), (q3, .inl (κ.2 0, 120, .inl (nA fr)))] (fun vr_ => vr_ = nI (fr i)) := by
  refine cp_of RX7 rfl (by decide) (Nat.le_of_ble_eq_true rfl) ?_
  intro p e s m below meth c C
  refine g_lv (lv' := [(0, .ref q0), (1, .int (nI i))]) [0, 1] rfl ?_
  refine g_aload_n (pc' := 1) C 0 dX7_priceOf_0 rfl rfl rfl ?_
  refine g_iload_n (pc' := 2) C 1 dX7_priceOf_1 rfl rfl rfl ?_
  refine g_callP (pc' := 5) C lk_RX7_25 (kX7_has l κ q0 q1 q2 q3 cnt i (by first | assumption | omega) (by first | assumption | omega)) 0 rfl rfl [0] rfl rfl (Nat.le_of_ble_eq_true rfl) ⟨Nat.le_of_ble_eq_true rfl, Nat.le_of_ble_eq_true rfl⟩ ⟨Nat.le_of_ble_eq_true rfl, Nat.le_of_ble_eq_true rfl⟩ rfl dX7_priceOf_2 rfl (fun r_2_1 h_2_1 => ?_)
  obtain rfl : r_2_1 = b2i (decide (i < cnt)) := h_2_1
  refine g_if_eqB (pc' := 8) (tgt := 17) C dX7_priceOf_5 (by decide) rfl (fun c_5_2 => absurd c_5_2 (by simp [hi])) (fun c_5_2 => ?_)
  refine g_aload_n (pc' := 9) C 0 dX7_priceOf_8 rfl rfl rfl ?_
  refine g_get (pc' := 12) C fl_RX7_18_6 0 rfl rfl dX7_priceOf_9 rfl ?_
  refine g_iload_n (pc' := 13) C 1 dX7_priceOf_12 rfl rfl rfl ?_
  refine g_ialdN (pc' := 14) C 1 (f := fr) rfl i (by first | assumption | omega) (by decide) dX7_priceOf_13 rfl ?_
  refine g_goto (tgt := 18) C dX7_priceOf_14 (by decide) ?_
  exact g_retP C rfl rfl (show nI (fr i) = nI (fr i) by rfl) dX7_priceOf_18

set_option maxHeartbeats 4000000 in
set_option maxRecDepth 100000 in
theorem kX7_priceOf_m (l : Launch) (κ : KK) (q0 : Nat) (q1 : Nat) (q2 : Nat) (q3 : Nat) (cnt : Nat) : CP l yX7_priceOf cX7_priceOf 2 (some .int) 1 κ [.ref q0, .int (-1)] [(q0, .inr (6, [.ref q1, .ref q2, .ref q3, .int (nI cnt)]))] (fun vr_ => vr_ = nI 0) := by
  refine cp_of RX7 rfl (by decide) (Nat.le_of_ble_eq_true rfl) ?_
  intro p e s m below meth c C
  refine g_lv (lv' := [(0, .ref q0), (1, .int (-1))]) [0, 1] rfl ?_
  refine g_aload_n (pc' := 1) C 0 dX7_priceOf_0 rfl rfl rfl ?_
  refine g_iload_n (pc' := 2) C 1 dX7_priceOf_1 rfl rfl rfl ?_
  refine g_callP (pc' := 5) C lk_RX7_25 (kX7_has_m l κ q0 q1 q2 q3 cnt) 0 rfl rfl [0] rfl rfl (Nat.le_of_ble_eq_true rfl) ⟨Nat.le_of_ble_eq_true rfl, Nat.le_of_ble_eq_true rfl⟩ ⟨Nat.le_of_ble_eq_true rfl, Nat.le_of_ble_eq_true rfl⟩ rfl dX7_priceOf_2 rfl (fun r_2_1 h_2_1 => ?_)
  obtain rfl : r_2_1 = b2i false := h_2_1
  refine g_if_eqB (pc' := 8) (tgt := 17) C dX7_priceOf_5 (by decide) rfl (fun _ => ?_) (fun z => absurd z (by decide))
  refine g_iconst (pc' := 18) (v := nI 0) C dX7_priceOf_17 (by decide) rfl ?_
  exact g_retP C rfl rfl (show nI 0 = nI 0 by rfl) dX7_priceOf_18

set_option maxHeartbeats 4000000 in
set_option maxRecDepth 100000 in
theorem kX7_fitsFrom (l : Launch) (κ : KK) (q0 : Nat) (q1 : Nat) (q2 : Nat) (q3 : Nat) (cnt : Nat) (fp : Nat → Nat) (i : Nat) (pl : Nat) (tk : Nat) (hc : cnt ≤ 120) (hi : i < cnt) (h0 : 0 < fp i) (h6 : fp i < 64) (hp : pl < 64) : CP l yX7_fitsFrom cX7_fitsFrom 5 (some .boolean) 2 κ [.ref q0, .int (nI i), .int (nI pl), .int (nI tk)] [(q0, .inr (6, [.ref q1, .ref q2, .ref q3, .int (nI cnt)])), (q2, .inl (κ.2 0, 120, .inl (nA fp)))] (fun vr_ => vr_ = b2i (fits (fp i) pl tk)) := by
  refine cp_of RX7 rfl (by decide) (Nat.le_of_ble_eq_true rfl) ?_
  intro p e s m below meth c C
  refine g_lv (lv' := [(0, .ref q0), (1, .int (nI i)), (2, .int (nI pl)), (3, .int (nI tk))]) [0, 1, 2, 3] rfl ?_
  have ht := tz6_lt (fp i) h6 h0
  have ha : fp i &&& tk ≤ fp i := Nat.and_le_left
  refine g_aload_n (pc' := 1) C 0 dX7_fitsFrom_0 rfl rfl rfl ?_
  refine g_iload_n (pc' := 2) C 1 dX7_fitsFrom_1 rfl rfl rfl ?_
  refine g_callP (pc' := 5) C lk_RX7_29 (kX7_placesOf l κ q0 q1 q2 q3 cnt fp i (by first | assumption | omega) (by first | assumption | omega)) 0 rfl rfl [0, 1] rfl rfl (Nat.le_of_ble_eq_true rfl) ⟨Nat.le_of_ble_eq_true rfl, Nat.le_of_ble_eq_true rfl⟩ ⟨Nat.le_of_ble_eq_true rfl, Nat.le_of_ble_eq_true rfl⟩ rfl dX7_fitsFrom_2 rfl (fun r_2_1 h_2_1 => ?_)
  obtain rfl : r_2_1 = nI (fp i) := h_2_1
  refine g_istore (pc' := 7) (lv' := [(4, .int (nI (fp i))), (0, .ref q0), (1, .int (nI i)), (2, .int (nI pl)), (3, .int (nI tk))]) C dX7_fitsFrom_5 (by decide) rfl rfl ?_
  refine g_iload (pc' := 9) C 0 dX7_fitsFrom_7 rfl rfl ?_
  refine g_callPS (pc' := 12) C lk_RX7_33 (kJ6_numberOfTrailingZeros_0f7a4 l κ (fp i) (by first | assumption | omega) (by first | assumption | omega)) [] rfl rfl (Nat.le_of_ble_eq_true rfl) ⟨Nat.le_of_ble_eq_true rfl, Nat.le_of_ble_eq_true rfl⟩ ⟨Nat.le_of_ble_eq_true rfl, Nat.le_of_ble_eq_true rfl⟩ rfl dX7_fitsFrom_9 rfl (fun r_9_2 h_9_2 => ?_)
  obtain rfl : r_9_2 = nI (tz6 (fp i)) := h_9_2
  refine g_iload_n (pc' := 13) C 3 dX7_fitsFrom_12 rfl rfl rfl ?_
  refine g_icmp_neN (pc' := 16) (tgt := 27) C (by first | assumption | omega) (by first | assumption | omega) dX7_fitsFrom_13 (by decide) rfl (fun c_13_3 => ?_) (fun c_13_3 => ?_)
  · refine g_iconst (pc' := 28) (v := nI 0) C dX7_fitsFrom_27 (by decide) rfl ?_
    exact g_retP C rfl rfl (show nI 0 = b2i (fits (fp i) pl tk) by exact bF (by simp [fits, *])) dX7_fitsFrom_28
  · refine g_iload (pc' := 18) C 0 dX7_fitsFrom_16 rfl rfl ?_
    refine g_iload_n (pc' := 19) C 4 dX7_fitsFrom_18 rfl rfl rfl ?_
    refine g_iand (pc' := 20) (v := nI ((fp i) &&& tk)) C dX7_fitsFrom_19 (nI_and _ _) rfl ?_
    refine g_if_neN (pc' := 23) (tgt := 27) C (by first | assumption | omega) dX7_fitsFrom_20 (by decide) rfl (fun c_20_4 => ?_) (fun c_20_4 => ?_)
    · refine g_iconst (pc' := 28) (v := nI 0) C dX7_fitsFrom_27 (by decide) rfl ?_
      exact g_retP C rfl rfl (show nI 0 = b2i (fits (fp i) pl tk) by exact bF (by simp [fits, *])) dX7_fitsFrom_28
    · refine g_iconst (pc' := 24) (v := nI 1) C dX7_fitsFrom_23 (by decide) rfl ?_
      refine g_goto (tgt := 28) C dX7_fitsFrom_24 (by decide) ?_
      exact g_retP C rfl rfl (show nI 1 = b2i (fits (fp i) pl tk) by exact bT (by simp [fits, *])) dX7_fitsFrom_28
end
section
set_option maxHeartbeats 4000000 in
set_option maxRecDepth 100000 in
theorem kX4_isFull (l : Launch) (κ : KK) (a0 : Nat) (a1 : Nat) (a2 : Nat) (n : Nat) (hn : n ≤ 6) : CP l yX4_isFull cX4_isFull 1 (some .boolean) 0 κ [.ref a0] [(a0, .inr (3, [.ref a1, .ref a2, .int (nI n)]))] (fun vr_ => vr_ = b2i (decide (6 ≤ n))) := by
  refine cp_of RX4 rfl (by decide) (Nat.le_of_ble_eq_true rfl) ?_
  intro p e s m below meth c C
  refine g_lv (lv' := [(0, .ref a0)]) [0] rfl ?_
  refine g_aload_n (pc' := 1) C 0 dX4_isFull_0 rfl rfl rfl ?_
  refine g_get (pc' := 4) C fl_RX4_18_3 0 rfl rfl dX4_isFull_1 rfl ?_
  refine g_bipush (pc' := 6) (v := nI 6) C dX4_isFull_4 (by decide) rfl ?_
  refine g_icmp_ltN (pc' := 9) (tgt := 13) C (by first | assumption | omega) (by first | assumption | omega) dX4_isFull_6 (by decide) rfl (fun c_6_1 => ?_) (fun c_6_1 => ?_)
  · refine g_iconst (pc' := 14) (v := nI 0) C dX4_isFull_13 (by decide) rfl ?_
    exact g_retP C rfl rfl (show nI 0 = b2i (decide (6 ≤ n)) by exact bF (by simp <;> omega)) dX4_isFull_14
  · refine g_iconst (pc' := 10) (v := nI 1) C dX4_isFull_9 (by decide) rfl ?_
    refine g_goto (tgt := 14) C dX4_isFull_10 (by decide) ?_
    exact g_retP C rfl rfl (show nI 1 = b2i (decide (6 ≤ n)) by exact bT (by simp <;> omega)) dX4_isFull_14

set_option maxHeartbeats 4000000 in
set_option maxRecDepth 100000 in
theorem kX4_put (l : Launch) (κ : KK) (a0 : Nat) (a1 : Nat) (a2 : Nat) (n : Nat) (fk : Nat → Nat) (fs : Nat → Nat) (kd : Nat) (sp : Nat) (hn : n < 6) : CMi l yX4_put cX4_put 4 (some .int) 0 0 0 κ [.ref a0, .int (nI kd), .int (nI sp)] [(a0, .inr (3, [.ref a1, .ref a2, .int (nI n)])), (a1, .inl (κ.2 0, 6, .inl (nA fk))), (a2, .inl (κ.2 0, 6, .inl (nA fs)))] (fun (vr_ : Int32) (vw_ : va_W) => vr_ = nI n ∧ vw_ = [(a0, .inr (3, [.ref a1, .ref a2, .int (nI (n + 1))])), (a1, .inl (κ.2 0, 6, .inl (nA (va_up fk n kd)))), (a2, .inl (κ.2 0, 6, .inl (nA (va_up fs n sp))))]) := by
  refine cmi_of RX4 rfl (by decide) (Nat.le_of_ble_eq_true rfl) ?_
  intro p e s m below meth c A C hAe hA hini
  refine g_lv (lv' := [(0, .ref a0), (1, .int (nI kd)), (2, .int (nI sp))]) [0, 1, 2] rfl ?_
  refine g_aload_n (pc' := 1) C 0 dX4_put_0 rfl rfl rfl ?_
  refine g_get (pc' := 4) C fl_RX4_18_3 0 rfl rfl dX4_put_1 rfl ?_
  refine g_istore_n (pc' := 5) (lv' := [(3, .int (nI n)), (0, .ref a0), (1, .int (nI kd)), (2, .int (nI sp))]) C dX4_put_4 rfl (by decide) rfl rfl ?_
  refine g_iload_n (pc' := 6) C 0 dX4_put_5 rfl rfl rfl ?_
  refine g_bipush (pc' := 8) (v := nI 6) C dX4_put_6 (by decide) rfl ?_
  refine g_icmp_geN (pc' := 11) (tgt := 35) C (by first | assumption | omega) (by first | assumption | omega) dX4_put_8 (by decide) rfl (fun c_8_1 => absurd c_8_1 (by omega)) (fun c_8_1 => ?_)
  refine g_aload_n (pc' := 12) C 1 dX4_put_11 rfl rfl rfl ?_
  refine g_get (pc' := 15) C fl_RX4_9_3 0 rfl rfl dX4_put_12 rfl ?_
  refine g_iload_n (pc' := 16) C 0 dX4_put_15 rfl rfl rfl ?_
  refine g_iload_n (pc' := 17) C 2 dX4_put_16 rfl rfl rfl ?_
  refine g_iastN (pc' := 18) (ws' := [(a0, .inr (3, [.ref a1, .ref a2, .int (nI n)])), (a1, .inl (κ.2 0, 6, .inl (nA (va_up fk n kd)))), (a2, .inl (κ.2 0, 6, .inl (nA fs)))]) C 1 rfl n (by first | assumption | omega) (by decide) rfl dX4_put_17 rfl ?_
  refine g_aload_n (pc' := 19) C 1 dX4_put_18 rfl rfl rfl ?_
  refine g_get (pc' := 22) C fl_RX4_15_3 0 rfl rfl dX4_put_19 rfl ?_
  refine g_iload_n (pc' := 23) C 0 dX4_put_22 rfl rfl rfl ?_
  refine g_iload_n (pc' := 24) C 3 dX4_put_23 rfl rfl rfl ?_
  refine g_iastN (pc' := 25) (ws' := [(a0, .inr (3, [.ref a1, .ref a2, .int (nI n)])), (a1, .inl (κ.2 0, 6, .inl (nA (va_up fk n kd)))), (a2, .inl (κ.2 0, 6, .inl (nA (va_up fs n sp))))]) C 2 rfl n (by first | assumption | omega) (by decide) rfl dX4_put_24 rfl ?_
  refine g_aload_n (pc' := 26) C 1 dX4_put_25 rfl rfl rfl ?_
  refine g_dup (pc' := 27) C dX4_put_26 rfl rfl ?_
  refine g_get (pc' := 30) C fl_RX4_18_3 0 rfl rfl dX4_put_27 rfl ?_
  refine g_iconst (pc' := 31) (v := nI 1) C dX4_put_30 (by decide) rfl ?_
  refine g_iadd (pc' := 32) (v := nI (n + 1)) C dX4_put_31 (nI_add _ _) rfl ?_
  refine g_put (pc' := 35) (ws' := [(a0, .inr (3, [.ref a1, .ref a2, .int (nI (n + 1))])), (a1, .inl (κ.2 0, 6, .inl (nA (va_up fk n kd)))), (a2, .inl (κ.2 0, 6, .inl (nA (va_up fs n sp))))]) C fp_RX4_18_3 0 rfl rfl rfl (Nat.le_of_ble_eq_true rfl) rfl dX4_put_32 rfl ?_
  refine g_iload_n (pc' := 36) C 0 dX4_put_35 rfl rfl rfl ?_
  exact g_retMi C hAe rfl rfl (Nat.le_of_ble_eq_true rfl) (Nat.le_of_ble_eq_true rfl) (⟨rfl, rfl⟩) dX4_put_36

set_option maxHeartbeats 4000000 in
set_option maxRecDepth 100000 in
theorem kX4_leadBack (l : Launch) (κ : KK) (a0 : Nat) (a1 : Nat) (a2 : Nat) (n : Nat) (fk : Nat → Nat) (fs : Nat → Nat) (w : Nat) (h : Nat) (hR : RW n fk fs) (hw : w < 100) (hh : h < 100) : CP l yX4_leadBack cX4_leadBack 4 (some .boolean) 0 κ [.ref a0, .int (nI w), .int (nI h)] [(a0, .inr (3, [.ref a1, .ref a2, .int (nI n)])), (a1, .inl (κ.2 0, 6, .inl (nA fk))), (a2, .inl (κ.2 0, 6, .inl (nA fs)))] (fun vr_ => vr_ = b2i (fm n fk fs w h)) := by
  refine cp_of RX4 rfl (by decide) (Nat.le_of_ble_eq_true rfl) ?_
  intro p e s m below meth c C
  refine g_lv (lv' := [(0, .ref a0), (1, .int (nI w)), (2, .int (nI h))]) [0, 1, 2] rfl ?_
  obtain ⟨hn, hk, hs⟩ := hR
  refine g_iload_n (pc' := 1) C 1 dX4_leadBack_0 rfl rfl rfl ?_
  refine g_iload_n (pc' := 2) C 2 dX4_leadBack_1 rfl rfl rfl ?_
  refine g_icmp_neN (pc' := 5) (tgt := 7) C (by first | assumption | omega) (by first | assumption | omega) dX4_leadBack_2 (by decide) rfl (fun c_2_1 => ?_) (fun c_2_1 => ?_)
  · refine g_iconst (pc' := 8) (v := nI 0) C dX4_leadBack_7 (by decide) rfl ?_
    refine g_istore_n (pc' := 9) (lv' := [(3, .int (nI 0)), (0, .ref a0), (1, .int (nI w)), (2, .int (nI h))]) C dX4_leadBack_8 rfl (by decide) rfl rfl ?_
    have lp_a : ∀ (fu_a : Nat) (i : Nat), (i ≤ n) → (fmL fk fs w h i = false) → (n - i) < fu_a → G p l e (rmv 0 0 0) s m ([.ref a0, .int (nI w), .int (nI h)] : List Value).toArray below meth c κ 4 (JP s) [(a0, .inr (3, [.ref a1, .ref a2, .int (nI n)])), (a1, .inl (κ.2 0, 6, .inl (nA fk))), (a2, .inl (κ.2 0, 6, .inl (nA fs)))] 0 0 (MQ below (vp_Si (fun vr_ => vr_ = b2i (fm n fk fs w h))) ([.ref a0, .int (nI w), .int (nI h)] : List Value).toArray s 0 0 (fun _ => False)) 9 [(3, .int (nI i)), (1, .int (nI w)), (2, .int (nI h)), (0, .ref a0)] [] := by
      intro fu_a
      induction fu_a with
      | zero => intro i hi hf hmu; exact absurd hmu (Nat.not_lt_zero _)
      | succ fu_a ih_a =>
        intro i hi hf hmu_a
        refine g_iload_n (pc' := 10) C 0 dX4_leadBack_9 rfl rfl rfl ?_
        refine g_aload_n (pc' := 11) C 3 dX4_leadBack_10 rfl rfl rfl ?_
        refine g_get (pc' := 14) C fl_RX4_18_3 0 rfl rfl dX4_leadBack_11 rfl ?_
        refine g_icmp_geN (pc' := 17) (tgt := 55) C (by first | assumption | omega) (by first | assumption | omega) dX4_leadBack_14 (by decide) rfl (fun c_14_2 => ?_) (fun c_14_2 => ?_)
        · refine g_iconst (pc' := 56) (v := nI 0) C dX4_leadBack_55 (by decide) rfl ?_
          exact g_retP C rfl rfl (show nI 0 = b2i (fm n fk fs w h) by exact bF (by have e : i = n := (by omega); subst e; simp [fm, hf]; assumption)) dX4_leadBack_56
        · refine g_iload_n (pc' := 18) C 0 dX4_leadBack_17 rfl rfl rfl ?_
          refine g_bipush (pc' := 20) (v := nI 6) C dX4_leadBack_18 (by decide) rfl ?_
          refine g_icmp_geN (pc' := 23) (tgt := 55) C (by first | assumption | omega) (by first | assumption | omega) dX4_leadBack_20 (by decide) rfl (fun c_20_3 => ?_) (fun c_20_3 => ?_)
          · refine g_iconst (pc' := 56) (v := nI 0) C dX4_leadBack_55 (by decide) rfl ?_
            exact g_retP C rfl rfl (show nI 0 = b2i (fm n fk fs w h) by exact bF (by have e : i = n := (by omega); subst e; simp [fm, hf]; assumption)) dX4_leadBack_56
          · refine g_aload_n (pc' := 24) C 3 dX4_leadBack_23 rfl rfl rfl ?_
            refine g_get (pc' := 27) C fl_RX4_9_3 0 rfl rfl dX4_leadBack_24 rfl ?_
            refine g_iload_n (pc' := 28) C 0 dX4_leadBack_27 rfl rfl rfl ?_
            refine g_ialdN (pc' := 29) C 1 (f := fk) rfl i (by first | assumption | omega) (by decide) dX4_leadBack_28 rfl ?_
            refine g_iload_n (pc' := 30) C 2 dX4_leadBack_29 rfl rfl rfl ?_
            refine g_iconst (pc' := 31) (v := nI 3) C dX4_leadBack_30 (by decide) rfl ?_
            refine g_irem (pc' := 32) (v := nI (h % 3)) C dX4_leadBack_31 (by decide) (pk_remN (by first | assumption | omega) (by decide) (by decide)) rfl ?_
            refine g_icmp_neN (pc' := 35) (tgt := 49) C (Nat.lt_trans (hk _) (by decide)) (by omega) dX4_leadBack_32 (by decide) rfl (fun c_32_4 => ?_) (fun c_32_4 => ?_)
            · refine g_iinc (pc' := 52) (v := nI (i + 1)) (lv' := [(3, .int (nI (i + 1))), (1, .int (nI w)), (2, .int (nI h)), (0, .ref a0)]) C 0 dX4_leadBack_49 rfl (iincN1 _) (by decide) rfl rfl ?_
              refine g_goto (tgt := 9) C dX4_leadBack_52 (by decide) ?_
              exact ih_a (i + 1) (by first | assumption | omega) (by simp [fmL, hf]; intro q; omega) (by omega)
            · refine g_iload_n (pc' := 36) C 1 dX4_leadBack_35 rfl rfl rfl ?_
              refine g_iload_n (pc' := 37) C 2 dX4_leadBack_36 rfl rfl rfl ?_
              refine g_aload_n (pc' := 38) C 3 dX4_leadBack_37 rfl rfl rfl ?_
              refine g_get (pc' := 41) C fl_RX4_15_3 0 rfl rfl dX4_leadBack_38 rfl ?_
              refine g_iload_n (pc' := 42) C 0 dX4_leadBack_41 rfl rfl rfl ?_
              refine g_ialdN (pc' := 43) C 2 (f := fs) rfl i (by first | assumption | omega) (by decide) dX4_leadBack_42 rfl ?_
              refine g_iadd (pc' := 44) (v := nI (h + (fs i))) C dX4_leadBack_43 (nI_add _ _) rfl ?_
              refine g_icmp_neN (pc' := 47) (tgt := 49) C (by first | assumption | omega) (by have := hs i; omega) dX4_leadBack_44 (by decide) rfl (fun c_44_5 => ?_) (fun c_44_5 => ?_)
              · refine g_iinc (pc' := 52) (v := nI (i + 1)) (lv' := [(3, .int (nI (i + 1))), (1, .int (nI w)), (2, .int (nI h)), (0, .ref a0)]) C 0 dX4_leadBack_49 rfl (iincN1 _) (by decide) rfl rfl ?_
                refine g_goto (tgt := 9) C dX4_leadBack_52 (by decide) ?_
                exact ih_a (i + 1) (by first | assumption | omega) (by simp [fmL, hf]; intro q; omega) (by omega)
              · refine g_iconst (pc' := 48) (v := nI 1) C dX4_leadBack_47 (by decide) rfl ?_
                exact g_retP C rfl rfl (show nI 1 = b2i (fm n fk fs w h) by exact bT (fm_t (by omega) c_32_4 c_44_5)) dX4_leadBack_48
    refine g_lv (lv' := [(3, .int (nI 0)), (1, .int (nI w)), (2, .int (nI h)), (0, .ref a0)]) [0, 2, 3, 1] rfl ?_
    exact lp_a (n + 1) 0 (Nat.zero_le _) rfl (by omega)
  · refine g_iconst (pc' := 6) (v := nI 1) C dX4_leadBack_5 (by decide) rfl ?_
    exact g_retP C rfl rfl (show nI 1 = b2i (fm n fk fs w h) by exact bT (by simp [fm, c_2_1])) dX4_leadBack_6

set_option maxHeartbeats 4000000 in
set_option maxRecDepth 100000 in
theorem kX5_isFull (l : Launch) (κ : KK) (b0 : Nat) (b1 : Nat) (len : Nat) (hl : len ≤ 6) : CP l yX5_isFull cX5_isFull 1 (some .boolean) 0 κ [.ref b0] [(b0, .inr (4, [.ref b1, .int (nI len)]))] (fun vr_ => vr_ = b2i (decide (6 ≤ len))) := by
  refine cp_of RX5 rfl (by decide) (Nat.le_of_ble_eq_true rfl) ?_
  intro p e s m below meth c C
  refine g_lv (lv' := [(0, .ref b0)]) [0] rfl ?_
  refine g_aload_n (pc' := 1) C 0 dX5_isFull_0 rfl rfl rfl ?_
  refine g_get (pc' := 4) C fl_RX5_15_4 0 rfl rfl dX5_isFull_1 rfl ?_
  refine g_bipush (pc' := 6) (v := nI 6) C dX5_isFull_4 (by decide) rfl ?_
  refine g_icmp_ltN (pc' := 9) (tgt := 13) C (by first | assumption | omega) (by first | assumption | omega) dX5_isFull_6 (by decide) rfl (fun c_6_1 => ?_) (fun c_6_1 => ?_)
  · refine g_iconst (pc' := 14) (v := nI 0) C dX5_isFull_13 (by decide) rfl ?_
    exact g_retP C rfl rfl (show nI 0 = b2i (decide (6 ≤ len)) by exact bF (by simp <;> omega)) dX5_isFull_14
  · refine g_iconst (pc' := 10) (v := nI 1) C dX5_isFull_9 (by decide) rfl ?_
    refine g_goto (tgt := 14) C dX5_isFull_10 (by decide) ?_
    exact g_retP C rfl rfl (show nI 1 = b2i (decide (6 ≤ len)) by exact bT (by simp <;> omega)) dX5_isFull_14

set_option maxHeartbeats 4000000 in
set_option maxRecDepth 100000 in
theorem kX5_hasPlace (l : Launch) (κ : KK) (b0 : Nat) (b1 : Nat) (len : Nat) (i : Nat) (hl : len ≤ 6) (hi : i < 2 ^ 31) : CP l yX5_hasPlace cX5_hasPlace 2 (some .boolean) 0 κ [.ref b0, .int (nI i)] [(b0, .inr (4, [.ref b1, .int (nI len)]))] (fun vr_ => vr_ = b2i (decide (i < len))) := by
  refine cp_of RX5 rfl (by decide) (Nat.le_of_ble_eq_true rfl) ?_
  intro p e s m below meth c C
  refine g_lv (lv' := [(0, .ref b0), (1, .int (nI i))]) [0, 1] rfl ?_
  refine g_iload_n (pc' := 1) C 1 dX5_hasPlace_0 rfl rfl rfl ?_
  refine g_if_ltN (pc' := 4) (tgt := 22) C (by first | assumption | omega) dX5_hasPlace_1 (by decide) rfl ?_
  refine g_iload_n (pc' := 5) C 1 dX5_hasPlace_4 rfl rfl rfl ?_
  refine g_aload_n (pc' := 6) C 0 dX5_hasPlace_5 rfl rfl rfl ?_
  refine g_get (pc' := 9) C fl_RX5_15_4 0 rfl rfl dX5_hasPlace_6 rfl ?_
  refine g_icmp_geN (pc' := 12) (tgt := 22) C (by first | assumption | omega) (by first | assumption | omega) dX5_hasPlace_9 (by decide) rfl (fun c_9_2 => ?_) (fun c_9_2 => ?_)
  · refine g_iconst (pc' := 23) (v := nI 0) C dX5_hasPlace_22 (by decide) rfl ?_
    exact g_retP C rfl rfl (show nI 0 = b2i (decide (i < len)) by exact bF (by simp <;> omega)) dX5_hasPlace_23
  · refine g_iload_n (pc' := 13) C 1 dX5_hasPlace_12 rfl rfl rfl ?_
    refine g_bipush (pc' := 15) (v := nI 6) C dX5_hasPlace_13 (by decide) rfl ?_
    refine g_icmp_geN (pc' := 18) (tgt := 22) C (by first | assumption | omega) (by first | assumption | omega) dX5_hasPlace_15 (by decide) rfl (fun c_15_3 => ?_) (fun c_15_3 => ?_)
    · refine g_iconst (pc' := 23) (v := nI 0) C dX5_hasPlace_22 (by decide) rfl ?_
      exact g_retP C rfl rfl (show nI 0 = b2i (decide (i < len)) by exact bF (by simp <;> omega)) dX5_hasPlace_23
    · refine g_iconst (pc' := 19) (v := nI 1) C dX5_hasPlace_18 (by decide) rfl ?_
      refine g_goto (tgt := 23) C dX5_hasPlace_19 (by decide) ?_
      exact g_retP C rfl rfl (show nI 1 = b2i (decide (i < len)) by exact bT (by simp <;> omega)) dX5_hasPlace_23

set_option maxHeartbeats 4000000 in
set_option maxRecDepth 100000 in
theorem kX5_put (l : Launch) (κ : KK) (b0 : Nat) (b1 : Nat) (len : Nat) (fw : Nat → Nat) (w : Nat) (hl : len < 6) : CMi l yX5_put cX5_put 2 (some .int) 0 0 0 κ [.ref b0, .int (nI w)] [(b0, .inr (4, [.ref b1, .int (nI len)])), (b1, .inl (κ.2 0, 6, .inl (nA fw)))] (fun (vr_ : Int32) (vw_ : va_W) => vr_ = nI (len + 1) ∧ vw_ = [(b0, .inr (4, [.ref b1, .int (nI (len + 1))])), (b1, .inl (κ.2 0, 6, .inl (nA (va_up fw len w))))]) := by
  refine cmi_of RX5 rfl (by decide) (Nat.le_of_ble_eq_true rfl) ?_
  intro p e s m below meth c A C hAe hA hini
  refine g_lv (lv' := [(0, .ref b0), (1, .int (nI w))]) [0, 1] rfl ?_
  refine g_aload_n (pc' := 1) C 0 dX5_put_0 rfl rfl rfl ?_
  refine g_get (pc' := 4) C fl_RX5_15_4 0 rfl rfl dX5_put_1 rfl ?_
  refine g_bipush (pc' := 6) (v := nI 6) C dX5_put_4 (by decide) rfl ?_
  refine g_icmp_geN (pc' := 9) (tgt := 29) C (by first | assumption | omega) (by first | assumption | omega) dX5_put_6 (by decide) rfl (fun c_6_1 => absurd c_6_1 (by omega)) (fun c_6_1 => ?_)
  refine g_aload_n (pc' := 10) C 0 dX5_put_9 rfl rfl rfl ?_
  refine g_get (pc' := 13) C fl_RX5_9_4 0 rfl rfl dX5_put_10 rfl ?_
  refine g_aload_n (pc' := 14) C 0 dX5_put_13 rfl rfl rfl ?_
  refine g_get (pc' := 17) C fl_RX5_15_4 0 rfl rfl dX5_put_14 rfl ?_
  refine g_iload_n (pc' := 18) C 1 dX5_put_17 rfl rfl rfl ?_
  refine g_iastN (pc' := 19) (ws' := [(b0, .inr (4, [.ref b1, .int (nI len)])), (b1, .inl (κ.2 0, 6, .inl (nA (va_up fw len w))))]) C 1 rfl len (by first | assumption | omega) (by decide) rfl dX5_put_18 rfl ?_
  refine g_aload_n (pc' := 20) C 0 dX5_put_19 rfl rfl rfl ?_
  refine g_dup (pc' := 21) C dX5_put_20 rfl rfl ?_
  refine g_get (pc' := 24) C fl_RX5_15_4 0 rfl rfl dX5_put_21 rfl ?_
  refine g_iconst (pc' := 25) (v := nI 1) C dX5_put_24 (by decide) rfl ?_
  refine g_iadd (pc' := 26) (v := nI (len + 1)) C dX5_put_25 (nI_add _ _) rfl ?_
  refine g_put (pc' := 29) (ws' := [(b0, .inr (4, [.ref b1, .int (nI (len + 1))])), (b1, .inl (κ.2 0, 6, .inl (nA (va_up fw len w))))]) C fp_RX5_15_4 0 rfl rfl rfl (Nat.le_of_ble_eq_true rfl) rfl dX5_put_26 rfl ?_
  refine g_aload_n (pc' := 30) C 0 dX5_put_29 rfl rfl rfl ?_
  refine g_get (pc' := 33) C fl_RX5_15_4 0 rfl rfl dX5_put_30 rfl ?_
  exact g_retMi C hAe rfl rfl (Nat.le_of_ble_eq_true rfl) (Nat.le_of_ble_eq_true rfl) (⟨rfl, rfl⟩) dX5_put_33

set_option maxHeartbeats 4000000 in
set_option maxRecDepth 100000 in
theorem kX5_empty (l : Launch) (κ : KK) (b0 : Nat) (b1 : Nat) (len : Nat) : CMi l yX5_empty cX5_empty 2 (some .int) 0 0 0 κ [.ref b0] [(b0, .inr (4, [.ref b1, .int (nI len)]))] (fun (vr_ : Int32) (vw_ : va_W) => vr_ = nI len ∧ vw_ = [(b0, .inr (4, [.ref b1, .int (nI 0)]))]) := by
  refine cmi_of RX5 rfl (by decide) (Nat.le_of_ble_eq_true rfl) ?_
  intro p e s m below meth c A C hAe hA hini
  refine g_lv (lv' := [(0, .ref b0)]) [0] rfl ?_
  refine g_aload_n (pc' := 1) C 0 dX5_empty_0 rfl rfl rfl ?_
  refine g_get (pc' := 4) C fl_RX5_15_4 0 rfl rfl dX5_empty_1 rfl ?_
  refine g_istore_n (pc' := 5) (lv' := [(1, .int (nI len)), (0, .ref b0)]) C dX5_empty_4 rfl (by decide) rfl rfl ?_
  refine g_aload_n (pc' := 6) C 1 dX5_empty_5 rfl rfl rfl ?_
  refine g_iconst (pc' := 7) (v := nI 0) C dX5_empty_6 (by decide) rfl ?_
  refine g_put (pc' := 10) (ws' := [(b0, .inr (4, [.ref b1, .int (nI 0)]))]) C fp_RX5_15_4 0 rfl rfl rfl (Nat.le_of_ble_eq_true rfl) rfl dX5_empty_7 rfl ?_
  refine g_iload_n (pc' := 11) C 0 dX5_empty_10 rfl rfl rfl ?_
  exact g_retMi C hAe rfl rfl (Nat.le_of_ble_eq_true rfl) (Nat.le_of_ble_eq_true rfl) (⟨rfl, rfl⟩) dX5_empty_11

set_option maxHeartbeats 4000000 in
set_option maxRecDepth 100000 in
theorem kX5_hasFormAt (l : Launch) (κ : KK) (b0 : Nat) (b1 : Nat) (len : Nat) (fw : Nat → Nat) (a0 : Nat) (a1 : Nat) (a2 : Nat) (n : Nat) (fk : Nat → Nat) (fs : Nat → Nat) (i : Nat) (h : Nat) (hS : SW len fw) (hR : RW n fk fs) (hi : i < 2 ^ 31) (hh : h < 100) : CP l yX5_hasFormAt cX5_hasFormAt 4 (some .boolean) 1 κ [.ref b0, .int (nI i), .int (nI h), .ref a0] [(b0, .inr (4, [.ref b1, .int (nI len)])), (b1, .inl (κ.2 0, 6, .inl (nA fw))), (a0, .inr (3, [.ref a1, .ref a2, .int (nI n)])), (a1, .inl (κ.2 0, 6, .inl (nA fk))), (a2, .inl (κ.2 0, 6, .inl (nA fs)))] (fun vr_ => vr_ = b2i (decide (i < len) && fm n fk fs (fw i) h)) := by
  refine cp_of RX5 rfl (by decide) (Nat.le_of_ble_eq_true rfl) ?_
  intro p e s m below meth c C
  refine g_lv (lv' := [(0, .ref b0), (1, .int (nI i)), (2, .int (nI h)), (3, .ref a0)]) [0, 1, 2, 3] rfl ?_
  have hl6 : len ≤ 6 := hS.1
  have hw := hS.2
  refine g_aload_n (pc' := 1) C 0 dX5_hasFormAt_0 rfl rfl rfl ?_
  refine g_iload_n (pc' := 2) C 1 dX5_hasFormAt_1 rfl rfl rfl ?_
  refine g_callP (pc' := 5) C lk_RX5_19 (kX5_hasPlace l κ b0 b1 len i (by first | assumption | omega) (by first | assumption | omega)) 0 rfl rfl [0] rfl rfl (Nat.le_of_ble_eq_true rfl) ⟨Nat.le_of_ble_eq_true rfl, Nat.le_of_ble_eq_true rfl⟩ ⟨Nat.le_of_ble_eq_true rfl, Nat.le_of_ble_eq_true rfl⟩ rfl dX5_hasFormAt_2 rfl (fun r_2_1 h_2_1 => ?_)
  obtain rfl : r_2_1 = b2i (decide (i < len)) := h_2_1
  refine g_if_eqB (pc' := 8) (tgt := 26) C dX5_hasFormAt_5 (by decide) rfl (fun c_5_2 => ?_) (fun c_5_2 => ?_)
  · refine g_iconst (pc' := 27) (v := nI 0) C dX5_hasFormAt_26 (by decide) rfl ?_
    exact g_retP C rfl rfl (show nI 0 = b2i (decide (i < len) && fm n fk fs (fw i) h) by exact bF (by simp [*])) dX5_hasFormAt_27
  · refine g_aload_n (pc' := 9) C 3 dX5_hasFormAt_8 rfl rfl rfl ?_
    refine g_aload_n (pc' := 10) C 0 dX5_hasFormAt_9 rfl rfl rfl ?_
    refine g_get (pc' := 13) C fl_RX5_9_4 0 rfl rfl dX5_hasFormAt_10 rfl ?_
    refine g_iload_n (pc' := 14) C 1 dX5_hasFormAt_13 rfl rfl rfl ?_
    refine g_ialdN (pc' := 15) C 1 (f := fw) rfl i (by have := of_decide_eq_true c_5_2; omega) (by decide) dX5_hasFormAt_14 rfl ?_
    refine g_iload_n (pc' := 16) C 2 dX5_hasFormAt_15 rfl rfl rfl ?_
    refine g_callP (pc' := 19) C lk_RX5_23 (kX4_leadBack l κ a0 a1 a2 n fk fs (fw i) h (by first | assumption | omega) (hw _) (by first | assumption | omega)) 2 rfl rfl [2, 3, 4] rfl rfl (Nat.le_of_ble_eq_true rfl) ⟨Nat.le_of_ble_eq_true rfl, Nat.le_of_ble_eq_true rfl⟩ ⟨Nat.le_of_ble_eq_true rfl, Nat.le_of_ble_eq_true rfl⟩ rfl dX5_hasFormAt_16 rfl (fun r_16_3 h_16_3 => ?_)
    obtain rfl : r_16_3 = b2i (fm n fk fs (fw i) h) := h_16_3
    refine g_if_eqB (pc' := 22) (tgt := 26) C dX5_hasFormAt_19 (by decide) rfl (fun c_19_4 => ?_) (fun c_19_4 => ?_)
    · refine g_iconst (pc' := 27) (v := nI 0) C dX5_hasFormAt_26 (by decide) rfl ?_
      exact g_retP C rfl rfl (show nI 0 = b2i (decide (i < len) && fm n fk fs (fw i) h) by exact bF (by simp [*])) dX5_hasFormAt_27
    · refine g_iconst (pc' := 23) (v := nI 1) C dX5_hasFormAt_22 (by decide) rfl ?_
      refine g_goto (tgt := 27) C dX5_hasFormAt_23 (by decide) ?_
      exact g_retP C rfl rfl (show nI 1 = b2i (decide (i < len) && fm n fk fs (fw i) h) by exact bT (by simp [*])) dX5_hasFormAt_27

set_option maxHeartbeats 4000000 in
set_option maxRecDepth 100000 in
theorem kX3_placesFrom (l : Launch) (κ : KK) (e0 : Nat) (e1 : Nat) (pr : Nat) (pn : Nat) (pa : Nat → Option Nat) (b0 : Nat) (b1 : Nat) (len : Nat) (fw : Nat → Nat) (a0 : Nat) (a1 : Nat) (a2 : Nat) (n : Nat) (fk : Nat → Nat) (fs : Nat → Nat) (f : Nat) (hP : PW pn pa) (hS : SW len fw) (hR : RW n fk fs) (hf : f < 6) : CP l yX3_placesFrom cX3_placesFrom 6 (some .int) 2 κ [.ref e0, .int (nI f), .ref a0, .ref b0] [(e0, .inr (2, [.int (nI pr), .ref e1])), (e1, .inl (κ.2 0, pn, .inl (oA pa))), (b0, .inr (4, [.ref b1, .int (nI len)])), (b1, .inl (κ.2 0, 6, .inl (nA fw))), (a0, .inr (3, [.ref a1, .ref a2, .int (nI n)])), (a1, .inl (κ.2 0, 6, .inl (nA fk))), (a2, .inl (κ.2 0, 6, .inl (nA fs)))] (fun vr_ => vr_ = nI (phAt n fk fs len fw pa pn f)) := by
  refine cp_of RX3 rfl (by decide) (Nat.le_of_ble_eq_true rfl) ?_
  intro p e s m below meth c C
  refine g_lv (lv' := [(0, .ref e0), (1, .int (nI f)), (2, .ref a0), (3, .ref b0)]) [0, 1, 2, 3] rfl ?_
  obtain ⟨hp1, hp4, hpa⟩ := hP
  refine g_iconst (pc' := 1) (v := nI 0) C dX3_placesFrom_0 (by decide) rfl ?_
  refine g_istore (pc' := 3) (lv' := [(4, .int (nI 0)), (0, .ref e0), (1, .int (nI f)), (2, .ref a0), (3, .ref b0)]) C dX3_placesFrom_1 (by decide) rfl rfl ?_
  refine g_iconst (pc' := 4) (v := nI 0) C dX3_placesFrom_3 (by decide) rfl ?_
  refine g_istore (pc' := 6) (lv' := [(5, .int (nI 0)), (4, .int (nI 0)), (0, .ref e0), (1, .int (nI f)), (2, .ref a0), (3, .ref b0)]) C dX3_placesFrom_4 (by decide) rfl rfl ?_
  have lp_a : ∀ (fu_a : Nat) (i : Nat) (pl : Nat), (i ≤ pn) → (pl = phSet pa f i) → (phOk n fk fs len fw pa f i = true) → (pn - i) < fu_a → G p l e (rmv 2 0 0) s m ([.ref e0, .int (nI f), .ref a0, .ref b0] : List Value).toArray below meth c κ 6 (JP s) [(e0, .inr (2, [.int (nI pr), .ref e1])), (e1, .inl (κ.2 0, pn, .inl (oA pa))), (b0, .inr (4, [.ref b1, .int (nI len)])), (b1, .inl (κ.2 0, 6, .inl (nA fw))), (a0, .inr (3, [.ref a1, .ref a2, .int (nI n)])), (a1, .inl (κ.2 0, 6, .inl (nA fk))), (a2, .inl (κ.2 0, 6, .inl (nA fs)))] 0 0 (MQ below (vp_Si (fun vr_ => vr_ = nI (phAt n fk fs len fw pa pn f))) ([.ref e0, .int (nI f), .ref a0, .ref b0] : List Value).toArray s 0 0 (fun _ => False)) 6 [(5, .int (nI i)), (4, .int (nI pl)), (0, .ref e0), (1, .int (nI f)), (2, .ref a0), (3, .ref b0)] [] := by
    intro fu_a
    induction fu_a with
    | zero => intro i pl hi hpl hok hmu; exact absurd hmu (Nat.not_lt_zero _)
    | succ fu_a ih_a =>
      intro i pl hi hpl hok hmu_a
      refine g_iload (pc' := 8) C 0 dX3_placesFrom_6 rfl rfl ?_
      refine g_aload_n (pc' := 9) C 2 dX3_placesFrom_8 rfl rfl rfl ?_
      refine g_get (pc' := 12) C fl_RX3_9_2 0 rfl rfl dX3_placesFrom_9 rfl ?_
      refine g_alen (pc' := 13) C 1 0 rfl rfl dX3_placesFrom_12 rfl ?_
      refine g_icmp_geN (pc' := 16) (tgt := 65) C (by first | assumption | omega) (by first | assumption | omega) dX3_placesFrom_13 (by decide) rfl (fun c_13_1 => ?_) (fun c_13_1 => ?_)
      · refine g_iload (pc' := 67) C 1 dX3_placesFrom_65 rfl rfl ?_
        exact g_retP C rfl rfl (show nI pl = nI (phAt n fk fs len fw pa pn f) by have e : i = pn := (by omega); subst e; rw [phAt, if_pos hok, hpl]) dX3_placesFrom_67
      · refine g_aload_n (pc' := 17) C 2 dX3_placesFrom_16 rfl rfl rfl ?_
        refine g_get (pc' := 20) C fl_RX3_9_2 0 rfl rfl dX3_placesFrom_17 rfl ?_
        refine g_iload (pc' := 22) C 0 dX3_placesFrom_20 rfl rfl ?_
        refine g_ialdO (pc' := 23) C 1 (f := pa) rfl i (by first | assumption | omega) (by omega) dX3_placesFrom_22 rfl ?_
        refine g_iconst (pc' := 24) (v := (-1)) C dX3_placesFrom_23 (by decide) rfl ?_
        refine g_icmp_eqO (pc' := 27) (tgt := 59) C (fun h q => Nat.lt_trans (hpa _ h q) (by decide)) dX3_placesFrom_24 (by decide) rfl (fun c_24_2 => ?_) (fun v_24_2 c_24_2 => ?_)
        · refine g_iinc (pc' := 62) (v := nI (i + 1)) (lv' := [(5, .int (nI (i + 1))), (4, .int (nI pl)), (0, .ref e0), (1, .int (nI f)), (2, .ref a0), (3, .ref b0)]) C 0 dX3_placesFrom_59 rfl (iincN1 _) (by decide) rfl rfl ?_
          refine g_goto (tgt := 6) C dX3_placesFrom_62 (by decide) ?_
          exact ih_a (i + 1) pl (by first | assumption | omega) (by simp [phSet, *]) (by simp [phOk, *] at *) (by omega)
        · refine g_aload_n (pc' := 28) C 5 dX3_placesFrom_27 rfl rfl rfl ?_
          refine g_iload_n (pc' := 29) C 3 dX3_placesFrom_28 rfl rfl rfl ?_
          refine g_iload (pc' := 31) C 0 dX3_placesFrom_29 rfl rfl ?_
          refine g_iadd (pc' := 32) (v := nI (f + i)) C dX3_placesFrom_31 (nI_add _ _) rfl ?_
          refine g_aload_n (pc' := 33) C 2 dX3_placesFrom_32 rfl rfl rfl ?_
          refine g_get (pc' := 36) C fl_RX3_9_2 0 rfl rfl dX3_placesFrom_33 rfl ?_
          refine g_iload (pc' := 38) C 0 dX3_placesFrom_36 rfl rfl ?_
          refine g_ialdOs (pc' := 39) C 1 (f := pa) rfl i c_24_2 (by first | assumption | omega) (by omega) dX3_placesFrom_38 rfl ?_
          refine g_aload_n (pc' := 40) C 4 dX3_placesFrom_39 rfl rfl rfl ?_
          refine g_callP (pc' := 43) C lk_RX3_29 (kX5_hasFormAt l κ b0 b1 len fw a0 a1 a2 n fk fs (f + i) v_24_2 (by first | assumption | omega) (by first | assumption | omega) (by first | assumption | omega) (hpa _ _ c_24_2)) 2 rfl rfl [2, 3, 4, 5, 6] rfl rfl (Nat.le_of_ble_eq_true rfl) ⟨Nat.le_of_ble_eq_true rfl, Nat.le_of_ble_eq_true rfl⟩ ⟨Nat.le_of_ble_eq_true rfl, Nat.le_of_ble_eq_true rfl⟩ rfl dX3_placesFrom_40 rfl (fun r_40_3 h_40_3 => ?_)
          obtain rfl : r_40_3 = b2i (decide ((f + i) < len) && fm n fk fs (fw (f + i)) v_24_2) := h_40_3
          refine g_if_neB (pc' := 46) (tgt := 48) C dX3_placesFrom_43 (by decide) rfl (fun c_43_4 => ?_) (fun c_43_4 => ?_)
          · refine g_iload (pc' := 50) C 1 dX3_placesFrom_48 rfl rfl ?_
            refine g_iconst (pc' := 51) (v := nI 1) C dX3_placesFrom_50 (by decide) rfl ?_
            refine g_iload_n (pc' := 52) C 3 dX3_placesFrom_51 rfl rfl rfl ?_
            refine g_iload (pc' := 54) C 0 dX3_placesFrom_52 rfl rfl ?_
            refine g_iadd (pc' := 55) (v := nI (f + i)) C dX3_placesFrom_54 (nI_add _ _) rfl ?_
            refine g_ishl (pc' := 56) (v := nI (2 ^ (f + i))) C dX3_placesFrom_55 (nI_shl1 _ (by first | assumption | omega)) rfl ?_
            refine g_ior (pc' := 57) (v := nI (pl ||| (2 ^ (f + i)))) C dX3_placesFrom_56 (nI_or _ _) rfl ?_
            refine g_istore (pc' := 59) (lv' := [(4, .int (nI (pl ||| (2 ^ (f + i))))), (5, .int (nI i)), (0, .ref e0), (1, .int (nI f)), (2, .ref a0), (3, .ref b0)]) C dX3_placesFrom_57 (by decide) rfl rfl ?_
            refine g_iinc (pc' := 62) (v := nI (i + 1)) (lv' := [(5, .int (nI (i + 1))), (4, .int (nI (pl ||| (2 ^ (f + i))))), (0, .ref e0), (1, .int (nI f)), (2, .ref a0), (3, .ref b0)]) C 1 dX3_placesFrom_59 rfl (iincN1 _) (by decide) rfl rfl ?_
            refine g_goto (tgt := 6) C dX3_placesFrom_62 (by decide) ?_
            exact ih_a (i + 1) (pl ||| (2 ^ (f + i))) (by first | assumption | omega) (by simp [phSet, *]) (by simp [phOk, *] at *) (by omega)
          · refine g_iconst (pc' := 47) (v := nI 0) C dX3_placesFrom_46 (by decide) rfl ?_
            exact g_retP C rfl rfl (show nI 0 = nI (phAt n fk fs len fw pa pn f) by rw [phAt, phOk_f (by omega) c_24_2 c_43_4]; rfl) dX3_placesFrom_47
  exact lp_a (pn + 1) 0 0 (Nat.zero_le _) rfl rfl (by omega)

set_option maxHeartbeats 4000000 in
set_option maxRecDepth 100000 in
theorem kX3_find (l : Launch) (κ : KK) (e0 : Nat) (e1 : Nat) (pr : Nat) (pn : Nat) (pa : Nat → Option Nat) (b0 : Nat) (b1 : Nat) (len : Nat) (fw : Nat → Nat) (a0 : Nat) (a1 : Nat) (a2 : Nat) (n : Nat) (fk : Nat → Nat) (fs : Nat → Nat) (q0 : Nat) (q1 : Nat) (q2 : Nat) (q3 : Nat) (cnt : Nat) (fn : Nat → Nat) (fp : Nat → Nat) (fr : Nat → Nat) (L : SL) (en : Nat) (hP : PW pn pa) (hS : SW len fw) (hR : RW n fk fs) (hL : stOK L cnt fn fp fr) (hc : cnt + 15 ≤ 120) : CMv l yX3_find cX3_find 7 none 3 0 0 κ [.ref e0, .int (nI en), .ref a0, .ref b0, .ref q0] [(e0, .inr (2, [.int (nI pr), .ref e1])), (e1, .inl (κ.2 0, pn, .inl (oA pa))), (b0, .inr (4, [.ref b1, .int (nI len)])), (b1, .inl (κ.2 0, 6, .inl (nA fw))), (a0, .inr (3, [.ref a1, .ref a2, .int (nI n)])), (a1, .inl (κ.2 0, 6, .inl (nA fk))), (a2, .inl (κ.2 0, 6, .inl (nA fs))), (q0, .inr (6, [.ref q1, .ref q2, .ref q3, .int (nI cnt)])), (q1, .inl (κ.2 0, 120, .inl (nA fn))), (q2, .inl (κ.2 0, 120, .inl (nA fp))), (q3, .inl (κ.2 0, 120, .inl (nA fr)))] (fun (vw_ : va_W) => ∃ (cnt9 : Nat), ∃ (fn9 : Nat → Nat), ∃ (fp9 : Nat → Nat), ∃ (fr9 : Nat → Nat), (stOK (L ++ phL n fk fs len fw pa pn en pr 6) cnt9 fn9 fp9 fr9) ∧ vw_ = [(e0, .inr (2, [.int (nI pr), .ref e1])), (e1, .inl (κ.2 0, pn, .inl (oA pa))), (b0, .inr (4, [.ref b1, .int (nI len)])), (b1, .inl (κ.2 0, 6, .inl (nA fw))), (a0, .inr (3, [.ref a1, .ref a2, .int (nI n)])), (a1, .inl (κ.2 0, 6, .inl (nA fk))), (a2, .inl (κ.2 0, 6, .inl (nA fs))), (q0, .inr (6, [.ref q1, .ref q2, .ref q3, .int (nI cnt9)])), (q1, .inl (κ.2 0, 120, .inl (nA fn9))), (q2, .inl (κ.2 0, 120, .inl (nA fp9))), (q3, .inl (κ.2 0, 120, .inl (nA fr9)))]) := by
  refine cmv_of RX3 rfl (by decide) (Nat.le_of_ble_eq_true rfl) ?_
  intro p e s m below meth c A C hAe hA hini
  refine g_lv (lv' := [(0, .ref e0), (1, .int (nI en)), (2, .ref a0), (3, .ref b0), (4, .ref q0)]) [0, 1, 2, 3, 4] rfl ?_
  refine g_iconst (pc' := 1) (v := nI 0) C dX3_find_0 (by decide) rfl ?_
  refine g_istore (pc' := 3) (lv' := [(5, .int (nI 0)), (0, .ref e0), (1, .int (nI en)), (2, .ref a0), (3, .ref b0), (4, .ref q0)]) C dX3_find_1 (by decide) rfl rfl ?_
  have lp_a : ∀ (fu_a : Nat) (f : Nat) (ct : Nat) (gn : Nat → Nat) (gp : Nat → Nat) (gr : Nat → Nat), (f ≤ 6) → (stOK (L ++ phL n fk fs len fw pa pn en pr f) ct gn gp gr) → (6 - f) < fu_a → G p l e (rmv 3 0 0) s m ([.ref e0, .int (nI en), .ref a0, .ref b0, .ref q0] : List Value).toArray below meth c κ 7 (JM A s) [(e0, .inr (2, [.int (nI pr), .ref e1])), (e1, .inl (κ.2 0, pn, .inl (oA pa))), (b0, .inr (4, [.ref b1, .int (nI len)])), (b1, .inl (κ.2 0, 6, .inl (nA fw))), (a0, .inr (3, [.ref a1, .ref a2, .int (nI n)])), (a1, .inl (κ.2 0, 6, .inl (nA fk))), (a2, .inl (κ.2 0, 6, .inl (nA fs))), (q0, .inr (6, [.ref q1, .ref q2, .ref q3, .int (nI ct)])), (q1, .inl (κ.2 0, 120, .inl (nA gn))), (q2, .inl (κ.2 0, 120, .inl (nA gp))), (q3, .inl (κ.2 0, 120, .inl (nA gr)))] 0 0 (MQ below (QMv κ [(e0, .inr (2, [.int (nI pr), .ref e1])), (e1, .inl (κ.2 0, pn, .inl (oA pa))), (b0, .inr (4, [.ref b1, .int (nI len)])), (b1, .inl (κ.2 0, 6, .inl (nA fw))), (a0, .inr (3, [.ref a1, .ref a2, .int (nI n)])), (a1, .inl (κ.2 0, 6, .inl (nA fk))), (a2, .inl (κ.2 0, 6, .inl (nA fs))), (q0, .inr (6, [.ref q1, .ref q2, .ref q3, .int (nI cnt)])), (q1, .inl (κ.2 0, 120, .inl (nA fn))), (q2, .inl (κ.2 0, 120, .inl (nA fp))), (q3, .inl (κ.2 0, 120, .inl (nA fr)))] s.heap.size (fun (vw_ : va_W) => ∃ (cnt9 : Nat), ∃ (fn9 : Nat → Nat), ∃ (fp9 : Nat → Nat), ∃ (fr9 : Nat → Nat), (stOK (L ++ phL n fk fs len fw pa pn en pr 6) cnt9 fn9 fp9 fr9) ∧ vw_ = [(e0, .inr (2, [.int (nI pr), .ref e1])), (e1, .inl (κ.2 0, pn, .inl (oA pa))), (b0, .inr (4, [.ref b1, .int (nI len)])), (b1, .inl (κ.2 0, 6, .inl (nA fw))), (a0, .inr (3, [.ref a1, .ref a2, .int (nI n)])), (a1, .inl (κ.2 0, 6, .inl (nA fk))), (a2, .inl (κ.2 0, 6, .inl (nA fs))), (q0, .inr (6, [.ref q1, .ref q2, .ref q3, .int (nI cnt9)])), (q1, .inl (κ.2 0, 120, .inl (nA fn9))), (q2, .inl (κ.2 0, 120, .inl (nA fp9))), (q3, .inl (κ.2 0, 120, .inl (nA fr9)))])) ([.ref e0, .int (nI en), .ref a0, .ref b0, .ref q0] : List Value).toArray s 0 0 A) 3 [(5, .int (nI f)), (0, .ref e0), (1, .int (nI en)), (2, .ref a0), (3, .ref b0), (4, .ref q0)] [] := by
    intro fu_a
    induction fu_a with
    | zero => intro f ct gn gp gr hf hst hmu; exact absurd hmu (Nat.not_lt_zero _)
    | succ fu_a ih_a =>
      intro f ct gn gp gr hf hst hmu_a
      refine g_iload (pc' := 5) C 0 dX3_find_3 rfl rfl ?_
      refine g_bipush (pc' := 7) (v := nI 6) C dX3_find_5 (by decide) rfl ?_
      refine g_icmp_geN (pc' := 10) (tgt := 43) C (by first | assumption | omega) (by first | assumption | omega) dX3_find_7 (by decide) rfl (fun c_7_1 => ?_) (fun c_7_1 => ?_)
      · exact g_retMv C hAe rfl (Nat.le_of_ble_eq_true rfl) (Nat.le_of_ble_eq_true rfl) (⟨ct, gn, gp, gr, by have e : f = 6 := (by omega); subst e; exact hst, rfl⟩) dX3_find_43
      · refine g_aload_n (pc' := 11) C 1 dX3_find_10 rfl rfl rfl ?_
        refine g_iload (pc' := 13) C 0 dX3_find_11 rfl rfl ?_
        refine g_aload_n (pc' := 14) C 3 dX3_find_13 rfl rfl rfl ?_
        refine g_aload_n (pc' := 15) C 4 dX3_find_14 rfl rfl rfl ?_
        refine g_callP (pc' := 18) C lk_RX3_15 (kX3_placesFrom l κ e0 e1 pr pn pa b0 b1 len fw a0 a1 a2 n fk fs f (by first | assumption | omega) (by first | assumption | omega) (by first | assumption | omega) (by first | assumption | omega)) 0 rfl rfl [0, 1, 2, 3, 4, 5, 6] rfl rfl (Nat.le_of_ble_eq_true rfl) ⟨Nat.le_of_ble_eq_true rfl, Nat.le_of_ble_eq_true rfl⟩ ⟨Nat.le_of_ble_eq_true rfl, Nat.le_of_ble_eq_true rfl⟩ rfl dX3_find_15 rfl (fun r_15_2 h_15_2 => ?_)
        obtain rfl : r_15_2 = nI (phAt n fk fs len fw pa pn f) := h_15_2
        refine g_istore (pc' := 20) (lv' := [(6, .int (nI (phAt n fk fs len fw pa pn f))), (5, .int (nI f)), (0, .ref e0), (1, .int (nI en)), (2, .ref a0), (3, .ref b0), (4, .ref q0)]) C dX3_find_18 (by decide) rfl rfl ?_
        refine g_iload (pc' := 22) C 0 dX3_find_20 rfl rfl ?_
        refine g_if_eqN (pc' := 25) (tgt := 37) C (Nat.lt_trans (phAt_lt hP hS hR (by omega)) (by decide)) dX3_find_22 (by decide) rfl (fun c_22_3 => ?_) (fun c_22_3 => ?_)
        · refine g_iinc (pc' := 40) (v := nI (f + 1)) (lv' := [(5, .int (nI (f + 1))), (6, .int (nI (phAt n fk fs len fw pa pn f))), (0, .ref e0), (1, .int (nI en)), (2, .ref a0), (3, .ref b0), (4, .ref q0)]) C 1 dX3_find_37 rfl (iincN1 _) (by decide) rfl rfl ?_
          refine g_goto (tgt := 3) C dX3_find_40 (by decide) ?_
          refine g_lv (lv' := [(5, .int (nI (f + 1))), (0, .ref e0), (1, .int (nI en)), (2, .ref a0), (3, .ref b0), (4, .ref q0)]) [0, 2, 3, 4, 5, 6] rfl ?_
          exact ih_a (f + 1) ct gn gp gr (by first | assumption | omega) (by rw [phL, if_pos c_22_3, List.append_nil]; exact hst) (by omega)
        · refine g_aload (pc' := 27) C 6 dX3_find_25 rfl rfl ?_
          refine g_iload_n (pc' := 28) C 3 dX3_find_27 rfl rfl rfl ?_
          refine g_iload (pc' := 30) C 0 dX3_find_28 rfl rfl ?_
          refine g_aload_n (pc' := 31) C 2 dX3_find_30 rfl rfl rfl ?_
          refine g_get (pc' := 34) C fl_RX3_19_2 0 rfl rfl dX3_find_31 rfl ?_
          refine g_callMv (pc' := 37) (wr := [(e0, .inr (2, [.int (nI pr), .ref e1])), (e1, .inl (κ.2 0, pn, .inl (oA pa))), (b0, .inr (4, [.ref b1, .int (nI len)])), (b1, .inl (κ.2 0, 6, .inl (nA fw))), (a0, .inr (3, [.ref a1, .ref a2, .int (nI n)])), (a1, .inl (κ.2 0, 6, .inl (nA fk))), (a2, .inl (κ.2 0, 6, .inl (nA fs)))]) C hA lk_RX3_23 (kX7_put l κ q0 q1 q2 q3 ct gn gp gr en (phAt n fk fs len fw pa pn f) pr (by have h1 := hst.1; have h2 := hL.1; have h3 := phL_len (n := n) (fk := fk) (fs := fs) (len := len) (fw := fw) (pa := pa) (pn := pn) (en := en) (pr := pr) f; simp only [List.length_append] at h1; omega)) 7 rfl rfl [7, 8, 9, 10] [0, 1, 2, 3, 4, 5, 6] rfl rfl ⟨rfl, rfl, by decide⟩ rfl (Nat.le_of_ble_eq_true rfl) ⟨Nat.le_of_ble_eq_true rfl, Nat.le_of_ble_eq_true rfl⟩ ⟨Nat.le_of_ble_eq_true rfl, Nat.le_of_ble_eq_true rfl⟩ rfl dX3_find_34 rfl (fun w_34_4 h_34_4 => ?_)
          obtain rfl : w_34_4 = [(q0, .inr (6, [.ref q1, .ref q2, .ref q3, .int (nI (ct + 1))])), (q1, .inl (κ.2 0, 120, .inl (nA (va_up gn ct en)))), (q2, .inl (κ.2 0, 120, .inl (nA (va_up gp ct (phAt n fk fs len fw pa pn f))))), (q3, .inl (κ.2 0, 120, .inl (nA (va_up gr ct pr))))] := h_34_4
          show G p l e (rmv 3 0 0) s m ([.ref e0, .int (nI en), .ref a0, .ref b0, .ref q0] : List Value).toArray below meth c κ 7 (JM A s) [(e0, .inr (2, [.int (nI pr), .ref e1])), (e1, .inl (κ.2 0, pn, .inl (oA pa))), (b0, .inr (4, [.ref b1, .int (nI len)])), (b1, .inl (κ.2 0, 6, .inl (nA fw))), (a0, .inr (3, [.ref a1, .ref a2, .int (nI n)])), (a1, .inl (κ.2 0, 6, .inl (nA fk))), (a2, .inl (κ.2 0, 6, .inl (nA fs))), (q0, .inr (6, [.ref q1, .ref q2, .ref q3, .int (nI (ct + 1))])), (q1, .inl (κ.2 0, 120, .inl (nA (va_up gn ct en)))), (q2, .inl (κ.2 0, 120, .inl (nA (va_up gp ct (phAt n fk fs len fw pa pn f))))), (q3, .inl (κ.2 0, 120, .inl (nA (va_up gr ct pr))))] 0 0 (MQ below (QMv κ [(e0, .inr (2, [.int (nI pr), .ref e1])), (e1, .inl (κ.2 0, pn, .inl (oA pa))), (b0, .inr (4, [.ref b1, .int (nI len)])), (b1, .inl (κ.2 0, 6, .inl (nA fw))), (a0, .inr (3, [.ref a1, .ref a2, .int (nI n)])), (a1, .inl (κ.2 0, 6, .inl (nA fk))), (a2, .inl (κ.2 0, 6, .inl (nA fs))), (q0, .inr (6, [.ref q1, .ref q2, .ref q3, .int (nI cnt)])), (q1, .inl (κ.2 0, 120, .inl (nA fn))), (q2, .inl (κ.2 0, 120, .inl (nA fp))), (q3, .inl (κ.2 0, 120, .inl (nA fr)))] s.heap.size (fun (vw_ : va_W) => ∃ (cnt9 : Nat), ∃ (fn9 : Nat → Nat), ∃ (fp9 : Nat → Nat), ∃ (fr9 : Nat → Nat), (stOK (L ++ phL n fk fs len fw pa pn en pr 6) cnt9 fn9 fp9 fr9) ∧ vw_ = [(e0, .inr (2, [.int (nI pr), .ref e1])), (e1, .inl (κ.2 0, pn, .inl (oA pa))), (b0, .inr (4, [.ref b1, .int (nI len)])), (b1, .inl (κ.2 0, 6, .inl (nA fw))), (a0, .inr (3, [.ref a1, .ref a2, .int (nI n)])), (a1, .inl (κ.2 0, 6, .inl (nA fk))), (a2, .inl (κ.2 0, 6, .inl (nA fs))), (q0, .inr (6, [.ref q1, .ref q2, .ref q3, .int (nI cnt9)])), (q1, .inl (κ.2 0, 120, .inl (nA fn9))), (q2, .inl (κ.2 0, 120, .inl (nA fp9))), (q3, .inl (κ.2 0, 120, .inl (nA fr9)))])) ([.ref e0, .int (nI en), .ref a0, .ref b0, .ref q0] : List Value).toArray s 0 0 A) 37 [(6, .int (nI (phAt n fk fs len fw pa pn f))), (5, .int (nI f)), (0, .ref e0), (1, .int (nI en)), (2, .ref a0), (3, .ref b0), (4, .ref q0)] []
          refine g_iinc (pc' := 40) (v := nI (f + 1)) (lv' := [(5, .int (nI (f + 1))), (6, .int (nI (phAt n fk fs len fw pa pn f))), (0, .ref e0), (1, .int (nI en)), (2, .ref a0), (3, .ref b0), (4, .ref q0)]) C 1 dX3_find_37 rfl (iincN1 _) (by decide) rfl rfl ?_
          refine g_goto (tgt := 3) C dX3_find_40 (by decide) ?_
          refine g_lv (lv' := [(5, .int (nI (f + 1))), (0, .ref e0), (1, .int (nI en)), (2, .ref a0), (3, .ref b0), (4, .ref q0)]) [0, 2, 3, 4, 5, 6] rfl ?_
          exact ih_a (f + 1) (ct + 1) (va_up gn ct en) (va_up gp ct (phAt n fk fs len fw pa pn f)) (va_up gr ct pr) (by first | assumption | omega) (by rw [phL, if_neg c_22_3, ← List.append_assoc]; exact stOK_put hst _ _ _) (by omega)
  exact lp_a 7 0 cnt fn fp fr (Nat.zero_le _) (by simpa [phL] using hL) (by omega)

set_option maxHeartbeats 4000000 in
set_option maxRecDepth 100000 in
theorem kX6_findFrom (l : Launch) (κ : KK) (e0 : Nat) (pr : Nat) (fst : Nat) (sec : Nat) (rch : Nat) (b0 : Nat) (b1 : Nat) (len : Nat) (fw : Nat → Nat) (a0 : Nat) (a1 : Nat) (a2 : Nat) (n : Nat) (fk : Nat → Nat) (fs : Nat → Nat) (q0 : Nat) (q1 : Nat) (q2 : Nat) (q3 : Nat) (cnt : Nat) (fn : Nat → Nat) (fp : Nat → Nat) (fr : Nat → Nat) (L : SL) (f : Nat) (en : Nat) (hQ : fst < 100 ∧ sec < 100 ∧ rch ≤ 4) (hS : SW len fw) (hR : RW n fk fs) (hL : stOK L cnt fn fp fr) (hf : f < 6) (hc : ∀ b, f + 1 + b < len → L.length + (spB n fk fs len fw en pr sec f b).length < 120) : CMv l yX6_findFrom cX6_findFrom 8 none 3 0 0 κ [.ref e0, .int (nI f), .int (nI en), .ref a0, .ref b0, .ref q0] [(e0, .inr (5, [.int (nI pr), .int (nI fst), .int (nI sec), .int (nI rch)])), (b0, .inr (4, [.ref b1, .int (nI len)])), (b1, .inl (κ.2 0, 6, .inl (nA fw))), (a0, .inr (3, [.ref a1, .ref a2, .int (nI n)])), (a1, .inl (κ.2 0, 6, .inl (nA fk))), (a2, .inl (κ.2 0, 6, .inl (nA fs))), (q0, .inr (6, [.ref q1, .ref q2, .ref q3, .int (nI cnt)])), (q1, .inl (κ.2 0, 120, .inl (nA fn))), (q2, .inl (κ.2 0, 120, .inl (nA fp))), (q3, .inl (κ.2 0, 120, .inl (nA fr)))] (fun (vw_ : va_W) => ∃ (cnt9 : Nat), ∃ (fn9 : Nat → Nat), ∃ (fp9 : Nat → Nat), ∃ (fr9 : Nat → Nat), (stOK (L ++ spB n fk fs len fw en pr sec f (rch + 1)) cnt9 fn9 fp9 fr9) ∧ vw_ = [(e0, .inr (5, [.int (nI pr), .int (nI fst), .int (nI sec), .int (nI rch)])), (b0, .inr (4, [.ref b1, .int (nI len)])), (b1, .inl (κ.2 0, 6, .inl (nA fw))), (a0, .inr (3, [.ref a1, .ref a2, .int (nI n)])), (a1, .inl (κ.2 0, 6, .inl (nA fk))), (a2, .inl (κ.2 0, 6, .inl (nA fs))), (q0, .inr (6, [.ref q1, .ref q2, .ref q3, .int (nI cnt9)])), (q1, .inl (κ.2 0, 120, .inl (nA fn9))), (q2, .inl (κ.2 0, 120, .inl (nA fp9))), (q3, .inl (κ.2 0, 120, .inl (nA fr9)))]) := by
  refine cmv_of RX6 rfl (by decide) (Nat.le_of_ble_eq_true rfl) ?_
  intro p e s m below meth c A C hAe hA hini
  refine g_lv (lv' := [(0, .ref e0), (1, .int (nI f)), (2, .int (nI en)), (3, .ref a0), (4, .ref b0), (5, .ref q0)]) [0, 1, 2, 3, 4, 5] rfl ?_
  obtain ⟨h1, h2, h3⟩ := hQ
  refine g_iconst (pc' := 1) (v := nI 0) C dX6_findFrom_0 (by decide) rfl ?_
  refine g_istore (pc' := 3) (lv' := [(6, .int (nI 0)), (0, .ref e0), (1, .int (nI f)), (2, .int (nI en)), (3, .ref a0), (4, .ref b0), (5, .ref q0)]) C dX6_findFrom_1 (by decide) rfl rfl ?_
  have lp_b : ∀ (fu_b : Nat) (b : Nat) (ct : Nat) (gn : Nat → Nat) (gp : Nat → Nat) (gr : Nat → Nat), (b ≤ rch + 1) → (stOK (L ++ spB n fk fs len fw en pr sec f b) ct gn gp gr) → (rch + 1 - b) < fu_b → G p l e (rmv 3 0 0) s m ([.ref e0, .int (nI f), .int (nI en), .ref a0, .ref b0, .ref q0] : List Value).toArray below meth c κ 8 (JM A s) [(e0, .inr (5, [.int (nI pr), .int (nI fst), .int (nI sec), .int (nI rch)])), (b0, .inr (4, [.ref b1, .int (nI len)])), (b1, .inl (κ.2 0, 6, .inl (nA fw))), (a0, .inr (3, [.ref a1, .ref a2, .int (nI n)])), (a1, .inl (κ.2 0, 6, .inl (nA fk))), (a2, .inl (κ.2 0, 6, .inl (nA fs))), (q0, .inr (6, [.ref q1, .ref q2, .ref q3, .int (nI ct)])), (q1, .inl (κ.2 0, 120, .inl (nA gn))), (q2, .inl (κ.2 0, 120, .inl (nA gp))), (q3, .inl (κ.2 0, 120, .inl (nA gr)))] 0 0 (MQ below (QMv κ [(e0, .inr (5, [.int (nI pr), .int (nI fst), .int (nI sec), .int (nI rch)])), (b0, .inr (4, [.ref b1, .int (nI len)])), (b1, .inl (κ.2 0, 6, .inl (nA fw))), (a0, .inr (3, [.ref a1, .ref a2, .int (nI n)])), (a1, .inl (κ.2 0, 6, .inl (nA fk))), (a2, .inl (κ.2 0, 6, .inl (nA fs))), (q0, .inr (6, [.ref q1, .ref q2, .ref q3, .int (nI cnt)])), (q1, .inl (κ.2 0, 120, .inl (nA fn))), (q2, .inl (κ.2 0, 120, .inl (nA fp))), (q3, .inl (κ.2 0, 120, .inl (nA fr)))] s.heap.size (fun (vw_ : va_W) => ∃ (cnt9 : Nat), ∃ (fn9 : Nat → Nat), ∃ (fp9 : Nat → Nat), ∃ (fr9 : Nat → Nat), (stOK (L ++ spB n fk fs len fw en pr sec f (rch + 1)) cnt9 fn9 fp9 fr9) ∧ vw_ = [(e0, .inr (5, [.int (nI pr), .int (nI fst), .int (nI sec), .int (nI rch)])), (b0, .inr (4, [.ref b1, .int (nI len)])), (b1, .inl (κ.2 0, 6, .inl (nA fw))), (a0, .inr (3, [.ref a1, .ref a2, .int (nI n)])), (a1, .inl (κ.2 0, 6, .inl (nA fk))), (a2, .inl (κ.2 0, 6, .inl (nA fs))), (q0, .inr (6, [.ref q1, .ref q2, .ref q3, .int (nI cnt9)])), (q1, .inl (κ.2 0, 120, .inl (nA fn9))), (q2, .inl (κ.2 0, 120, .inl (nA fp9))), (q3, .inl (κ.2 0, 120, .inl (nA fr9)))])) ([.ref e0, .int (nI f), .int (nI en), .ref a0, .ref b0, .ref q0] : List Value).toArray s 0 0 A) 3 [(6, .int (nI b)), (0, .ref e0), (1, .int (nI f)), (2, .int (nI en)), (3, .ref a0), (4, .ref b0), (5, .ref q0)] [] := by
    intro fu_b
    induction fu_b with
    | zero => intro b ct gn gp gr hb hst hmu; exact absurd hmu (Nat.not_lt_zero _)
    | succ fu_b ih_b =>
      intro b ct gn gp gr hb hst hmu_b
      refine g_iload (pc' := 5) C 0 dX6_findFrom_3 rfl rfl ?_
      refine g_aload_n (pc' := 6) C 1 dX6_findFrom_5 rfl rfl rfl ?_
      refine g_get (pc' := 9) C fl_RX6_18_5 0 rfl rfl dX6_findFrom_6 rfl ?_
      refine g_icmp_gtN (pc' := 12) (tgt := 59) C (by first | assumption | omega) (by first | assumption | omega) dX6_findFrom_9 (by decide) rfl (fun c_9_1 => ?_) (fun c_9_1 => ?_)
      · exact g_retMv C hAe rfl (Nat.le_of_ble_eq_true rfl) (Nat.le_of_ble_eq_true rfl) (⟨ct, gn, gp, gr, by have e : b = rch + 1 := (by omega); subst e; exact hst, rfl⟩) dX6_findFrom_59
      · refine g_iload_n (pc' := 13) C 2 dX6_findFrom_12 rfl rfl rfl ?_
        refine g_iconst (pc' := 14) (v := nI 1) C dX6_findFrom_13 (by decide) rfl ?_
        refine g_iadd (pc' := 15) (v := nI (f + 1)) C dX6_findFrom_14 (nI_add _ _) rfl ?_
        refine g_iload (pc' := 17) C 0 dX6_findFrom_15 rfl rfl ?_
        refine g_iadd (pc' := 18) (v := nI ((f + 1) + b)) C dX6_findFrom_17 (nI_add _ _) rfl ?_
        refine g_istore (pc' := 20) (lv' := [(7, .int (nI ((f + 1) + b))), (6, .int (nI b)), (0, .ref e0), (1, .int (nI f)), (2, .int (nI en)), (3, .ref a0), (4, .ref b0), (5, .ref q0)]) C dX6_findFrom_18 (by decide) rfl rfl ?_
        refine g_aload (pc' := 22) C 6 dX6_findFrom_20 rfl rfl ?_
        refine g_iload (pc' := 24) C 0 dX6_findFrom_22 rfl rfl ?_
        refine g_aload_n (pc' := 25) C 2 dX6_findFrom_24 rfl rfl rfl ?_
        refine g_get (pc' := 28) C fl_RX6_15_5 0 rfl rfl dX6_findFrom_25 rfl ?_
        refine g_aload_n (pc' := 29) C 5 dX6_findFrom_28 rfl rfl rfl ?_
        refine g_callP (pc' := 32) C lk_RX6_21 (kX5_hasFormAt l κ b0 b1 len fw a0 a1 a2 n fk fs ((f + 1) + b) sec (by first | assumption | omega) (by first | assumption | omega) (by first | assumption | omega) (by first | assumption | omega)) 1 rfl rfl [1, 2, 3, 4, 5] rfl rfl (Nat.le_of_ble_eq_true rfl) ⟨Nat.le_of_ble_eq_true rfl, Nat.le_of_ble_eq_true rfl⟩ ⟨Nat.le_of_ble_eq_true rfl, Nat.le_of_ble_eq_true rfl⟩ rfl dX6_findFrom_29 rfl (fun r_29_2 h_29_2 => ?_)
        obtain rfl : r_29_2 = b2i (decide (((f + 1) + b) < len) && fm n fk fs (fw ((f + 1) + b)) sec) := h_29_2
        refine g_if_eqB (pc' := 35) (tgt := 53) C dX6_findFrom_32 (by decide) rfl (fun c_32_3 => ?_) (fun c_32_3 => ?_)
        · refine g_iinc (pc' := 56) (v := nI (b + 1)) (lv' := [(6, .int (nI (b + 1))), (7, .int (nI ((f + 1) + b))), (0, .ref e0), (1, .int (nI f)), (2, .int (nI en)), (3, .ref a0), (4, .ref b0), (5, .ref q0)]) C 1 dX6_findFrom_53 rfl (iincN1 _) (by decide) rfl rfl ?_
          refine g_goto (tgt := 3) C dX6_findFrom_56 (by decide) ?_
          refine g_lv (lv' := [(6, .int (nI (b + 1))), (0, .ref e0), (1, .int (nI f)), (2, .int (nI en)), (3, .ref a0), (4, .ref b0), (5, .ref q0)]) [0, 2, 3, 4, 5, 6, 7] rfl ?_
          exact ih_b (b + 1) ct gn gp gr (by first | assumption | omega) (by rw [spB, if_neg (by rw [c_32_3]; decide), List.append_nil]; exact hst) (by omega)
        · refine g_aload (pc' := 37) C 7 dX6_findFrom_35 rfl rfl ?_
          refine g_iload_n (pc' := 38) C 4 dX6_findFrom_37 rfl rfl rfl ?_
          refine g_iconst (pc' := 39) (v := nI 1) C dX6_findFrom_38 (by decide) rfl ?_
          refine g_iload_n (pc' := 40) C 3 dX6_findFrom_39 rfl rfl rfl ?_
          refine g_ishl (pc' := 41) (v := nI (2 ^ f)) C dX6_findFrom_40 (nI_shl1 _ (by first | assumption | omega)) rfl ?_
          refine g_iconst (pc' := 42) (v := nI 1) C dX6_findFrom_41 (by decide) rfl ?_
          refine g_iload (pc' := 44) C 0 dX6_findFrom_42 rfl rfl ?_
          refine g_ishl (pc' := 45) (v := nI (2 ^ ((f + 1) + b))) C dX6_findFrom_44 (nI_shl1 _ (by first | assumption | omega)) rfl ?_
          refine g_ior (pc' := 46) (v := nI ((2 ^ f) ||| (2 ^ ((f + 1) + b)))) C dX6_findFrom_45 (nI_or _ _) rfl ?_
          refine g_aload_n (pc' := 47) C 2 dX6_findFrom_46 rfl rfl rfl ?_
          refine g_get (pc' := 50) C fl_RX6_31_5 0 rfl rfl dX6_findFrom_47 rfl ?_
          refine g_callMv (pc' := 53) (wr := [(e0, .inr (5, [.int (nI pr), .int (nI fst), .int (nI sec), .int (nI rch)])), (b0, .inr (4, [.ref b1, .int (nI len)])), (b1, .inl (κ.2 0, 6, .inl (nA fw))), (a0, .inr (3, [.ref a1, .ref a2, .int (nI n)])), (a1, .inl (κ.2 0, 6, .inl (nA fk))), (a2, .inl (κ.2 0, 6, .inl (nA fs)))]) C hA lk_RX6_34 (kX7_put l κ q0 q1 q2 q3 ct gn gp gr en ((2 ^ f) ||| (2 ^ ((f + 1) + b))) pr (by have h1 := hst.1; simp only [List.length_append] at h1; have h9 := hc b (by have h8 := (Bool.and_eq_true _ _).mp c_32_3; have h7 := of_decide_eq_true h8.1; omega); omega)) 6 rfl rfl [6, 7, 8, 9] [0, 1, 2, 3, 4, 5] rfl rfl ⟨rfl, rfl, by decide⟩ rfl (Nat.le_of_ble_eq_true rfl) ⟨Nat.le_of_ble_eq_true rfl, Nat.le_of_ble_eq_true rfl⟩ ⟨Nat.le_of_ble_eq_true rfl, Nat.le_of_ble_eq_true rfl⟩ rfl dX6_findFrom_50 rfl (fun w_50_4 h_50_4 => ?_)
          obtain rfl : w_50_4 = [(q0, .inr (6, [.ref q1, .ref q2, .ref q3, .int (nI (ct + 1))])), (q1, .inl (κ.2 0, 120, .inl (nA (va_up gn ct en)))), (q2, .inl (κ.2 0, 120, .inl (nA (va_up gp ct ((2 ^ f) ||| (2 ^ ((f + 1) + b))))))), (q3, .inl (κ.2 0, 120, .inl (nA (va_up gr ct pr))))] := h_50_4
          show G p l e (rmv 3 0 0) s m ([.ref e0, .int (nI f), .int (nI en), .ref a0, .ref b0, .ref q0] : List Value).toArray below meth c κ 8 (JM A s) [(e0, .inr (5, [.int (nI pr), .int (nI fst), .int (nI sec), .int (nI rch)])), (b0, .inr (4, [.ref b1, .int (nI len)])), (b1, .inl (κ.2 0, 6, .inl (nA fw))), (a0, .inr (3, [.ref a1, .ref a2, .int (nI n)])), (a1, .inl (κ.2 0, 6, .inl (nA fk))), (a2, .inl (κ.2 0, 6, .inl (nA fs))), (q0, .inr (6, [.ref q1, .ref q2, .ref q3, .int (nI (ct + 1))])), (q1, .inl (κ.2 0, 120, .inl (nA (va_up gn ct en)))), (q2, .inl (κ.2 0, 120, .inl (nA (va_up gp ct ((2 ^ f) ||| (2 ^ ((f + 1) + b))))))), (q3, .inl (κ.2 0, 120, .inl (nA (va_up gr ct pr))))] 0 0 (MQ below (QMv κ [(e0, .inr (5, [.int (nI pr), .int (nI fst), .int (nI sec), .int (nI rch)])), (b0, .inr (4, [.ref b1, .int (nI len)])), (b1, .inl (κ.2 0, 6, .inl (nA fw))), (a0, .inr (3, [.ref a1, .ref a2, .int (nI n)])), (a1, .inl (κ.2 0, 6, .inl (nA fk))), (a2, .inl (κ.2 0, 6, .inl (nA fs))), (q0, .inr (6, [.ref q1, .ref q2, .ref q3, .int (nI cnt)])), (q1, .inl (κ.2 0, 120, .inl (nA fn))), (q2, .inl (κ.2 0, 120, .inl (nA fp))), (q3, .inl (κ.2 0, 120, .inl (nA fr)))] s.heap.size (fun (vw_ : va_W) => ∃ (cnt9 : Nat), ∃ (fn9 : Nat → Nat), ∃ (fp9 : Nat → Nat), ∃ (fr9 : Nat → Nat), (stOK (L ++ spB n fk fs len fw en pr sec f (rch + 1)) cnt9 fn9 fp9 fr9) ∧ vw_ = [(e0, .inr (5, [.int (nI pr), .int (nI fst), .int (nI sec), .int (nI rch)])), (b0, .inr (4, [.ref b1, .int (nI len)])), (b1, .inl (κ.2 0, 6, .inl (nA fw))), (a0, .inr (3, [.ref a1, .ref a2, .int (nI n)])), (a1, .inl (κ.2 0, 6, .inl (nA fk))), (a2, .inl (κ.2 0, 6, .inl (nA fs))), (q0, .inr (6, [.ref q1, .ref q2, .ref q3, .int (nI cnt9)])), (q1, .inl (κ.2 0, 120, .inl (nA fn9))), (q2, .inl (κ.2 0, 120, .inl (nA fp9))), (q3, .inl (κ.2 0, 120, .inl (nA fr9)))])) ([.ref e0, .int (nI f), .int (nI en), .ref a0, .ref b0, .ref q0] : List Value).toArray s 0 0 A) 53 [(7, .int (nI ((f + 1) + b))), (6, .int (nI b)), (0, .ref e0), (1, .int (nI f)), (2, .int (nI en)), (3, .ref a0), (4, .ref b0), (5, .ref q0)] []
          refine g_iinc (pc' := 56) (v := nI (b + 1)) (lv' := [(6, .int (nI (b + 1))), (7, .int (nI ((f + 1) + b))), (0, .ref e0), (1, .int (nI f)), (2, .int (nI en)), (3, .ref a0), (4, .ref b0), (5, .ref q0)]) C 1 dX6_findFrom_53 rfl (iincN1 _) (by decide) rfl rfl ?_
          refine g_goto (tgt := 3) C dX6_findFrom_56 (by decide) ?_
          refine g_lv (lv' := [(6, .int (nI (b + 1))), (0, .ref e0), (1, .int (nI f)), (2, .int (nI en)), (3, .ref a0), (4, .ref b0), (5, .ref q0)]) [0, 2, 3, 4, 5, 6, 7] rfl ?_
          exact ih_b (b + 1) (ct + 1) (va_up gn ct en) (va_up gp ct ((2 ^ f) ||| (2 ^ ((f + 1) + b)))) (va_up gr ct pr) (by first | assumption | omega) (by rw [spB, if_pos c_32_3, ← List.append_assoc]; exact stOK_put hst _ _ _) (by omega)
  exact lp_b 7 0 cnt fn fp fr (Nat.zero_le _) (by simpa [spB] using hL) (by omega)

set_option maxHeartbeats 4000000 in
set_option maxRecDepth 100000 in
theorem kX6_find (l : Launch) (κ : KK) (e0 : Nat) (pr : Nat) (fst : Nat) (sec : Nat) (rch : Nat) (b0 : Nat) (b1 : Nat) (len : Nat) (fw : Nat → Nat) (a0 : Nat) (a1 : Nat) (a2 : Nat) (n : Nat) (fk : Nat → Nat) (fs : Nat → Nat) (q0 : Nat) (q1 : Nat) (q2 : Nat) (q3 : Nat) (cnt : Nat) (fn : Nat → Nat) (fp : Nat → Nat) (fr : Nat → Nat) (L : SL) (en : Nat) (hQ : fst < 100 ∧ sec < 100 ∧ rch ≤ 4) (hS : SW len fw) (hR : RW n fk fs) (hL : stOK L cnt fn fp fr) (hc : cnt + 15 ≤ 120) : CMv l yX6_find cX6_find 6 none 4 0 0 κ [.ref e0, .int (nI en), .ref a0, .ref b0, .ref q0] [(e0, .inr (5, [.int (nI pr), .int (nI fst), .int (nI sec), .int (nI rch)])), (b0, .inr (4, [.ref b1, .int (nI len)])), (b1, .inl (κ.2 0, 6, .inl (nA fw))), (a0, .inr (3, [.ref a1, .ref a2, .int (nI n)])), (a1, .inl (κ.2 0, 6, .inl (nA fk))), (a2, .inl (κ.2 0, 6, .inl (nA fs))), (q0, .inr (6, [.ref q1, .ref q2, .ref q3, .int (nI cnt)])), (q1, .inl (κ.2 0, 120, .inl (nA fn))), (q2, .inl (κ.2 0, 120, .inl (nA fp))), (q3, .inl (κ.2 0, 120, .inl (nA fr)))] (fun (vw_ : va_W) => ∃ (cnt9 : Nat), ∃ (fn9 : Nat → Nat), ∃ (fp9 : Nat → Nat), ∃ (fr9 : Nat → Nat), (stOK (L ++ spL n fk fs len fw en pr fst sec rch 6) cnt9 fn9 fp9 fr9) ∧ vw_ = [(e0, .inr (5, [.int (nI pr), .int (nI fst), .int (nI sec), .int (nI rch)])), (b0, .inr (4, [.ref b1, .int (nI len)])), (b1, .inl (κ.2 0, 6, .inl (nA fw))), (a0, .inr (3, [.ref a1, .ref a2, .int (nI n)])), (a1, .inl (κ.2 0, 6, .inl (nA fk))), (a2, .inl (κ.2 0, 6, .inl (nA fs))), (q0, .inr (6, [.ref q1, .ref q2, .ref q3, .int (nI cnt9)])), (q1, .inl (κ.2 0, 120, .inl (nA fn9))), (q2, .inl (κ.2 0, 120, .inl (nA fp9))), (q3, .inl (κ.2 0, 120, .inl (nA fr9)))]) := by
  refine cmv_of RX6 rfl (by decide) (Nat.le_of_ble_eq_true rfl) ?_
  intro p e s m below meth c A C hAe hA hini
  refine g_lv (lv' := [(0, .ref e0), (1, .int (nI en)), (2, .ref a0), (3, .ref b0), (4, .ref q0)]) [0, 1, 2, 3, 4] rfl ?_
  obtain ⟨h1, h2, h3⟩ := hQ
  refine g_iconst (pc' := 1) (v := nI 0) C dX6_find_0 (by decide) rfl ?_
  refine g_istore (pc' := 3) (lv' := [(5, .int (nI 0)), (0, .ref e0), (1, .int (nI en)), (2, .ref a0), (3, .ref b0), (4, .ref q0)]) C dX6_find_1 (by decide) rfl rfl ?_
  have lp_a : ∀ (fu_a : Nat) (f : Nat) (ct : Nat) (gn : Nat → Nat) (gp : Nat → Nat) (gr : Nat → Nat), (f ≤ 6) → (stOK (L ++ spL n fk fs len fw en pr fst sec rch f) ct gn gp gr) → (6 - f) < fu_a → G p l e (rmv 4 0 0) s m ([.ref e0, .int (nI en), .ref a0, .ref b0, .ref q0] : List Value).toArray below meth c κ 6 (JM A s) [(e0, .inr (5, [.int (nI pr), .int (nI fst), .int (nI sec), .int (nI rch)])), (b0, .inr (4, [.ref b1, .int (nI len)])), (b1, .inl (κ.2 0, 6, .inl (nA fw))), (a0, .inr (3, [.ref a1, .ref a2, .int (nI n)])), (a1, .inl (κ.2 0, 6, .inl (nA fk))), (a2, .inl (κ.2 0, 6, .inl (nA fs))), (q0, .inr (6, [.ref q1, .ref q2, .ref q3, .int (nI ct)])), (q1, .inl (κ.2 0, 120, .inl (nA gn))), (q2, .inl (κ.2 0, 120, .inl (nA gp))), (q3, .inl (κ.2 0, 120, .inl (nA gr)))] 0 0 (MQ below (QMv κ [(e0, .inr (5, [.int (nI pr), .int (nI fst), .int (nI sec), .int (nI rch)])), (b0, .inr (4, [.ref b1, .int (nI len)])), (b1, .inl (κ.2 0, 6, .inl (nA fw))), (a0, .inr (3, [.ref a1, .ref a2, .int (nI n)])), (a1, .inl (κ.2 0, 6, .inl (nA fk))), (a2, .inl (κ.2 0, 6, .inl (nA fs))), (q0, .inr (6, [.ref q1, .ref q2, .ref q3, .int (nI cnt)])), (q1, .inl (κ.2 0, 120, .inl (nA fn))), (q2, .inl (κ.2 0, 120, .inl (nA fp))), (q3, .inl (κ.2 0, 120, .inl (nA fr)))] s.heap.size (fun (vw_ : va_W) => ∃ (cnt9 : Nat), ∃ (fn9 : Nat → Nat), ∃ (fp9 : Nat → Nat), ∃ (fr9 : Nat → Nat), (stOK (L ++ spL n fk fs len fw en pr fst sec rch 6) cnt9 fn9 fp9 fr9) ∧ vw_ = [(e0, .inr (5, [.int (nI pr), .int (nI fst), .int (nI sec), .int (nI rch)])), (b0, .inr (4, [.ref b1, .int (nI len)])), (b1, .inl (κ.2 0, 6, .inl (nA fw))), (a0, .inr (3, [.ref a1, .ref a2, .int (nI n)])), (a1, .inl (κ.2 0, 6, .inl (nA fk))), (a2, .inl (κ.2 0, 6, .inl (nA fs))), (q0, .inr (6, [.ref q1, .ref q2, .ref q3, .int (nI cnt9)])), (q1, .inl (κ.2 0, 120, .inl (nA fn9))), (q2, .inl (κ.2 0, 120, .inl (nA fp9))), (q3, .inl (κ.2 0, 120, .inl (nA fr9)))])) ([.ref e0, .int (nI en), .ref a0, .ref b0, .ref q0] : List Value).toArray s 0 0 A) 3 [(5, .int (nI f)), (0, .ref e0), (1, .int (nI en)), (2, .ref a0), (3, .ref b0), (4, .ref q0)] [] := by
    intro fu_a
    induction fu_a with
    | zero => intro f ct gn gp gr hf hst hmu; exact absurd hmu (Nat.not_lt_zero _)
    | succ fu_a ih_a =>
      intro f ct gn gp gr hf hst hmu_a
      refine g_iload (pc' := 5) C 0 dX6_find_3 rfl rfl ?_
      refine g_bipush (pc' := 7) (v := nI 6) C dX6_find_5 (by decide) rfl ?_
      refine g_icmp_geN (pc' := 10) (tgt := 41) C (by first | assumption | omega) (by first | assumption | omega) dX6_find_7 (by decide) rfl (fun c_7_1 => ?_) (fun c_7_1 => ?_)
      · exact g_retMv C hAe rfl (Nat.le_of_ble_eq_true rfl) (Nat.le_of_ble_eq_true rfl) (⟨ct, gn, gp, gr, by have e : f = 6 := (by omega); subst e; exact hst, rfl⟩) dX6_find_41
      · refine g_aload_n (pc' := 11) C 4 dX6_find_10 rfl rfl rfl ?_
        refine g_iload (pc' := 13) C 0 dX6_find_11 rfl rfl ?_
        refine g_aload_n (pc' := 14) C 1 dX6_find_13 rfl rfl rfl ?_
        refine g_get (pc' := 17) C fl_RX6_9_5 0 rfl rfl dX6_find_14 rfl ?_
        refine g_aload_n (pc' := 18) C 3 dX6_find_17 rfl rfl rfl ?_
        refine g_callP (pc' := 21) C lk_RX6_21 (kX5_hasFormAt l κ b0 b1 len fw a0 a1 a2 n fk fs f fst (by first | assumption | omega) (by first | assumption | omega) (by first | assumption | omega) (by first | assumption | omega)) 1 rfl rfl [1, 2, 3, 4, 5] rfl rfl (Nat.le_of_ble_eq_true rfl) ⟨Nat.le_of_ble_eq_true rfl, Nat.le_of_ble_eq_true rfl⟩ ⟨Nat.le_of_ble_eq_true rfl, Nat.le_of_ble_eq_true rfl⟩ rfl dX6_find_18 rfl (fun r_18_2 h_18_2 => ?_)
        obtain rfl : r_18_2 = b2i (decide (f < len) && fm n fk fs (fw f) fst) := h_18_2
        refine g_if_eqB (pc' := 24) (tgt := 35) C dX6_find_21 (by decide) rfl (fun c_21_3 => ?_) (fun c_21_3 => ?_)
        · refine g_iinc (pc' := 38) (v := nI (f + 1)) (lv' := [(5, .int (nI (f + 1))), (0, .ref e0), (1, .int (nI en)), (2, .ref a0), (3, .ref b0), (4, .ref q0)]) C 0 dX6_find_35 rfl (iincN1 _) (by decide) rfl rfl ?_
          refine g_goto (tgt := 3) C dX6_find_38 (by decide) ?_
          exact ih_a (f + 1) ct gn gp gr (by first | assumption | omega) (by rw [spL, if_neg (by rw [c_21_3]; decide), List.append_nil]; exact hst) (by omega)
        · refine g_aload_n (pc' := 25) C 1 dX6_find_24 rfl rfl rfl ?_
          refine g_iload (pc' := 27) C 0 dX6_find_25 rfl rfl ?_
          refine g_iload_n (pc' := 28) C 2 dX6_find_27 rfl rfl rfl ?_
          refine g_aload_n (pc' := 29) C 3 dX6_find_28 rfl rfl rfl ?_
          refine g_aload_n (pc' := 30) C 4 dX6_find_29 rfl rfl rfl ?_
          refine g_aload (pc' := 32) C 5 dX6_find_30 rfl rfl ?_
          refine g_callMv (pc' := 35) (wr := []) C hA lk_RX6_27 (kX6_findFrom l κ e0 pr fst sec rch b0 b1 len fw a0 a1 a2 n fk fs q0 q1 q2 q3 ct gn gp gr (L ++ spL n fk fs len fw en pr fst sec rch f) f en ⟨h1, h2, h3⟩ (by first | assumption | omega) (by first | assumption | omega) (by first | assumption | omega) (by first | assumption | omega) (fun b hb => by have h8 := hL.1; have h9 := sp_room (n := n) (fk := fk) (fs := fs) (fw := fw) (en := en) (pr := pr) (fst := fst) (sec := sec) (rch := rch) hS.1 hb; rw [List.length_append]; omega)) 0 rfl rfl [0, 1, 2, 3, 4, 5, 6, 7, 8, 9] [] rfl rfl ⟨rfl, rfl, by decide⟩ rfl (Nat.le_of_ble_eq_true rfl) ⟨Nat.le_of_ble_eq_true rfl, Nat.le_of_ble_eq_true rfl⟩ ⟨Nat.le_of_ble_eq_true rfl, Nat.le_of_ble_eq_true rfl⟩ rfl dX6_find_32 rfl (fun w_32_4 h_32_4 => ?_)
          obtain ⟨cnt9_4, fn9_4, fp9_4, fr9_4, hx_4, rfl⟩ : ∃ (cnt9_4 : Nat), ∃ (fn9_4 : Nat → Nat), ∃ (fp9_4 : Nat → Nat), ∃ (fr9_4 : Nat → Nat), (stOK ((L ++ spL n fk fs len fw en pr fst sec rch f) ++ spB n fk fs len fw en pr sec f (rch + 1)) cnt9_4 fn9_4 fp9_4 fr9_4) ∧ w_32_4 = [(e0, .inr (5, [.int (nI pr), .int (nI fst), .int (nI sec), .int (nI rch)])), (b0, .inr (4, [.ref b1, .int (nI len)])), (b1, .inl (κ.2 0, 6, .inl (nA fw))), (a0, .inr (3, [.ref a1, .ref a2, .int (nI n)])), (a1, .inl (κ.2 0, 6, .inl (nA fk))), (a2, .inl (κ.2 0, 6, .inl (nA fs))), (q0, .inr (6, [.ref q1, .ref q2, .ref q3, .int (nI cnt9_4)])), (q1, .inl (κ.2 0, 120, .inl (nA fn9_4))), (q2, .inl (κ.2 0, 120, .inl (nA fp9_4))), (q3, .inl (κ.2 0, 120, .inl (nA fr9_4)))] := h_32_4
          show G p l e (rmv 4 0 0) s m ([.ref e0, .int (nI en), .ref a0, .ref b0, .ref q0] : List Value).toArray below meth c κ 6 (JM A s) [(e0, .inr (5, [.int (nI pr), .int (nI fst), .int (nI sec), .int (nI rch)])), (b0, .inr (4, [.ref b1, .int (nI len)])), (b1, .inl (κ.2 0, 6, .inl (nA fw))), (a0, .inr (3, [.ref a1, .ref a2, .int (nI n)])), (a1, .inl (κ.2 0, 6, .inl (nA fk))), (a2, .inl (κ.2 0, 6, .inl (nA fs))), (q0, .inr (6, [.ref q1, .ref q2, .ref q3, .int (nI cnt9_4)])), (q1, .inl (κ.2 0, 120, .inl (nA fn9_4))), (q2, .inl (κ.2 0, 120, .inl (nA fp9_4))), (q3, .inl (κ.2 0, 120, .inl (nA fr9_4)))] 0 0 (MQ below (QMv κ [(e0, .inr (5, [.int (nI pr), .int (nI fst), .int (nI sec), .int (nI rch)])), (b0, .inr (4, [.ref b1, .int (nI len)])), (b1, .inl (κ.2 0, 6, .inl (nA fw))), (a0, .inr (3, [.ref a1, .ref a2, .int (nI n)])), (a1, .inl (κ.2 0, 6, .inl (nA fk))), (a2, .inl (κ.2 0, 6, .inl (nA fs))), (q0, .inr (6, [.ref q1, .ref q2, .ref q3, .int (nI cnt)])), (q1, .inl (κ.2 0, 120, .inl (nA fn))), (q2, .inl (κ.2 0, 120, .inl (nA fp))), (q3, .inl (κ.2 0, 120, .inl (nA fr)))] s.heap.size (fun (vw_ : va_W) => ∃ (cnt9 : Nat), ∃ (fn9 : Nat → Nat), ∃ (fp9 : Nat → Nat), ∃ (fr9 : Nat → Nat), (stOK (L ++ spL n fk fs len fw en pr fst sec rch 6) cnt9 fn9 fp9 fr9) ∧ vw_ = [(e0, .inr (5, [.int (nI pr), .int (nI fst), .int (nI sec), .int (nI rch)])), (b0, .inr (4, [.ref b1, .int (nI len)])), (b1, .inl (κ.2 0, 6, .inl (nA fw))), (a0, .inr (3, [.ref a1, .ref a2, .int (nI n)])), (a1, .inl (κ.2 0, 6, .inl (nA fk))), (a2, .inl (κ.2 0, 6, .inl (nA fs))), (q0, .inr (6, [.ref q1, .ref q2, .ref q3, .int (nI cnt9)])), (q1, .inl (κ.2 0, 120, .inl (nA fn9))), (q2, .inl (κ.2 0, 120, .inl (nA fp9))), (q3, .inl (κ.2 0, 120, .inl (nA fr9)))])) ([.ref e0, .int (nI en), .ref a0, .ref b0, .ref q0] : List Value).toArray s 0 0 A) 35 [(5, .int (nI f)), (0, .ref e0), (1, .int (nI en)), (2, .ref a0), (3, .ref b0), (4, .ref q0)] []
          refine g_iinc (pc' := 38) (v := nI (f + 1)) (lv' := [(5, .int (nI (f + 1))), (0, .ref e0), (1, .int (nI en)), (2, .ref a0), (3, .ref b0), (4, .ref q0)]) C 0 dX6_find_35 rfl (iincN1 _) (by decide) rfl rfl ?_
          refine g_goto (tgt := 3) C dX6_find_38 (by decide) ?_
          exact ih_a (f + 1) cnt9_4 fn9_4 fp9_4 fr9_4 (by first | assumption | omega) (by rw [spL, if_pos c_21_3, ← List.append_assoc]; assumption) (by omega)
  exact lp_a 7 0 cnt fn fp fr (Nat.zero_le _) (by simpa [spL] using hL) (by omega)
end
section
set_option maxHeartbeats 4000000 in
set_option maxRecDepth 100000 in
theorem kJ7_fill_53178 (l : Launch) (κ : KK) (c2 : Nat) (pk : Nat → Option Nat) : CMv l yJ7_fill_53178 cJ7_fill_53178 4 none 0 0 0 κ [.ref c2, .int (-1)] [(c2, .inl (κ.2 0, 6, .inl (oA pk)))] (fun (vw_ : va_W) => ∃ (pk9 : Nat → Option Nat), (∀ j, j < 6 → pk9 j = none) ∧ vw_ = [(c2, .inl (κ.2 0, 6, .inl (oA pk9)))]) := by
  refine cmv_of RJ7 rfl (by decide) (Nat.le_of_ble_eq_true rfl) ?_
  intro p e s m below meth c A C hAe hA hini
  refine g_lv (lv' := [(0, .ref c2), (1, .int (-1))]) [0, 1] rfl ?_
  refine g_iconst (pc' := 1) (v := nI 0) C dJ7_fill_53178_0 (by decide) rfl ?_
  refine g_istore_n (pc' := 2) (lv' := [(2, .int (nI 0)), (0, .ref c2), (1, .int (-1))]) C dJ7_fill_53178_1 rfl (by decide) rfl rfl ?_
  refine g_aload_n (pc' := 3) C 1 dJ7_fill_53178_2 rfl rfl rfl ?_
  refine g_alen (pc' := 4) C 0 0 rfl rfl dJ7_fill_53178_3 rfl ?_
  refine g_istore_n (pc' := 5) (lv' := [(3, .int (nI 6)), (2, .int (nI 0)), (0, .ref c2), (1, .int (-1))]) C dJ7_fill_53178_4 rfl (by decide) rfl rfl ?_
  have lp_a : ∀ (fu_a : Nat) (i : Nat) (pl : Nat → Option Nat), (i ≤ 6) → (∀ j, j < i → pl j = none) → (6 - i) < fu_a → G p l e (rmv 0 0 0) s m ([.ref c2, .int (-1)] : List Value).toArray below meth c κ 4 (JM A s) [(c2, .inl (κ.2 0, 6, .inl (oA pl)))] 0 0 (MQ below (QMv κ [(c2, .inl (κ.2 0, 6, .inl (oA pk)))] s.heap.size (fun (vw_ : va_W) => ∃ (pk9 : Nat → Option Nat), (∀ j, j < 6 → pk9 j = none) ∧ vw_ = [(c2, .inl (κ.2 0, 6, .inl (oA pk9)))])) ([.ref c2, .int (-1)] : List Value).toArray s 0 0 A) 5 [(2, .int (nI i)), (3, .int (nI 6)), (0, .ref c2), (1, .int (-1))] [] := by
    intro fu_a
    induction fu_a with
    | zero => intro i pl hi hp hmu; exact absurd hmu (Nat.not_lt_zero _)
    | succ fu_a ih_a =>
      intro i pl hi hp hmu_a
      refine g_iload_n (pc' := 6) C 0 dJ7_fill_53178_5 rfl rfl rfl ?_
      refine g_iload_n (pc' := 7) C 1 dJ7_fill_53178_6 rfl rfl rfl ?_
      refine g_icmp_geN (pc' := 10) (tgt := 20) C (by first | assumption | omega) (by first | assumption | omega) dJ7_fill_53178_7 (by decide) rfl (fun c_7_1 => ?_) (fun c_7_1 => ?_)
      · exact g_retMv C hAe rfl (Nat.le_of_ble_eq_true rfl) (Nat.le_of_ble_eq_true rfl) (⟨pl, fun j hj => hp j (by omega), rfl⟩) dJ7_fill_53178_20
      · refine g_aload_n (pc' := 11) C 2 dJ7_fill_53178_10 rfl rfl rfl ?_
        refine g_iload_n (pc' := 12) C 0 dJ7_fill_53178_11 rfl rfl rfl ?_
        refine g_iload_n (pc' := 13) C 3 dJ7_fill_53178_12 rfl rfl rfl ?_
        refine g_iastO (pc' := 14) (x := none) (ws' := [(c2, .inl (κ.2 0, 6, .inl (oA (va_up pl i none))))]) C 0 rfl rfl i (by first | assumption | omega) (by decide) rfl dJ7_fill_53178_13 rfl ?_
        refine g_iinc (pc' := 17) (v := nI (i + 1)) (lv' := [(2, .int (nI (i + 1))), (3, .int (nI 6)), (0, .ref c2), (1, .int (-1))]) C 0 dJ7_fill_53178_14 rfl (iincN1 _) (by decide) rfl rfl ?_
        refine g_goto (tgt := 5) C dJ7_fill_53178_17 (by decide) ?_
        exact ih_a (i + 1) (va_up pl i none) (by first | assumption | omega) (fun j hj => by by_cases e : j = i <;> simp [va_up, e]; exact hp j (by omega)) (by omega)
  refine g_lv (lv' := [(2, .int (nI 0)), (3, .int (nI 6)), (0, .ref c2), (1, .int (-1))]) [1, 0, 2, 3] rfl ?_
  exact lp_a 7 0 pk (Nat.zero_le _) (fun j hj => absurd hj (Nat.not_lt_zero j)) (by omega)

set_option maxHeartbeats 4000000 in
set_option maxRecDepth 100000 in
theorem kX1_costWith (l : Launch) (κ : KK) (c0 : Nat) (c1 : Nat) (c2 : Nat) (cr : Nat → Nat) (M : Nat → Nat → Nat) (q0 : Nat) (q1 : Nat) (q2 : Nat) (q3 : Nat) (cnt : Nat) (fp : Nat → Nat) (fr : Nat → Nat) (i : Nat) (pl : Nat) (tk : Nat) (hF : FW cnt fp fr) (hi : i < cnt) (hpl : pl < 6) (htk : tk < 64) : CP l yX1_costWith cX1_costWith 6 (some .int) 2 κ [.ref c0, .int (nI i), .int (nI pl), .int (nI tk), .ref q0] [(c0, .inr (1, [.ref c1, .ref c2])), (c1, .inl (κ.2 3, 7, .inr (.inr (.inr (.inr (g7 cr)))))), ((cr 0), .inl (κ.2 0, 64, .inl (nA (M 0)))), ((cr 1), .inl (κ.2 0, 64, .inl (nA (M 1)))), ((cr 2), .inl (κ.2 0, 64, .inl (nA (M 2)))), ((cr 3), .inl (κ.2 0, 64, .inl (nA (M 3)))), ((cr 4), .inl (κ.2 0, 64, .inl (nA (M 4)))), ((cr 5), .inl (κ.2 0, 64, .inl (nA (M 5)))), ((cr 6), .inl (κ.2 0, 64, .inl (nA (M 6)))), (q0, .inr (6, [.ref q1, .ref q2, .ref q3, .int (nI cnt)])), (q2, .inl (κ.2 0, 120, .inl (nA fp))), (q3, .inl (κ.2 0, 120, .inl (nA fr)))] (fun vr_ => vr_ = nI (fr i + M (pl + 1) (tk ||| fp i))) := by
  refine cp_of RX1 rfl (by decide) (Nat.le_of_ble_eq_true rfl) ?_
  intro p e s m below meth c C
  refine g_lv (lv' := [(0, .ref c0), (1, .int (nI i)), (2, .int (nI pl)), (3, .int (nI tk)), (4, .ref q0)]) [0, 1, 2, 3, 4] rfl ?_
  have hc : cnt ≤ 120 := hF.1
  obtain ⟨h0, h6, h20⟩ := hF.2 i hi
  have ho := or64 htk h6
  refine g_iload_n (pc' := 1) C 3 dX1_costWith_0 rfl rfl rfl ?_
  refine g_aload (pc' := 3) C 4 dX1_costWith_1 rfl rfl ?_
  refine g_iload_n (pc' := 4) C 1 dX1_costWith_3 rfl rfl rfl ?_
  refine g_callP (pc' := 7) C lk_RX1_44 (kX7_placesOf l κ q0 q1 q2 q3 cnt fp i (by first | assumption | omega) (by first | assumption | omega)) 9 rfl rfl [9, 10] rfl rfl (Nat.le_of_ble_eq_true rfl) ⟨Nat.le_of_ble_eq_true rfl, Nat.le_of_ble_eq_true rfl⟩ ⟨Nat.le_of_ble_eq_true rfl, Nat.le_of_ble_eq_true rfl⟩ rfl dX1_costWith_4 rfl (fun r_4_1 h_4_1 => ?_)
  obtain rfl : r_4_1 = nI (fp i) := h_4_1
  refine g_ior (pc' := 8) (v := nI (tk ||| (fp i))) C dX1_costWith_7 (nI_or _ _) rfl ?_
  refine g_bipush (pc' := 10) (v := nI 63) C dX1_costWith_8 (by decide) rfl ?_
  refine g_iand (pc' := 11) (v := nI (tk ||| fp i)) C dX1_costWith_10 (and63 ho) rfl ?_
  refine g_istore (pc' := 13) (lv' := [(5, .int (nI (tk ||| fp i))), (0, .ref c0), (1, .int (nI i)), (2, .int (nI pl)), (3, .int (nI tk)), (4, .ref q0)]) C dX1_costWith_11 (by decide) rfl rfl ?_
  refine g_aload (pc' := 15) C 5 dX1_costWith_13 rfl rfl ?_
  refine g_iload_n (pc' := 16) C 2 dX1_costWith_15 rfl rfl rfl ?_
  refine g_callP (pc' := 19) C lk_RX1_48 (kX7_priceOf l κ q0 q1 q2 q3 cnt fr i (by first | assumption | omega) (by first | assumption | omega)) 9 rfl rfl [9, 11] rfl rfl (Nat.le_of_ble_eq_true rfl) ⟨Nat.le_of_ble_eq_true rfl, Nat.le_of_ble_eq_true rfl⟩ ⟨Nat.le_of_ble_eq_true rfl, Nat.le_of_ble_eq_true rfl⟩ rfl dX1_costWith_16 rfl (fun r_16_2 h_16_2 => ?_)
  obtain rfl : r_16_2 = nI (fr i) := h_16_2
  refine g_aload_n (pc' := 20) C 1 dX1_costWith_19 rfl rfl rfl ?_
  refine g_get (pc' := 23) C fl_RX1_13_1 0 rfl rfl dX1_costWith_20 rfl ?_
  refine g_iload_n (pc' := 24) C 3 dX1_costWith_23 rfl rfl rfl ?_
  refine g_iconst (pc' := 25) (v := nI 1) C dX1_costWith_24 (by decide) rfl ?_
  refine g_iadd (pc' := 26) (v := nI (pl + 1)) C dX1_costWith_25 (nI_add _ _) rfl ?_
  refine g_aald2 (pc' := 27) (b := (cr (pl + 1))) C 1 rfl (pl + 1) (by first | assumption | omega) (by decide) (g7_at (by omega)) dX1_costWith_26 rfl ?_
  refine g_iload (pc' := 29) C 0 dX1_costWith_27 rfl rfl ?_
  refine g_ialdN (pc' := 30) C (2 + (pl + 1)) (f := (M (pl + 1))) (row7 (κ := κ) (cr := cr) (M := M) (X := [(c0, .inr (1, [.ref c1, .ref c2])), (c1, .inl (κ.2 3, 7, .inr (.inr (.inr (.inr (g7 cr))))))]) (Y := [(q0, .inr (6, [.ref q1, .ref q2, .ref q3, .int (nI cnt)])), (q2, .inl (κ.2 0, 120, .inl (nA fp))), (q3, .inl (κ.2 0, 120, .inl (nA fr)))]) (b := 2) rfl rfl (by omega)) (tk ||| fp i) (by first | assumption | omega) (by decide) dX1_costWith_29 rfl ?_
  refine g_iadd (pc' := 31) (v := nI ((fr i) + ((M (pl + 1)) (tk ||| fp i)))) C dX1_costWith_30 (nI_add _ _) rfl ?_
  exact g_retP C rfl rfl (show nI ((fr i) + ((M (pl + 1)) (tk ||| fp i))) = nI (fr i + M (pl + 1) (tk ||| fp i)) by rfl) dX1_costWith_31

set_option maxHeartbeats 4000000 in
set_option maxRecDepth 100000 in
theorem kX1_leastFrom (l : Launch) (κ : KK) (c0 : Nat) (c1 : Nat) (c2 : Nat) (cr : Nat → Nat) (M : Nat → Nat → Nat) (q0 : Nat) (q1 : Nat) (q2 : Nat) (q3 : Nat) (cnt : Nat) (fp : Nat → Nat) (fr : Nat → Nat) (pl : Nat) (tk : Nat) (idl : Nat) (hF : FW cnt fp fr) (hM : MW M) (hpl : pl < 6) (htk : tk < 64) (hidl : idl ≤ 50) : CP l yX1_leastFrom cX1_leastFrom 7 (some .int) 3 κ [.ref c0, .int (nI pl), .int (nI tk), .ref q0, .int (nI idl)] [(c0, .inr (1, [.ref c1, .ref c2])), (c1, .inl (κ.2 3, 7, .inr (.inr (.inr (.inr (g7 cr)))))), ((cr 0), .inl (κ.2 0, 64, .inl (nA (M 0)))), ((cr 1), .inl (κ.2 0, 64, .inl (nA (M 1)))), ((cr 2), .inl (κ.2 0, 64, .inl (nA (M 2)))), ((cr 3), .inl (κ.2 0, 64, .inl (nA (M 3)))), ((cr 4), .inl (κ.2 0, 64, .inl (nA (M 4)))), ((cr 5), .inl (κ.2 0, 64, .inl (nA (M 5)))), ((cr 6), .inl (κ.2 0, 64, .inl (nA (M 6)))), (q0, .inr (6, [.ref q1, .ref q2, .ref q3, .int (nI cnt)])), (q2, .inl (κ.2 0, 120, .inl (nA fp))), (q3, .inl (κ.2 0, 120, .inl (nA fr)))] (fun vr_ => vr_ = nI (lfR (M (pl + 1)) fp fr cnt pl tk idl)) := by
  refine cp_of RX1 rfl (by decide) (Nat.le_of_ble_eq_true rfl) ?_
  intro p e s m below meth c C
  refine g_lv (lv' := [(0, .ref c0), (1, .int (nI pl)), (2, .int (nI tk)), (3, .ref q0), (4, .int (nI idl))]) [0, 1, 2, 3, 4] rfl ?_
  have hc : cnt ≤ 120 := hF.1
  refine g_iload_n (pc' := 1) C 2 dX1_leastFrom_0 rfl rfl rfl ?_
  refine g_iload_n (pc' := 2) C 1 dX1_leastFrom_1 rfl rfl rfl ?_
  refine g_ishr (pc' := 3) (v := nI (tk / 2 ^ pl)) C dX1_leastFrom_2 (nI_shr _ _ (by omega) (by first | assumption | omega)) rfl ?_
  refine g_iconst (pc' := 4) (v := nI 1) C dX1_leastFrom_3 (by decide) rfl ?_
  refine g_iand (pc' := 5) (v := nI ((tk / 2 ^ pl) &&& 1)) C dX1_leastFrom_4 (nI_and _ _) rfl ?_
  refine g_iconst (pc' := 6) (v := nI 1) C dX1_leastFrom_5 (by decide) rfl ?_
  refine g_icmp_neN (pc' := 9) (tgt := 20) C (by have h : tk / 2 ^ pl &&& 1 ≤ 1 := Nat.and_le_right; omega) (by first | assumption | omega) dX1_leastFrom_6 (by decide) rfl (fun c_6_1 => ?_) (fun c_6_1 => ?_)
  · refine g_iload (pc' := 22) C 4 dX1_leastFrom_20 rfl rfl ?_
    refine g_aload_n (pc' := 23) C 0 dX1_leastFrom_22 rfl rfl rfl ?_
    refine g_get (pc' := 26) C fl_RX1_13_1 0 rfl rfl dX1_leastFrom_23 rfl ?_
    refine g_iload_n (pc' := 27) C 1 dX1_leastFrom_26 rfl rfl rfl ?_
    refine g_iconst (pc' := 28) (v := nI 1) C dX1_leastFrom_27 (by decide) rfl ?_
    refine g_iadd (pc' := 29) (v := nI (pl + 1)) C dX1_leastFrom_28 (nI_add _ _) rfl ?_
    refine g_aald2 (pc' := 30) (b := (cr (pl + 1))) C 1 rfl (pl + 1) (by first | assumption | omega) (by decide) (g7_at (by omega)) dX1_leastFrom_29 rfl ?_
    refine g_iload_n (pc' := 31) C 2 dX1_leastFrom_30 rfl rfl rfl ?_
    refine g_ialdN (pc' := 32) C (2 + (pl + 1)) (f := (M (pl + 1))) (row7 (κ := κ) (cr := cr) (M := M) (X := [(c0, .inr (1, [.ref c1, .ref c2])), (c1, .inl (κ.2 3, 7, .inr (.inr (.inr (.inr (g7 cr))))))]) (Y := [(q0, .inr (6, [.ref q1, .ref q2, .ref q3, .int (nI cnt)])), (q2, .inl (κ.2 0, 120, .inl (nA fp))), (q3, .inl (κ.2 0, 120, .inl (nA fr)))]) (b := 2) rfl rfl (by omega)) tk (by first | assumption | omega) (by decide) dX1_leastFrom_31 rfl ?_
    refine g_iadd (pc' := 33) (v := nI (idl + ((M (pl + 1)) tk))) C dX1_leastFrom_32 (nI_add _ _) rfl ?_
    refine g_istore (pc' := 35) (lv' := [(5, .int (nI (idl + ((M (pl + 1)) tk)))), (0, .ref c0), (1, .int (nI pl)), (2, .int (nI tk)), (3, .ref q0), (4, .int (nI idl))]) C dX1_leastFrom_33 (by decide) rfl rfl ?_
    refine g_iconst (pc' := 36) (v := nI 0) C dX1_leastFrom_35 (by decide) rfl ?_
    refine g_istore (pc' := 38) (lv' := [(6, .int (nI 0)), (5, .int (nI (idl + ((M (pl + 1)) tk)))), (0, .ref c0), (1, .int (nI pl)), (2, .int (nI tk)), (3, .ref q0), (4, .int (nI idl))]) C dX1_leastFrom_36 (by decide) rfl rfl ?_
    have lp_a : ∀ (fu_a : Nat) (i : Nat) (be : Nat), (i ≤ cnt) → (be = lfN (M (pl + 1)) fp fr pl tk idl i) → (cnt - i) < fu_a → G p l e (rmv 3 0 0) s m ([.ref c0, .int (nI pl), .int (nI tk), .ref q0, .int (nI idl)] : List Value).toArray below meth c κ 7 (JP s) [(c0, .inr (1, [.ref c1, .ref c2])), (c1, .inl (κ.2 3, 7, .inr (.inr (.inr (.inr (g7 cr)))))), ((cr 0), .inl (κ.2 0, 64, .inl (nA (M 0)))), ((cr 1), .inl (κ.2 0, 64, .inl (nA (M 1)))), ((cr 2), .inl (κ.2 0, 64, .inl (nA (M 2)))), ((cr 3), .inl (κ.2 0, 64, .inl (nA (M 3)))), ((cr 4), .inl (κ.2 0, 64, .inl (nA (M 4)))), ((cr 5), .inl (κ.2 0, 64, .inl (nA (M 5)))), ((cr 6), .inl (κ.2 0, 64, .inl (nA (M 6)))), (q0, .inr (6, [.ref q1, .ref q2, .ref q3, .int (nI cnt)])), (q2, .inl (κ.2 0, 120, .inl (nA fp))), (q3, .inl (κ.2 0, 120, .inl (nA fr)))] 0 0 (MQ below (vp_Si (fun vr_ => vr_ = nI (lfR (M (pl + 1)) fp fr cnt pl tk idl))) ([.ref c0, .int (nI pl), .int (nI tk), .ref q0, .int (nI idl)] : List Value).toArray s 0 0 (fun _ => False)) 38 [(6, .int (nI i)), (5, .int (nI be)), (0, .ref c0), (1, .int (nI pl)), (2, .int (nI tk)), (3, .ref q0), (4, .int (nI idl))] [] := by
      intro fu_a
      induction fu_a with
      | zero => intro i be hi hbe hmu; exact absurd hmu (Nat.not_lt_zero _)
      | succ fu_a ih_a =>
        intro i be hi hbe hmu_a
        refine g_iload (pc' := 40) C 0 dX1_leastFrom_38 rfl rfl ?_
        refine g_aload_n (pc' := 41) C 5 dX1_leastFrom_40 rfl rfl rfl ?_
        refine g_getN (pc' := 44) C fl_RX1_24_6 9 rfl rfl dX1_leastFrom_41 rfl ?_
        refine g_icmp_geN (pc' := 47) (tgt := 80) C (by first | assumption | omega) (by first | assumption | omega) dX1_leastFrom_44 (by decide) rfl (fun c_44_2 => ?_) (fun c_44_2 => ?_)
        · refine g_iload (pc' := 82) C 1 dX1_leastFrom_80 rfl rfl ?_
          exact g_retP C rfl rfl (show nI be = nI (lfR (M (pl + 1)) fp fr cnt pl tk idl) by have e : i = cnt := (by omega); subst e; rw [lfR, if_neg (tb_n c_6_1), hbe]) dX1_leastFrom_82
        · refine g_aload_n (pc' := 48) C 5 dX1_leastFrom_47 rfl rfl rfl ?_
          refine g_iload (pc' := 50) C 0 dX1_leastFrom_48 rfl rfl ?_
          refine g_iload_n (pc' := 51) C 3 dX1_leastFrom_50 rfl rfl rfl ?_
          refine g_iload_n (pc' := 52) C 4 dX1_leastFrom_51 rfl rfl rfl ?_
          refine g_callP (pc' := 55) C lk_RX1_30 (kX7_fitsFrom l κ q0 q1 q2 q3 cnt fp i pl tk (by first | assumption | omega) (by first | assumption | omega) (hF.2 i (by omega)).1 (hF.2 i (by omega)).2.1 (by first | assumption | omega)) 9 rfl rfl [9, 10] rfl rfl (Nat.le_of_ble_eq_true rfl) ⟨Nat.le_of_ble_eq_true rfl, Nat.le_of_ble_eq_true rfl⟩ ⟨Nat.le_of_ble_eq_true rfl, Nat.le_of_ble_eq_true rfl⟩ rfl dX1_leastFrom_52 rfl (fun r_52_3 h_52_3 => ?_)
          obtain rfl : r_52_3 = b2i (fits (fp i) pl tk) := h_52_3
          refine g_if_eqB (pc' := 58) (tgt := 74) C dX1_leastFrom_55 (by decide) rfl (fun c_55_4 => ?_) (fun c_55_4 => ?_)
          · refine g_iinc (pc' := 77) (v := nI (i + 1)) (lv' := [(6, .int (nI (i + 1))), (5, .int (nI be)), (0, .ref c0), (1, .int (nI pl)), (2, .int (nI tk)), (3, .ref q0), (4, .int (nI idl))]) C 0 dX1_leastFrom_74 rfl (iincN1 _) (by decide) rfl rfl ?_
            refine g_goto (tgt := 38) C dX1_leastFrom_77 (by decide) ?_
            exact ih_a (i + 1) be (by first | assumption | omega) (by simp [lfN, *]) (by omega)
          · refine g_iload (pc' := 60) C 1 dX1_leastFrom_58 rfl rfl ?_
            refine g_aload_n (pc' := 61) C 2 dX1_leastFrom_60 rfl rfl rfl ?_
            refine g_iload (pc' := 63) C 0 dX1_leastFrom_61 rfl rfl ?_
            refine g_iload_n (pc' := 64) C 3 dX1_leastFrom_63 rfl rfl rfl ?_
            refine g_iload_n (pc' := 65) C 4 dX1_leastFrom_64 rfl rfl rfl ?_
            refine g_aload_n (pc' := 66) C 5 dX1_leastFrom_65 rfl rfl rfl ?_
            refine g_callP (pc' := 69) C lk_RX1_34 (kX1_costWith l κ c0 c1 c2 cr M q0 q1 q2 q3 cnt fp fr i pl tk (by first | assumption | omega) (by first | assumption | omega) (by first | assumption | omega) (by first | assumption | omega)) 0 rfl rfl [0, 1, 2, 3, 4, 5, 6, 7, 8, 9, 10, 11] rfl rfl (Nat.le_of_ble_eq_true rfl) ⟨Nat.le_of_ble_eq_true rfl, Nat.le_of_ble_eq_true rfl⟩ ⟨Nat.le_of_ble_eq_true rfl, Nat.le_of_ble_eq_true rfl⟩ rfl dX1_leastFrom_66 rfl (fun r_66_5 h_66_5 => ?_)
            obtain rfl : r_66_5 = nI (fr i + M (pl + 1) (tk ||| fp i)) := h_66_5
            refine g_min (pc' := 72) (v := nI (min be (fr i + M (pl + 1) (tk ||| fp i)))) C mn_RX1_38 wd_mn2 wd_mn3 wd_mn4 (Nat.le_of_ble_eq_true rfl) (Nat.le_of_ble_eq_true rfl) ⟨Nat.le_of_ble_eq_true rfl, Nat.le_of_ble_eq_true rfl⟩ (min_N (by have h := lfN_le (m := M (pl + 1)) (fp := fp) (fr := fr) (pl := pl) (tk := tk) (idl := idl) i; have h2 := hM (pl + 1) tk; omega) (by have h := (hF.2 i (by omega)).2.2; have h2 := hM (pl + 1) (tk ||| fp i); omega)) dX1_leastFrom_69 rfl ?_
            refine g_istore (pc' := 74) (lv' := [(5, .int (nI (min be (fr i + M (pl + 1) (tk ||| fp i))))), (6, .int (nI i)), (0, .ref c0), (1, .int (nI pl)), (2, .int (nI tk)), (3, .ref q0), (4, .int (nI idl))]) C dX1_leastFrom_72 (by decide) rfl rfl ?_
            refine g_iinc (pc' := 77) (v := nI (i + 1)) (lv' := [(6, .int (nI (i + 1))), (5, .int (nI (min be (fr i + M (pl + 1) (tk ||| fp i))))), (0, .ref c0), (1, .int (nI pl)), (2, .int (nI tk)), (3, .ref q0), (4, .int (nI idl))]) C 1 dX1_leastFrom_74 rfl (iincN1 _) (by decide) rfl rfl ?_
            refine g_goto (tgt := 38) C dX1_leastFrom_77 (by decide) ?_
            exact ih_a (i + 1) (min be (fr i + M (pl + 1) (tk ||| fp i))) (by first | assumption | omega) (by simp [lfN, *]) (by omega)
    exact lp_a (cnt + 1) 0 (idl + ((M (pl + 1)) tk)) (Nat.zero_le _) rfl (by omega)
  · refine g_aload_n (pc' := 10) C 0 dX1_leastFrom_9 rfl rfl rfl ?_
    refine g_get (pc' := 13) C fl_RX1_13_1 0 rfl rfl dX1_leastFrom_10 rfl ?_
    refine g_iload_n (pc' := 14) C 1 dX1_leastFrom_13 rfl rfl rfl ?_
    refine g_iconst (pc' := 15) (v := nI 1) C dX1_leastFrom_14 (by decide) rfl ?_
    refine g_iadd (pc' := 16) (v := nI (pl + 1)) C dX1_leastFrom_15 (nI_add _ _) rfl ?_
    refine g_aald2 (pc' := 17) (b := (cr (pl + 1))) C 1 rfl (pl + 1) (by first | assumption | omega) (by decide) (g7_at (by omega)) dX1_leastFrom_16 rfl ?_
    refine g_iload_n (pc' := 18) C 2 dX1_leastFrom_17 rfl rfl rfl ?_
    refine g_ialdN (pc' := 19) C (2 + (pl + 1)) (f := (M (pl + 1))) (row7 (κ := κ) (cr := cr) (M := M) (X := [(c0, .inr (1, [.ref c1, .ref c2])), (c1, .inl (κ.2 3, 7, .inr (.inr (.inr (.inr (g7 cr))))))]) (Y := [(q0, .inr (6, [.ref q1, .ref q2, .ref q3, .int (nI cnt)])), (q2, .inl (κ.2 0, 120, .inl (nA fp))), (q3, .inl (κ.2 0, 120, .inl (nA fr)))]) (b := 2) rfl rfl (by omega)) tk (by first | assumption | omega) (by decide) dX1_leastFrom_18 rfl ?_
    exact g_retP C rfl rfl (show nI ((M (pl + 1)) tk) = nI (lfR (M (pl + 1)) fp fr cnt pl tk idl) by rw [lfR, if_pos (tb_t c_6_1)]) dX1_leastFrom_19

set_option maxHeartbeats 4000000 in
set_option maxRecDepth 100000 in
theorem kX1_leastCost (l : Launch) (κ : KK) (c0 : Nat) (c1 : Nat) (c2 : Nat) (cr : Nat → Nat) (M : Nat → Nat → Nat) : CP l yX1_leastCost cX1_leastCost 1 (some .int) 0 κ [.ref c0] [(c0, .inr (1, [.ref c1, .ref c2])), (c1, .inl (κ.2 3, 7, .inr (.inr (.inr (.inr (g7 cr)))))), ((cr 0), .inl (κ.2 0, 64, .inl (nA (M 0)))), ((cr 1), .inl (κ.2 0, 64, .inl (nA (M 1)))), ((cr 2), .inl (κ.2 0, 64, .inl (nA (M 2)))), ((cr 3), .inl (κ.2 0, 64, .inl (nA (M 3)))), ((cr 4), .inl (κ.2 0, 64, .inl (nA (M 4)))), ((cr 5), .inl (κ.2 0, 64, .inl (nA (M 5)))), ((cr 6), .inl (κ.2 0, 64, .inl (nA (M 6))))] (fun vr_ => vr_ = nI (M 0 0)) := by
  refine cp_of RX1 rfl (by decide) (Nat.le_of_ble_eq_true rfl) ?_
  intro p e s m below meth c C
  refine g_lv (lv' := [(0, .ref c0)]) [0] rfl ?_
  refine g_aload_n (pc' := 1) C 0 dX1_leastCost_0 rfl rfl rfl ?_
  refine g_get (pc' := 4) C fl_RX1_13_1 0 rfl rfl dX1_leastCost_1 rfl ?_
  refine g_iconst (pc' := 5) (v := nI 0) C dX1_leastCost_4 (by decide) rfl ?_
  refine g_aald2 (pc' := 6) (b := (cr 0)) C 1 rfl 0 (by first | assumption | omega) (by decide) (g7_at (by decide)) dX1_leastCost_5 rfl ?_
  refine g_iconst (pc' := 7) (v := nI 0) C dX1_leastCost_6 (by decide) rfl ?_
  refine g_ialdN (pc' := 8) C 2 (f := (M 0)) rfl 0 (by first | assumption | omega) (by decide) dX1_leastCost_7 rfl ?_
  exact g_retP C rfl rfl (show nI ((M 0) 0) = nI (M 0 0) by rfl) dX1_leastCost_8

set_option maxHeartbeats 4000000 in
set_option maxRecDepth 100000 in
theorem kX1_bestFrom (l : Launch) (κ : KK) (c0 : Nat) (c1 : Nat) (c2 : Nat) (cr : Nat → Nat) (M : Nat → Nat → Nat) (q0 : Nat) (q1 : Nat) (q2 : Nat) (q3 : Nat) (cnt : Nat) (fp : Nat → Nat) (fr : Nat → Nat) (pl : Nat) (tk : Nat) (hF : FW cnt fp fr) (hM : MW M) (hpl : pl < 6) (htk : tk < 64) : CP l yX1_bestFrom cX1_bestFrom 5 (some .int) 3 κ [.ref c0, .int (nI pl), .int (nI tk), .ref q0] [(c0, .inr (1, [.ref c1, .ref c2])), (c1, .inl (κ.2 3, 7, .inr (.inr (.inr (.inr (g7 cr)))))), ((cr 0), .inl (κ.2 0, 64, .inl (nA (M 0)))), ((cr 1), .inl (κ.2 0, 64, .inl (nA (M 1)))), ((cr 2), .inl (κ.2 0, 64, .inl (nA (M 2)))), ((cr 3), .inl (κ.2 0, 64, .inl (nA (M 3)))), ((cr 4), .inl (κ.2 0, 64, .inl (nA (M 4)))), ((cr 5), .inl (κ.2 0, 64, .inl (nA (M 5)))), ((cr 6), .inl (κ.2 0, 64, .inl (nA (M 6)))), (q0, .inr (6, [.ref q1, .ref q2, .ref q3, .int (nI cnt)])), (q2, .inl (κ.2 0, 120, .inl (nA fp))), (q3, .inl (κ.2 0, 120, .inl (nA fr)))] (fun vr_ => vr_ = oI (bfAt M fp fr cnt pl tk)) := by
  refine cp_of RX1 rfl (by decide) (Nat.le_of_ble_eq_true rfl) ?_
  intro p e s m below meth c C
  refine g_lv (lv' := [(0, .ref c0), (1, .int (nI pl)), (2, .int (nI tk)), (3, .ref q0)]) [0, 1, 2, 3] rfl ?_
  have hc : cnt ≤ 120 := hF.1
  refine g_iconst (pc' := 1) (v := nI 0) C dX1_bestFrom_0 (by decide) rfl ?_
  refine g_istore (pc' := 3) (lv' := [(4, .int (nI 0)), (0, .ref c0), (1, .int (nI pl)), (2, .int (nI tk)), (3, .ref q0)]) C dX1_bestFrom_1 (by decide) rfl rfl ?_
  have lp_a : ∀ (fu_a : Nat) (i : Nat), (i ≤ cnt) → (∀ j, j < i → bP (M (pl + 1)) fp fr pl tk (M pl tk) j = false) → (cnt - i) < fu_a → G p l e (rmv 3 0 0) s m ([.ref c0, .int (nI pl), .int (nI tk), .ref q0] : List Value).toArray below meth c κ 5 (JP s) [(c0, .inr (1, [.ref c1, .ref c2])), (c1, .inl (κ.2 3, 7, .inr (.inr (.inr (.inr (g7 cr)))))), ((cr 0), .inl (κ.2 0, 64, .inl (nA (M 0)))), ((cr 1), .inl (κ.2 0, 64, .inl (nA (M 1)))), ((cr 2), .inl (κ.2 0, 64, .inl (nA (M 2)))), ((cr 3), .inl (κ.2 0, 64, .inl (nA (M 3)))), ((cr 4), .inl (κ.2 0, 64, .inl (nA (M 4)))), ((cr 5), .inl (κ.2 0, 64, .inl (nA (M 5)))), ((cr 6), .inl (κ.2 0, 64, .inl (nA (M 6)))), (q0, .inr (6, [.ref q1, .ref q2, .ref q3, .int (nI cnt)])), (q2, .inl (κ.2 0, 120, .inl (nA fp))), (q3, .inl (κ.2 0, 120, .inl (nA fr)))] 0 0 (MQ below (vp_Si (fun vr_ => vr_ = oI (bfAt M fp fr cnt pl tk))) ([.ref c0, .int (nI pl), .int (nI tk), .ref q0] : List Value).toArray s 0 0 (fun _ => False)) 3 [(4, .int (nI i)), (0, .ref c0), (1, .int (nI pl)), (2, .int (nI tk)), (3, .ref q0)] [] := by
    intro fu_a
    induction fu_a with
    | zero => intro i hi hno hmu; exact absurd hmu (Nat.not_lt_zero _)
    | succ fu_a ih_a =>
      intro i hi hno hmu_a
      refine g_iload (pc' := 5) C 0 dX1_bestFrom_3 rfl rfl ?_
      refine g_aload_n (pc' := 6) C 4 dX1_bestFrom_5 rfl rfl rfl ?_
      refine g_getN (pc' := 9) C fl_RX1_24_6 9 rfl rfl dX1_bestFrom_6 rfl ?_
      refine g_icmp_geN (pc' := 12) (tgt := 52) C (by first | assumption | omega) (by first | assumption | omega) dX1_bestFrom_9 (by decide) rfl (fun c_9_1 => ?_) (fun c_9_1 => ?_)
      · refine g_iconst (pc' := 53) (v := (-1)) C dX1_bestFrom_52 (by decide) rfl ?_
        exact g_retP C rfl rfl (show (-1) = oI (bfAt M fp fr cnt pl tk) by have e : i = cnt := (by omega); subst e; rw [bfAt, firstB_none hno]; rfl) dX1_bestFrom_53
      · refine g_aload_n (pc' := 13) C 4 dX1_bestFrom_12 rfl rfl rfl ?_
        refine g_iload (pc' := 15) C 0 dX1_bestFrom_13 rfl rfl ?_
        refine g_iload_n (pc' := 16) C 2 dX1_bestFrom_15 rfl rfl rfl ?_
        refine g_iload_n (pc' := 17) C 3 dX1_bestFrom_16 rfl rfl rfl ?_
        refine g_callP (pc' := 20) C lk_RX1_30 (kX7_fitsFrom l κ q0 q1 q2 q3 cnt fp i pl tk (by first | assumption | omega) (by first | assumption | omega) (hF.2 i (by omega)).1 (hF.2 i (by omega)).2.1 (by first | assumption | omega)) 9 rfl rfl [9, 10] rfl rfl (Nat.le_of_ble_eq_true rfl) ⟨Nat.le_of_ble_eq_true rfl, Nat.le_of_ble_eq_true rfl⟩ ⟨Nat.le_of_ble_eq_true rfl, Nat.le_of_ble_eq_true rfl⟩ rfl dX1_bestFrom_17 rfl (fun r_17_2 h_17_2 => ?_)
        obtain rfl : r_17_2 = b2i (fits (fp i) pl tk) := h_17_2
        refine g_if_eqB (pc' := 23) (tgt := 46) C dX1_bestFrom_20 (by decide) rfl (fun c_20_3 => ?_) (fun c_20_3 => ?_)
        · refine g_iinc (pc' := 49) (v := nI (i + 1)) (lv' := [(4, .int (nI (i + 1))), (0, .ref c0), (1, .int (nI pl)), (2, .int (nI tk)), (3, .ref q0)]) C 0 dX1_bestFrom_46 rfl (iincN1 _) (by decide) rfl rfl ?_
          refine g_goto (tgt := 3) C dX1_bestFrom_49 (by decide) ?_
          exact ih_a (i + 1) (by first | assumption | omega) (lt_s hno (by simp [bP, c_20_3])) (by omega)
        · refine g_aload_n (pc' := 24) C 1 dX1_bestFrom_23 rfl rfl rfl ?_
          refine g_iload (pc' := 26) C 0 dX1_bestFrom_24 rfl rfl ?_
          refine g_iload_n (pc' := 27) C 2 dX1_bestFrom_26 rfl rfl rfl ?_
          refine g_iload_n (pc' := 28) C 3 dX1_bestFrom_27 rfl rfl rfl ?_
          refine g_aload_n (pc' := 29) C 4 dX1_bestFrom_28 rfl rfl rfl ?_
          refine g_callP (pc' := 32) C lk_RX1_34 (kX1_costWith l κ c0 c1 c2 cr M q0 q1 q2 q3 cnt fp fr i pl tk (by first | assumption | omega) (by first | assumption | omega) (by first | assumption | omega) (by first | assumption | omega)) 0 rfl rfl [0, 1, 2, 3, 4, 5, 6, 7, 8, 9, 10, 11] rfl rfl (Nat.le_of_ble_eq_true rfl) ⟨Nat.le_of_ble_eq_true rfl, Nat.le_of_ble_eq_true rfl⟩ ⟨Nat.le_of_ble_eq_true rfl, Nat.le_of_ble_eq_true rfl⟩ rfl dX1_bestFrom_29 rfl (fun r_29_4 h_29_4 => ?_)
          obtain rfl : r_29_4 = nI (fr i + M (pl + 1) (tk ||| fp i)) := h_29_4
          refine g_aload_n (pc' := 33) C 1 dX1_bestFrom_32 rfl rfl rfl ?_
          refine g_get (pc' := 36) C fl_RX1_13_1 0 rfl rfl dX1_bestFrom_33 rfl ?_
          refine g_iload_n (pc' := 37) C 2 dX1_bestFrom_36 rfl rfl rfl ?_
          refine g_aald2 (pc' := 38) (b := (cr pl)) C 1 rfl pl (by first | assumption | omega) (by decide) (g7_at (by omega)) dX1_bestFrom_37 rfl ?_
          refine g_iload_n (pc' := 39) C 3 dX1_bestFrom_38 rfl rfl rfl ?_
          refine g_ialdN (pc' := 40) C (2 + pl) (f := (M pl)) (row7 (κ := κ) (cr := cr) (M := M) (X := [(c0, .inr (1, [.ref c1, .ref c2])), (c1, .inl (κ.2 3, 7, .inr (.inr (.inr (.inr (g7 cr))))))]) (Y := [(q0, .inr (6, [.ref q1, .ref q2, .ref q3, .int (nI cnt)])), (q2, .inl (κ.2 0, 120, .inl (nA fp))), (q3, .inl (κ.2 0, 120, .inl (nA fr)))]) (b := 2) rfl rfl (by omega)) tk (by first | assumption | omega) (by decide) dX1_bestFrom_39 rfl ?_
          refine g_icmp_neN (pc' := 43) (tgt := 46) C (by have h := (hF.2 i (by omega)).2.2; have h2 := hM (pl + 1) (tk ||| fp i); omega) (by have h2 := hM pl tk; omega) dX1_bestFrom_40 (by decide) rfl (fun c_40_5 => ?_) (fun c_40_5 => ?_)
          · refine g_iinc (pc' := 49) (v := nI (i + 1)) (lv' := [(4, .int (nI (i + 1))), (0, .ref c0), (1, .int (nI pl)), (2, .int (nI tk)), (3, .ref q0)]) C 0 dX1_bestFrom_46 rfl (iincN1 _) (by decide) rfl rfl ?_
            refine g_goto (tgt := 3) C dX1_bestFrom_49 (by decide) ?_
            exact ih_a (i + 1) (by first | assumption | omega) (lt_s hno (by simp [bP, c_40_5])) (by omega)
          · refine g_iload (pc' := 45) C 0 dX1_bestFrom_43 rfl rfl ?_
            exact g_retP C rfl rfl (show nI i = oI (bfAt M fp fr cnt pl tk) by rw [bfAt, firstB_is hno (by simp [bP, c_20_3, c_40_5]) (by omega)]; rfl) dX1_bestFrom_45
  exact lp_a (cnt + 1) 0 (Nat.zero_le _) lt_0 (by omega)

set_option maxHeartbeats 4000000 in
set_option maxRecDepth 100000 in
theorem kX1_mark (l : Launch) (κ : KK) (c0 : Nat) (c1 : Nat) (c2 : Nat) (pk : Nat → Option Nat) (s9 : Nat) (ix : Option Nat) (hs : s9 < 64) : CMv l yX1_mark cX1_mark 4 none 0 0 0 κ [.ref c0, .int (nI s9), .int (oI ix)] [(c0, .inr (1, [.ref c1, .ref c2])), (c2, .inl (κ.2 0, 6, .inl (oA pk)))] (fun (vw_ : va_W) => vw_ = [(c0, .inr (1, [.ref c1, .ref c2])), (c2, .inl (κ.2 0, 6, .inl (oA (mkP pk s9 ix 6))))]) := by
  refine cmv_of RX1 rfl (by decide) (Nat.le_of_ble_eq_true rfl) ?_
  intro p e s m below meth c A C hAe hA hini
  refine g_lv (lv' := [(0, .ref c0), (1, .int (nI s9)), (2, .int (oI ix))]) [0, 1, 2] rfl ?_
  refine g_iconst (pc' := 1) (v := nI 0) C dX1_mark_0 (by decide) rfl ?_
  refine g_istore_n (pc' := 2) (lv' := [(3, .int (nI 0)), (0, .ref c0), (1, .int (nI s9)), (2, .int (oI ix))]) C dX1_mark_1 rfl (by decide) rfl rfl ?_
  have lp_a : ∀ (fu_a : Nat) (i : Nat) (pl : Nat → Option Nat), (i ≤ 6) → (pl = mkP pk s9 ix i) → (6 - i) < fu_a → G p l e (rmv 0 0 0) s m ([.ref c0, .int (nI s9), .int (oI ix)] : List Value).toArray below meth c κ 4 (JM A s) [(c0, .inr (1, [.ref c1, .ref c2])), (c2, .inl (κ.2 0, 6, .inl (oA pl)))] 0 0 (MQ below (QMv κ [(c0, .inr (1, [.ref c1, .ref c2])), (c2, .inl (κ.2 0, 6, .inl (oA pk)))] s.heap.size (fun (vw_ : va_W) => vw_ = [(c0, .inr (1, [.ref c1, .ref c2])), (c2, .inl (κ.2 0, 6, .inl (oA (mkP pk s9 ix 6))))])) ([.ref c0, .int (nI s9), .int (oI ix)] : List Value).toArray s 0 0 A) 2 [(3, .int (nI i)), (0, .ref c0), (1, .int (nI s9)), (2, .int (oI ix))] [] := by
    intro fu_a
    induction fu_a with
    | zero => intro i pl hi hp hmu; exact absurd hmu (Nat.not_lt_zero _)
    | succ fu_a ih_a =>
      intro i pl hi hp hmu_a
      refine g_iload_n (pc' := 3) C 0 dX1_mark_2 rfl rfl rfl ?_
      refine g_bipush (pc' := 5) (v := nI 6) C dX1_mark_3 (by decide) rfl ?_
      refine g_icmp_geN (pc' := 8) (tgt := 30) C (by first | assumption | omega) (by first | assumption | omega) dX1_mark_5 (by decide) rfl (fun c_5_1 => ?_) (fun c_5_1 => ?_)
      · exact g_retMv C hAe rfl (Nat.le_of_ble_eq_true rfl) (Nat.le_of_ble_eq_true rfl) (by have e : i = 6 := (by omega); subst e; rw [hp]) dX1_mark_30
      · refine g_iload_n (pc' := 9) C 2 dX1_mark_8 rfl rfl rfl ?_
        refine g_iload_n (pc' := 10) C 0 dX1_mark_9 rfl rfl rfl ?_
        refine g_ishr (pc' := 11) (v := nI (s9 / 2 ^ i)) C dX1_mark_10 (nI_shr _ _ (by first | assumption | omega) (by first | assumption | omega)) rfl ?_
        refine g_iconst (pc' := 12) (v := nI 1) C dX1_mark_11 (by decide) rfl ?_
        refine g_iand (pc' := 13) (v := nI ((s9 / 2 ^ i) &&& 1)) C dX1_mark_12 (nI_and _ _) rfl ?_
        refine g_iconst (pc' := 14) (v := nI 1) C dX1_mark_13 (by decide) rfl ?_
        refine g_icmp_neN (pc' := 17) (tgt := 24) C (by have h : s9 / 2 ^ i &&& 1 ≤ 1 := Nat.and_le_right; omega) (by first | assumption | omega) dX1_mark_14 (by decide) rfl (fun c_14_2 => ?_) (fun c_14_2 => ?_)
        · refine g_iinc (pc' := 27) (v := nI (i + 1)) (lv' := [(3, .int (nI (i + 1))), (0, .ref c0), (1, .int (nI s9)), (2, .int (oI ix))]) C 0 dX1_mark_24 rfl (iincN1 _) (by decide) rfl rfl ?_
          refine g_goto (tgt := 2) C dX1_mark_27 (by decide) ?_
          exact ih_a (i + 1) pl (by first | assumption | omega) (by rw [mkP, if_neg (tb_n c_14_2), hp]) (by omega)
        · refine g_aload_n (pc' := 18) C 1 dX1_mark_17 rfl rfl rfl ?_
          refine g_get (pc' := 21) C fl_RX1_16_1 0 rfl rfl dX1_mark_18 rfl ?_
          refine g_iload_n (pc' := 22) C 0 dX1_mark_21 rfl rfl rfl ?_
          refine g_iload_n (pc' := 23) C 3 dX1_mark_22 rfl rfl rfl ?_
          refine g_iastO (pc' := 24) (x := ix) (ws' := [(c0, .inr (1, [.ref c1, .ref c2])), (c2, .inl (κ.2 0, 6, .inl (oA (va_up pl i ix))))]) C 1 rfl rfl i (by first | assumption | omega) (by decide) rfl dX1_mark_23 rfl ?_
          refine g_iinc (pc' := 27) (v := nI (i + 1)) (lv' := [(3, .int (nI (i + 1))), (0, .ref c0), (1, .int (nI s9)), (2, .int (oI ix))]) C 0 dX1_mark_24 rfl (iincN1 _) (by decide) rfl rfl ?_
          refine g_goto (tgt := 2) C dX1_mark_27 (by decide) ?_
          exact ih_a (i + 1) (va_up pl i ix) (by first | assumption | omega) (by rw [mkP, if_pos (tb_t c_14_2), hp]) (by omega)
  exact lp_a 7 0 pk (Nat.zero_le _) rfl (by omega)

set_option maxHeartbeats 4000000 in
set_option maxRecDepth 100000 in
theorem kX1_pickAt (l : Launch) (κ : KK) (c0 : Nat) (c1 : Nat) (c2 : Nat) (pk : Nat → Option Nat) (pl : Nat) (hpl : pl < 6) : CP l yX1_pickAt cX1_pickAt 2 (some .int) 0 κ [.ref c0, .int (nI pl)] [(c0, .inr (1, [.ref c1, .ref c2])), (c2, .inl (κ.2 0, 6, .inl (oA pk)))] (fun vr_ => vr_ = oI (pk pl)) := by
  refine cp_of RX1 rfl (by decide) (Nat.le_of_ble_eq_true rfl) ?_
  intro p e s m below meth c C
  refine g_lv (lv' := [(0, .ref c0), (1, .int (nI pl))]) [0, 1] rfl ?_
  refine g_iload_n (pc' := 1) C 1 dX1_pickAt_0 rfl rfl rfl ?_
  refine g_if_ltN (pc' := 4) (tgt := 19) C (by first | assumption | omega) dX1_pickAt_1 (by decide) rfl ?_
  refine g_iload_n (pc' := 5) C 1 dX1_pickAt_4 rfl rfl rfl ?_
  refine g_bipush (pc' := 7) (v := nI 6) C dX1_pickAt_5 (by decide) rfl ?_
  refine g_icmp_geN (pc' := 10) (tgt := 19) C (by first | assumption | omega) (by first | assumption | omega) dX1_pickAt_7 (by decide) rfl (fun c_7_2 => absurd c_7_2 (by omega)) (fun c_7_2 => ?_)
  refine g_aload_n (pc' := 11) C 0 dX1_pickAt_10 rfl rfl rfl ?_
  refine g_get (pc' := 14) C fl_RX1_16_1 0 rfl rfl dX1_pickAt_11 rfl ?_
  refine g_iload_n (pc' := 15) C 1 dX1_pickAt_14 rfl rfl rfl ?_
  refine g_ialdO (pc' := 16) C 1 (f := pk) rfl pl (by first | assumption | omega) (by decide) dX1_pickAt_15 rfl ?_
  refine g_goto (tgt := 20) C dX1_pickAt_16 (by decide) ?_
  exact g_retP C rfl rfl (show oI (pk pl) = oI (pk pl) by rfl) dX1_pickAt_20
end
section
set_option maxHeartbeats 4000000 in
set_option maxRecDepth 100000 in
theorem kX1_weigh (l : Launch) (κ : KK) (c0 : Nat) (c1 : Nat) (c2 : Nat) (cr : Nat → Nat) (M : Nat → Nat → Nat) (q0 : Nat) (q1 : Nat) (q2 : Nat) (q3 : Nat) (cnt : Nat) (fp : Nat → Nat) (fr : Nat → Nat) (size : Nat) (bare : Nat) (hF : FW cnt fp fr) (hM : MW M) (h6 : ∀ u, M 6 u = 0) (hsz : size ≤ 6) (hba : bare ≤ 50) : CMv l yX1_weigh cX1_weigh 7 none 4 0 0 κ [.ref c0, .ref q0, .int (nI size), .int (nI bare)] [(c0, .inr (1, [.ref c1, .ref c2])), (c1, .inl (κ.2 3, 7, .inr (.inr (.inr (.inr (g7 cr)))))), ((cr 0), .inl (κ.2 0, 64, .inl (nA (M 0)))), ((cr 1), .inl (κ.2 0, 64, .inl (nA (M 1)))), ((cr 2), .inl (κ.2 0, 64, .inl (nA (M 2)))), ((cr 3), .inl (κ.2 0, 64, .inl (nA (M 3)))), ((cr 4), .inl (κ.2 0, 64, .inl (nA (M 4)))), ((cr 5), .inl (κ.2 0, 64, .inl (nA (M 5)))), ((cr 6), .inl (κ.2 0, 64, .inl (nA (M 6)))), (q0, .inr (6, [.ref q1, .ref q2, .ref q3, .int (nI cnt)])), (q2, .inl (κ.2 0, 120, .inl (nA fp))), (q3, .inl (κ.2 0, 120, .inl (nA fr)))] (fun (vw_ : va_W) => ∃ (M9 : Nat → Nat → Nat), (MW M9) ∧ (∀ u, M9 6 u = 0) ∧ (∀ k, k ≤ 6 - 0 → ∀ u, u < 64 → M9 (6 - k) u = optR fp fr cnt size bare k u) ∧ vw_ = [(c0, .inr (1, [.ref c1, .ref c2])), (c1, .inl (κ.2 3, 7, .inr (.inr (.inr (.inr (g7 cr)))))), ((cr 0), .inl (κ.2 0, 64, .inl (nA (M9 0)))), ((cr 1), .inl (κ.2 0, 64, .inl (nA (M9 1)))), ((cr 2), .inl (κ.2 0, 64, .inl (nA (M9 2)))), ((cr 3), .inl (κ.2 0, 64, .inl (nA (M9 3)))), ((cr 4), .inl (κ.2 0, 64, .inl (nA (M9 4)))), ((cr 5), .inl (κ.2 0, 64, .inl (nA (M9 5)))), ((cr 6), .inl (κ.2 0, 64, .inl (nA (M9 6)))), (q0, .inr (6, [.ref q1, .ref q2, .ref q3, .int (nI cnt)])), (q2, .inl (κ.2 0, 120, .inl (nA fp))), (q3, .inl (κ.2 0, 120, .inl (nA fr)))]) := by
  refine cmv_of RX1 rfl (by decide) (Nat.le_of_ble_eq_true rfl) ?_
  intro p e s m below meth c A C hAe hA hini
  refine g_lv (lv' := [(0, .ref c0), (1, .ref q0), (2, .int (nI size)), (3, .int (nI bare))]) [0, 1, 2, 3] rfl ?_
  have hc : cnt ≤ 120 := hF.1
  refine g_iconst (pc' := 1) (v := nI 5) C dX1_weigh_0 (by decide) rfl ?_
  refine g_istore (pc' := 3) (lv' := [(4, .int (nI 5)), (0, .ref c0), (1, .ref q0), (2, .int (nI size)), (3, .int (nI bare))]) C dX1_weigh_1 (by decide) rfl rfl ?_
  have lp_a : ∀ (fu_a : Nat) (j : Nat) (x : Int32) (M8 : Nat → Nat → Nat), (x = nI j - 1) → (j ≤ 6) → (MW M8) → (∀ u, M8 6 u = 0) → (∀ k, k ≤ 6 - j → ∀ u, u < 64 → M8 (6 - k) u = optR fp fr cnt size bare k u) → j < fu_a → G p l e (rmv 4 0 0) s m ([.ref c0, .ref q0, .int (nI size), .int (nI bare)] : List Value).toArray below meth c κ 7 (JM A s) [(c0, .inr (1, [.ref c1, .ref c2])), (c1, .inl (κ.2 3, 7, .inr (.inr (.inr (.inr (g7 cr)))))), ((cr 0), .inl (κ.2 0, 64, .inl (nA (M8 0)))), ((cr 1), .inl (κ.2 0, 64, .inl (nA (M8 1)))), ((cr 2), .inl (κ.2 0, 64, .inl (nA (M8 2)))), ((cr 3), .inl (κ.2 0, 64, .inl (nA (M8 3)))), ((cr 4), .inl (κ.2 0, 64, .inl (nA (M8 4)))), ((cr 5), .inl (κ.2 0, 64, .inl (nA (M8 5)))), ((cr 6), .inl (κ.2 0, 64, .inl (nA (M8 6)))), (q0, .inr (6, [.ref q1, .ref q2, .ref q3, .int (nI cnt)])), (q2, .inl (κ.2 0, 120, .inl (nA fp))), (q3, .inl (κ.2 0, 120, .inl (nA fr)))] 0 0 (MQ below (QMv κ [(c0, .inr (1, [.ref c1, .ref c2])), (c1, .inl (κ.2 3, 7, .inr (.inr (.inr (.inr (g7 cr)))))), ((cr 0), .inl (κ.2 0, 64, .inl (nA (M 0)))), ((cr 1), .inl (κ.2 0, 64, .inl (nA (M 1)))), ((cr 2), .inl (κ.2 0, 64, .inl (nA (M 2)))), ((cr 3), .inl (κ.2 0, 64, .inl (nA (M 3)))), ((cr 4), .inl (κ.2 0, 64, .inl (nA (M 4)))), ((cr 5), .inl (κ.2 0, 64, .inl (nA (M 5)))), ((cr 6), .inl (κ.2 0, 64, .inl (nA (M 6)))), (q0, .inr (6, [.ref q1, .ref q2, .ref q3, .int (nI cnt)])), (q2, .inl (κ.2 0, 120, .inl (nA fp))), (q3, .inl (κ.2 0, 120, .inl (nA fr)))] s.heap.size (fun (vw_ : va_W) => ∃ (M9 : Nat → Nat → Nat), (MW M9) ∧ (∀ u, M9 6 u = 0) ∧ (∀ k, k ≤ 6 - 0 → ∀ u, u < 64 → M9 (6 - k) u = optR fp fr cnt size bare k u) ∧ vw_ = [(c0, .inr (1, [.ref c1, .ref c2])), (c1, .inl (κ.2 3, 7, .inr (.inr (.inr (.inr (g7 cr)))))), ((cr 0), .inl (κ.2 0, 64, .inl (nA (M9 0)))), ((cr 1), .inl (κ.2 0, 64, .inl (nA (M9 1)))), ((cr 2), .inl (κ.2 0, 64, .inl (nA (M9 2)))), ((cr 3), .inl (κ.2 0, 64, .inl (nA (M9 3)))), ((cr 4), .inl (κ.2 0, 64, .inl (nA (M9 4)))), ((cr 5), .inl (κ.2 0, 64, .inl (nA (M9 5)))), ((cr 6), .inl (κ.2 0, 64, .inl (nA (M9 6)))), (q0, .inr (6, [.ref q1, .ref q2, .ref q3, .int (nI cnt)])), (q2, .inl (κ.2 0, 120, .inl (nA fp))), (q3, .inl (κ.2 0, 120, .inl (nA fr)))])) ([.ref c0, .ref q0, .int (nI size), .int (nI bare)] : List Value).toArray s 0 0 A) 3 [(4, .int x), (0, .ref c0), (1, .ref q0), (2, .int (nI size)), (3, .int (nI bare))] [] := by
    intro fu_a
    induction fu_a with
    | zero => intro j x M8 hx hj hM8 h68 ho8 hmu; exact absurd hmu (Nat.not_lt_zero _)
    | succ fu_a ih_a =>
      intro j x M8 hx hj hM8 h68 ho8 hmu_a
      refine g_iload (pc' := 5) C 0 dX1_weigh_3 rfl rfl ?_
      refine g_if_lt (pc' := 8) (tgt := 64) C dX1_weigh_5 (by decide) rfl (fun c_5_1 => ?_) (fun c_5_1 => ?_)
      · exact g_retMv C hAe rfl (Nat.le_of_ble_eq_true rfl) (Nat.le_of_ble_eq_true rfl) (by have e : j = 0 := down_0 hx c_5_1 hj; subst e; exact ⟨M8, hM8, h68, ho8, rfl⟩) dX1_weigh_64
      · obtain ⟨pl, rfl, rfl⟩ := down_s hx c_5_1
        refine g_iload (pc' := 10) C 0 dX1_weigh_8 rfl rfl ?_
        refine g_iload_n (pc' := 11) C 3 dX1_weigh_10 rfl rfl rfl ?_
        refine g_icmp_geN (pc' := 14) (tgt := 18) C (by first | assumption | omega) (by first | assumption | omega) dX1_weigh_11 (by decide) rfl (fun c_11_2 => ?_) (fun c_11_2 => ?_)
        · refine g_iconst (pc' := 19) (v := nI 0) C dX1_weigh_18 (by decide) rfl ?_
          refine g_istore (pc' := 21) (lv' := [(5, .int (nI 0)), (4, .int (nI pl)), (0, .ref c0), (1, .ref q0), (2, .int (nI size)), (3, .int (nI bare))]) C dX1_weigh_19 (by decide) rfl rfl ?_
          refine g_iconst (pc' := 22) (v := nI 0) C dX1_weigh_21 (by decide) rfl ?_
          refine g_istore (pc' := 24) (lv' := [(6, .int (nI 0)), (5, .int (nI 0)), (4, .int (nI pl)), (0, .ref c0), (1, .ref q0), (2, .int (nI size)), (3, .int (nI bare))]) C dX1_weigh_22 (by decide) rfl rfl ?_
          have lp_b3 : ∀ (fu_b3 : Nat) (t : Nat) (M7 : Nat → Nat → Nat), (t ≤ 64) → (MW M7) → (∀ u, M7 6 u = 0) → (∀ u, u < t → M7 pl u = optR fp fr cnt size bare (6 - pl) u) → (∀ i, i ≠ pl → M7 i = M8 i) → (64 - t) < fu_b3 → G p l e (rmv 4 0 0) s m ([.ref c0, .ref q0, .int (nI size), .int (nI bare)] : List Value).toArray below meth c κ 7 (JM A s) [(c0, .inr (1, [.ref c1, .ref c2])), (c1, .inl (κ.2 3, 7, .inr (.inr (.inr (.inr (g7 cr)))))), ((cr 0), .inl (κ.2 0, 64, .inl (nA (M7 0)))), ((cr 1), .inl (κ.2 0, 64, .inl (nA (M7 1)))), ((cr 2), .inl (κ.2 0, 64, .inl (nA (M7 2)))), ((cr 3), .inl (κ.2 0, 64, .inl (nA (M7 3)))), ((cr 4), .inl (κ.2 0, 64, .inl (nA (M7 4)))), ((cr 5), .inl (κ.2 0, 64, .inl (nA (M7 5)))), ((cr 6), .inl (κ.2 0, 64, .inl (nA (M7 6)))), (q0, .inr (6, [.ref q1, .ref q2, .ref q3, .int (nI cnt)])), (q2, .inl (κ.2 0, 120, .inl (nA fp))), (q3, .inl (κ.2 0, 120, .inl (nA fr)))] 0 0 (MQ below (QMv κ [(c0, .inr (1, [.ref c1, .ref c2])), (c1, .inl (κ.2 3, 7, .inr (.inr (.inr (.inr (g7 cr)))))), ((cr 0), .inl (κ.2 0, 64, .inl (nA (M 0)))), ((cr 1), .inl (κ.2 0, 64, .inl (nA (M 1)))), ((cr 2), .inl (κ.2 0, 64, .inl (nA (M 2)))), ((cr 3), .inl (κ.2 0, 64, .inl (nA (M 3)))), ((cr 4), .inl (κ.2 0, 64, .inl (nA (M 4)))), ((cr 5), .inl (κ.2 0, 64, .inl (nA (M 5)))), ((cr 6), .inl (κ.2 0, 64, .inl (nA (M 6)))), (q0, .inr (6, [.ref q1, .ref q2, .ref q3, .int (nI cnt)])), (q2, .inl (κ.2 0, 120, .inl (nA fp))), (q3, .inl (κ.2 0, 120, .inl (nA fr)))] s.heap.size (fun (vw_ : va_W) => ∃ (M9 : Nat → Nat → Nat), (MW M9) ∧ (∀ u, M9 6 u = 0) ∧ (∀ k, k ≤ 6 - 0 → ∀ u, u < 64 → M9 (6 - k) u = optR fp fr cnt size bare k u) ∧ vw_ = [(c0, .inr (1, [.ref c1, .ref c2])), (c1, .inl (κ.2 3, 7, .inr (.inr (.inr (.inr (g7 cr)))))), ((cr 0), .inl (κ.2 0, 64, .inl (nA (M9 0)))), ((cr 1), .inl (κ.2 0, 64, .inl (nA (M9 1)))), ((cr 2), .inl (κ.2 0, 64, .inl (nA (M9 2)))), ((cr 3), .inl (κ.2 0, 64, .inl (nA (M9 3)))), ((cr 4), .inl (κ.2 0, 64, .inl (nA (M9 4)))), ((cr 5), .inl (κ.2 0, 64, .inl (nA (M9 5)))), ((cr 6), .inl (κ.2 0, 64, .inl (nA (M9 6)))), (q0, .inr (6, [.ref q1, .ref q2, .ref q3, .int (nI cnt)])), (q2, .inl (κ.2 0, 120, .inl (nA fp))), (q3, .inl (κ.2 0, 120, .inl (nA fr)))])) ([.ref c0, .ref q0, .int (nI size), .int (nI bare)] : List Value).toArray s 0 0 A) 24 [(6, .int (nI t)), (5, .int (nI 0)), (4, .int (nI pl)), (0, .ref c0), (1, .ref q0), (2, .int (nI size)), (3, .int (nI bare))] [] := by
            intro fu_b3
            induction fu_b3 with
            | zero => intro t M7 ht hM7 h67 hrow hoth hmu; exact absurd hmu (Nat.not_lt_zero _)
            | succ fu_b3 ih_b3 =>
              intro t M7 ht hM7 h67 hrow hoth hmu_b3
              refine g_iload (pc' := 26) C 0 dX1_weigh_24 rfl rfl ?_
              refine g_bipush (pc' := 28) (v := nI 64) C dX1_weigh_26 (by decide) rfl ?_
              refine g_icmp_geN (pc' := 31) (tgt := 58) C (by first | assumption | omega) (by first | assumption | omega) dX1_weigh_28 (by decide) rfl (fun c_28_4 => ?_) (fun c_28_4 => ?_)
              · refine g_iinc (pc' := 61) (v := (nI pl) + (-1)) (lv' := [(4, .int ((nI pl) + (-1))), (6, .int (nI t)), (5, .int (nI 0)), (0, .ref c0), (1, .ref q0), (2, .int (nI size)), (3, .int (nI bare))]) C 2 dX1_weigh_58 rfl rfl (by decide) rfl rfl ?_
                refine g_goto (tgt := 3) C dX1_weigh_61 (by decide) ?_
                refine g_lv (lv' := [(4, .int ((nI pl) + (-1))), (0, .ref c0), (1, .ref q0), (2, .int (nI size)), (3, .int (nI bare))]) [0, 3, 4, 5, 6] rfl ?_
                exact ih_a pl ((nI pl) + (-1)) M7 (nI_pm1 pl) (by omega) (by first | assumption | omega) (by first | assumption | omega) (weigh_o (by omega) hoth (by have e : t = 64 := (by omega); subst e; exact hrow) ho8) (by omega)
              · refine g_aload_n (pc' := 32) C 3 dX1_weigh_31 rfl rfl rfl ?_
                refine g_get (pc' := 35) C fl_RX1_13_1 0 rfl rfl dX1_weigh_32 rfl ?_
                refine g_iload (pc' := 37) C 2 dX1_weigh_35 rfl rfl ?_
                refine g_aald2 (pc' := 38) (b := (cr pl)) C 1 rfl pl (by first | assumption | omega) (by decide) (g7_at (by omega)) dX1_weigh_37 rfl ?_
                refine g_iload (pc' := 40) C 0 dX1_weigh_38 rfl rfl ?_
                refine g_aload_n (pc' := 41) C 3 dX1_weigh_40 rfl rfl rfl ?_
                refine g_iload (pc' := 43) C 2 dX1_weigh_41 rfl rfl ?_
                refine g_iload (pc' := 45) C 0 dX1_weigh_43 rfl rfl ?_
                refine g_aload_n (pc' := 46) C 4 dX1_weigh_45 rfl rfl rfl ?_
                refine g_iload (pc' := 48) C 1 dX1_weigh_46 rfl rfl ?_
                refine g_callP (pc' := 51) C lk_RX1_20 (kX1_leastFrom l κ c0 c1 c2 cr M7 q0 q1 q2 q3 cnt fp fr pl t 0 (by first | assumption | omega) (by first | assumption | omega) (by first | assumption | omega) (by first | assumption | omega) (by omega)) 0 rfl rfl [0, 1, 2, 3, 4, 5, 6, 7, 8, 9, 10, 11] rfl rfl (Nat.le_of_ble_eq_true rfl) ⟨Nat.le_of_ble_eq_true rfl, Nat.le_of_ble_eq_true rfl⟩ ⟨Nat.le_of_ble_eq_true rfl, Nat.le_of_ble_eq_true rfl⟩ rfl dX1_weigh_48 rfl (fun r_48_5 h_48_5 => ?_)
                obtain rfl : r_48_5 = nI (lfR (M7 (pl + 1)) fp fr cnt pl t 0) := h_48_5
                refine g_iastN (pc' := 52) (ws' := [(c0, .inr (1, [.ref c1, .ref c2])), (c1, .inl (κ.2 3, 7, .inr (.inr (.inr (.inr (g7 cr)))))), ((cr 0), .inl (κ.2 0, 64, .inl (nA ((va_up M7 pl (va_up (M7 pl) t (lfR (M7 (pl + 1)) fp fr cnt pl t 0))) 0)))), ((cr 1), .inl (κ.2 0, 64, .inl (nA ((va_up M7 pl (va_up (M7 pl) t (lfR (M7 (pl + 1)) fp fr cnt pl t 0))) 1)))), ((cr 2), .inl (κ.2 0, 64, .inl (nA ((va_up M7 pl (va_up (M7 pl) t (lfR (M7 (pl + 1)) fp fr cnt pl t 0))) 2)))), ((cr 3), .inl (κ.2 0, 64, .inl (nA ((va_up M7 pl (va_up (M7 pl) t (lfR (M7 (pl + 1)) fp fr cnt pl t 0))) 3)))), ((cr 4), .inl (κ.2 0, 64, .inl (nA ((va_up M7 pl (va_up (M7 pl) t (lfR (M7 (pl + 1)) fp fr cnt pl t 0))) 4)))), ((cr 5), .inl (κ.2 0, 64, .inl (nA ((va_up M7 pl (va_up (M7 pl) t (lfR (M7 (pl + 1)) fp fr cnt pl t 0))) 5)))), ((cr 6), .inl (κ.2 0, 64, .inl (nA ((va_up M7 pl (va_up (M7 pl) t (lfR (M7 (pl + 1)) fp fr cnt pl t 0))) 6)))), (q0, .inr (6, [.ref q1, .ref q2, .ref q3, .int (nI cnt)])), (q2, .inl (κ.2 0, 120, .inl (nA fp))), (q3, .inl (κ.2 0, 120, .inl (nA fr)))]) C (2 + pl) (f := (M7 pl)) (row7 (κ := κ) (cr := cr) (M := M7) (X := [(c0, .inr (1, [.ref c1, .ref c2])), (c1, .inl (κ.2 3, 7, .inr (.inr (.inr (.inr (g7 cr))))))]) (Y := [(q0, .inr (6, [.ref q1, .ref q2, .ref q3, .int (nI cnt)])), (q2, .inl (κ.2 0, 120, .inl (nA fp))), (q3, .inl (κ.2 0, 120, .inl (nA fr)))]) (b := 2) rfl rfl (by omega)) t (by first | assumption | omega) (by decide) (rowset7 (κ := κ) (cr := cr) (M := M7) (X := [(c0, .inr (1, [.ref c1, .ref c2])), (c1, .inl (κ.2 3, 7, .inr (.inr (.inr (.inr (g7 cr))))))]) (Y := [(q0, .inr (6, [.ref q1, .ref q2, .ref q3, .int (nI cnt)])), (q2, .inl (κ.2 0, 120, .inl (nA fp))), (q3, .inl (κ.2 0, 120, .inl (nA fr)))]) (b := 2) (j := pl) (f := va_up (M7 pl) t (lfR (M7 (pl + 1)) fp fr cnt pl t 0)) rfl rfl rfl (by omega)) dX1_weigh_51 rfl ?_
                refine g_iinc (pc' := 55) (v := nI (t + 1)) (lv' := [(6, .int (nI (t + 1))), (5, .int (nI 0)), (4, .int (nI pl)), (0, .ref c0), (1, .ref q0), (2, .int (nI size)), (3, .int (nI bare))]) C 0 dX1_weigh_52 rfl (iincN1 _) (by decide) rfl rfl ?_
                refine g_goto (tgt := 24) C dX1_weigh_55 (by decide) ?_
                exact ih_b3 (t + 1) (va_up M7 pl (va_up (M7 pl) t (lfR (M7 (pl + 1)) fp fr cnt pl t 0))) (by omega) (MW_up hM7 pl t (by have h9 := lfR_le (m := M7 (pl + 1)) (fp := fp) (fr := fr) (cnt := cnt) (pl := pl) (tk := t) (idl := 0); rw [weigh_s (idl := 0) hF (by omega) (by omega) hoth ho8 (by rw [if_neg (by omega)])]; have h8 := optR_le (fp := fp) (fr := fr) (cnt := cnt) (size := size) hba (6 - pl) t; omega)) (fun u => by simp only [va_up, if_neg (show ¬ (6 = pl) by omega)]; exact h67 u) (lt_s (fun u hu => by simp only [va_up, if_true, if_neg (show ¬ u = t by omega)]; exact hrow u hu) (by simp only [va_up, if_true]; exact weigh_s hF (by omega) (by omega) hoth ho8 (by rw [if_neg (by omega)]))) (fun i hi => by simp only [va_up, if_neg hi]; exact hoth i hi) (by omega)
          exact lp_b3 65 0 M8 (Nat.zero_le _) (by first | assumption | omega) (by first | assumption | omega) lt_0 (fun i _ => rfl) (by omega)
        · refine g_iload_n (pc' := 15) C 4 dX1_weigh_14 rfl rfl rfl ?_
          refine g_goto (tgt := 19) C dX1_weigh_15 (by decide) ?_
          refine g_istore (pc' := 21) (lv' := [(5, .int (nI bare)), (4, .int (nI pl)), (0, .ref c0), (1, .ref q0), (2, .int (nI size)), (3, .int (nI bare))]) C dX1_weigh_19 (by decide) rfl rfl ?_
          refine g_iconst (pc' := 22) (v := nI 0) C dX1_weigh_21 (by decide) rfl ?_
          refine g_istore (pc' := 24) (lv' := [(6, .int (nI 0)), (5, .int (nI bare)), (4, .int (nI pl)), (0, .ref c0), (1, .ref q0), (2, .int (nI size)), (3, .int (nI bare))]) C dX1_weigh_22 (by decide) rfl rfl ?_
          have lp_b6 : ∀ (fu_b6 : Nat) (t : Nat) (M7 : Nat → Nat → Nat), (t ≤ 64) → (MW M7) → (∀ u, M7 6 u = 0) → (∀ u, u < t → M7 pl u = optR fp fr cnt size bare (6 - pl) u) → (∀ i, i ≠ pl → M7 i = M8 i) → (64 - t) < fu_b6 → G p l e (rmv 4 0 0) s m ([.ref c0, .ref q0, .int (nI size), .int (nI bare)] : List Value).toArray below meth c κ 7 (JM A s) [(c0, .inr (1, [.ref c1, .ref c2])), (c1, .inl (κ.2 3, 7, .inr (.inr (.inr (.inr (g7 cr)))))), ((cr 0), .inl (κ.2 0, 64, .inl (nA (M7 0)))), ((cr 1), .inl (κ.2 0, 64, .inl (nA (M7 1)))), ((cr 2), .inl (κ.2 0, 64, .inl (nA (M7 2)))), ((cr 3), .inl (κ.2 0, 64, .inl (nA (M7 3)))), ((cr 4), .inl (κ.2 0, 64, .inl (nA (M7 4)))), ((cr 5), .inl (κ.2 0, 64, .inl (nA (M7 5)))), ((cr 6), .inl (κ.2 0, 64, .inl (nA (M7 6)))), (q0, .inr (6, [.ref q1, .ref q2, .ref q3, .int (nI cnt)])), (q2, .inl (κ.2 0, 120, .inl (nA fp))), (q3, .inl (κ.2 0, 120, .inl (nA fr)))] 0 0 (MQ below (QMv κ [(c0, .inr (1, [.ref c1, .ref c2])), (c1, .inl (κ.2 3, 7, .inr (.inr (.inr (.inr (g7 cr)))))), ((cr 0), .inl (κ.2 0, 64, .inl (nA (M 0)))), ((cr 1), .inl (κ.2 0, 64, .inl (nA (M 1)))), ((cr 2), .inl (κ.2 0, 64, .inl (nA (M 2)))), ((cr 3), .inl (κ.2 0, 64, .inl (nA (M 3)))), ((cr 4), .inl (κ.2 0, 64, .inl (nA (M 4)))), ((cr 5), .inl (κ.2 0, 64, .inl (nA (M 5)))), ((cr 6), .inl (κ.2 0, 64, .inl (nA (M 6)))), (q0, .inr (6, [.ref q1, .ref q2, .ref q3, .int (nI cnt)])), (q2, .inl (κ.2 0, 120, .inl (nA fp))), (q3, .inl (κ.2 0, 120, .inl (nA fr)))] s.heap.size (fun (vw_ : va_W) => ∃ (M9 : Nat → Nat → Nat), (MW M9) ∧ (∀ u, M9 6 u = 0) ∧ (∀ k, k ≤ 6 - 0 → ∀ u, u < 64 → M9 (6 - k) u = optR fp fr cnt size bare k u) ∧ vw_ = [(c0, .inr (1, [.ref c1, .ref c2])), (c1, .inl (κ.2 3, 7, .inr (.inr (.inr (.inr (g7 cr)))))), ((cr 0), .inl (κ.2 0, 64, .inl (nA (M9 0)))), ((cr 1), .inl (κ.2 0, 64, .inl (nA (M9 1)))), ((cr 2), .inl (κ.2 0, 64, .inl (nA (M9 2)))), ((cr 3), .inl (κ.2 0, 64, .inl (nA (M9 3)))), ((cr 4), .inl (κ.2 0, 64, .inl (nA (M9 4)))), ((cr 5), .inl (κ.2 0, 64, .inl (nA (M9 5)))), ((cr 6), .inl (κ.2 0, 64, .inl (nA (M9 6)))), (q0, .inr (6, [.ref q1, .ref q2, .ref q3, .int (nI cnt)])), (q2, .inl (κ.2 0, 120, .inl (nA fp))), (q3, .inl (κ.2 0, 120, .inl (nA fr)))])) ([.ref c0, .ref q0, .int (nI size), .int (nI bare)] : List Value).toArray s 0 0 A) 24 [(6, .int (nI t)), (5, .int (nI bare)), (4, .int (nI pl)), (0, .ref c0), (1, .ref q0), (2, .int (nI size)), (3, .int (nI bare))] [] := by
            intro fu_b6
            induction fu_b6 with
            | zero => intro t M7 ht hM7 h67 hrow hoth hmu; exact absurd hmu (Nat.not_lt_zero _)
            | succ fu_b6 ih_b6 =>
              intro t M7 ht hM7 h67 hrow hoth hmu_b6
              refine g_iload (pc' := 26) C 0 dX1_weigh_24 rfl rfl ?_
              refine g_bipush (pc' := 28) (v := nI 64) C dX1_weigh_26 (by decide) rfl ?_
              refine g_icmp_geN (pc' := 31) (tgt := 58) C (by first | assumption | omega) (by first | assumption | omega) dX1_weigh_28 (by decide) rfl (fun c_28_7 => ?_) (fun c_28_7 => ?_)
              · refine g_iinc (pc' := 61) (v := (nI pl) + (-1)) (lv' := [(4, .int ((nI pl) + (-1))), (6, .int (nI t)), (5, .int (nI bare)), (0, .ref c0), (1, .ref q0), (2, .int (nI size)), (3, .int (nI bare))]) C 2 dX1_weigh_58 rfl rfl (by decide) rfl rfl ?_
                refine g_goto (tgt := 3) C dX1_weigh_61 (by decide) ?_
                refine g_lv (lv' := [(4, .int ((nI pl) + (-1))), (0, .ref c0), (1, .ref q0), (2, .int (nI size)), (3, .int (nI bare))]) [0, 3, 4, 5, 6] rfl ?_
                exact ih_a pl ((nI pl) + (-1)) M7 (nI_pm1 pl) (by omega) (by first | assumption | omega) (by first | assumption | omega) (weigh_o (by omega) hoth (by have e : t = 64 := (by omega); subst e; exact hrow) ho8) (by omega)
              · refine g_aload_n (pc' := 32) C 3 dX1_weigh_31 rfl rfl rfl ?_
                refine g_get (pc' := 35) C fl_RX1_13_1 0 rfl rfl dX1_weigh_32 rfl ?_
                refine g_iload (pc' := 37) C 2 dX1_weigh_35 rfl rfl ?_
                refine g_aald2 (pc' := 38) (b := (cr pl)) C 1 rfl pl (by first | assumption | omega) (by decide) (g7_at (by omega)) dX1_weigh_37 rfl ?_
                refine g_iload (pc' := 40) C 0 dX1_weigh_38 rfl rfl ?_
                refine g_aload_n (pc' := 41) C 3 dX1_weigh_40 rfl rfl rfl ?_
                refine g_iload (pc' := 43) C 2 dX1_weigh_41 rfl rfl ?_
                refine g_iload (pc' := 45) C 0 dX1_weigh_43 rfl rfl ?_
                refine g_aload_n (pc' := 46) C 4 dX1_weigh_45 rfl rfl rfl ?_
                refine g_iload (pc' := 48) C 1 dX1_weigh_46 rfl rfl ?_
                refine g_callP (pc' := 51) C lk_RX1_20 (kX1_leastFrom l κ c0 c1 c2 cr M7 q0 q1 q2 q3 cnt fp fr pl t bare (by first | assumption | omega) (by first | assumption | omega) (by first | assumption | omega) (by first | assumption | omega) (by omega)) 0 rfl rfl [0, 1, 2, 3, 4, 5, 6, 7, 8, 9, 10, 11] rfl rfl (Nat.le_of_ble_eq_true rfl) ⟨Nat.le_of_ble_eq_true rfl, Nat.le_of_ble_eq_true rfl⟩ ⟨Nat.le_of_ble_eq_true rfl, Nat.le_of_ble_eq_true rfl⟩ rfl dX1_weigh_48 rfl (fun r_48_8 h_48_8 => ?_)
                obtain rfl : r_48_8 = nI (lfR (M7 (pl + 1)) fp fr cnt pl t bare) := h_48_8
                refine g_iastN (pc' := 52) (ws' := [(c0, .inr (1, [.ref c1, .ref c2])), (c1, .inl (κ.2 3, 7, .inr (.inr (.inr (.inr (g7 cr)))))), ((cr 0), .inl (κ.2 0, 64, .inl (nA ((va_up M7 pl (va_up (M7 pl) t (lfR (M7 (pl + 1)) fp fr cnt pl t bare))) 0)))), ((cr 1), .inl (κ.2 0, 64, .inl (nA ((va_up M7 pl (va_up (M7 pl) t (lfR (M7 (pl + 1)) fp fr cnt pl t bare))) 1)))), ((cr 2), .inl (κ.2 0, 64, .inl (nA ((va_up M7 pl (va_up (M7 pl) t (lfR (M7 (pl + 1)) fp fr cnt pl t bare))) 2)))), ((cr 3), .inl (κ.2 0, 64, .inl (nA ((va_up M7 pl (va_up (M7 pl) t (lfR (M7 (pl + 1)) fp fr cnt pl t bare))) 3)))), ((cr 4), .inl (κ.2 0, 64, .inl (nA ((va_up M7 pl (va_up (M7 pl) t (lfR (M7 (pl + 1)) fp fr cnt pl t bare))) 4)))), ((cr 5), .inl (κ.2 0, 64, .inl (nA ((va_up M7 pl (va_up (M7 pl) t (lfR (M7 (pl + 1)) fp fr cnt pl t bare))) 5)))), ((cr 6), .inl (κ.2 0, 64, .inl (nA ((va_up M7 pl (va_up (M7 pl) t (lfR (M7 (pl + 1)) fp fr cnt pl t bare))) 6)))), (q0, .inr (6, [.ref q1, .ref q2, .ref q3, .int (nI cnt)])), (q2, .inl (κ.2 0, 120, .inl (nA fp))), (q3, .inl (κ.2 0, 120, .inl (nA fr)))]) C (2 + pl) (f := (M7 pl)) (row7 (κ := κ) (cr := cr) (M := M7) (X := [(c0, .inr (1, [.ref c1, .ref c2])), (c1, .inl (κ.2 3, 7, .inr (.inr (.inr (.inr (g7 cr))))))]) (Y := [(q0, .inr (6, [.ref q1, .ref q2, .ref q3, .int (nI cnt)])), (q2, .inl (κ.2 0, 120, .inl (nA fp))), (q3, .inl (κ.2 0, 120, .inl (nA fr)))]) (b := 2) rfl rfl (by omega)) t (by first | assumption | omega) (by decide) (rowset7 (κ := κ) (cr := cr) (M := M7) (X := [(c0, .inr (1, [.ref c1, .ref c2])), (c1, .inl (κ.2 3, 7, .inr (.inr (.inr (.inr (g7 cr))))))]) (Y := [(q0, .inr (6, [.ref q1, .ref q2, .ref q3, .int (nI cnt)])), (q2, .inl (κ.2 0, 120, .inl (nA fp))), (q3, .inl (κ.2 0, 120, .inl (nA fr)))]) (b := 2) (j := pl) (f := va_up (M7 pl) t (lfR (M7 (pl + 1)) fp fr cnt pl t bare)) rfl rfl rfl (by omega)) dX1_weigh_51 rfl ?_
                refine g_iinc (pc' := 55) (v := nI (t + 1)) (lv' := [(6, .int (nI (t + 1))), (5, .int (nI bare)), (4, .int (nI pl)), (0, .ref c0), (1, .ref q0), (2, .int (nI size)), (3, .int (nI bare))]) C 0 dX1_weigh_52 rfl (iincN1 _) (by decide) rfl rfl ?_
                refine g_goto (tgt := 24) C dX1_weigh_55 (by decide) ?_
                exact ih_b6 (t + 1) (va_up M7 pl (va_up (M7 pl) t (lfR (M7 (pl + 1)) fp fr cnt pl t bare))) (by omega) (MW_up hM7 pl t (by have h9 := lfR_le (m := M7 (pl + 1)) (fp := fp) (fr := fr) (cnt := cnt) (pl := pl) (tk := t) (idl := bare); rw [weigh_s (idl := bare) hF (by omega) (by omega) hoth ho8 (by rw [if_pos (by omega)])]; have h8 := optR_le (fp := fp) (fr := fr) (cnt := cnt) (size := size) hba (6 - pl) t; omega)) (fun u => by simp only [va_up, if_neg (show ¬ (6 = pl) by omega)]; exact h67 u) (lt_s (fun u hu => by simp only [va_up, if_true, if_neg (show ¬ u = t by omega)]; exact hrow u hu) (by simp only [va_up, if_true]; exact weigh_s hF (by omega) (by omega) hoth ho8 (by rw [if_pos (by omega)]))) (fun i hi => by simp only [va_up, if_neg hi]; exact hoth i hi) (by omega)
          exact lp_b6 65 0 M8 (Nat.zero_le _) (by first | assumption | omega) (by first | assumption | omega) lt_0 (fun i _ => rfl) (by omega)
  exact lp_a 7 6 (nI 5) M (by decide) (Nat.le_refl 6) (by first | assumption | omega) (by first | assumption | omega) (fun k hk u _ => by have e : k = 0 := (by omega); subst e; exact h6 u) (by omega)

set_option maxHeartbeats 4000000 in
set_option maxRecDepth 100000 in
theorem kX1_choose (l : Launch) (κ : KK) (c0 : Nat) (c1 : Nat) (c2 : Nat) (cr : Nat → Nat) (M : Nat → Nat → Nat) (pk : Nat → Option Nat) (q0 : Nat) (q1 : Nat) (q2 : Nat) (q3 : Nat) (cnt : Nat) (fp : Nat → Nat) (fr : Nat → Nat) (hF : FW cnt fp fr) (hM : MW M) : CMv l yX1_choose cX1_choose 6 none 4 0 0 κ [.ref c0, .ref q0] [(c0, .inr (1, [.ref c1, .ref c2])), (c1, .inl (κ.2 3, 7, .inr (.inr (.inr (.inr (g7 cr)))))), (c2, .inl (κ.2 0, 6, .inl (oA pk))), ((cr 0), .inl (κ.2 0, 64, .inl (nA (M 0)))), ((cr 1), .inl (κ.2 0, 64, .inl (nA (M 1)))), ((cr 2), .inl (κ.2 0, 64, .inl (nA (M 2)))), ((cr 3), .inl (κ.2 0, 64, .inl (nA (M 3)))), ((cr 4), .inl (κ.2 0, 64, .inl (nA (M 4)))), ((cr 5), .inl (κ.2 0, 64, .inl (nA (M 5)))), ((cr 6), .inl (κ.2 0, 64, .inl (nA (M 6)))), (q0, .inr (6, [.ref q1, .ref q2, .ref q3, .int (nI cnt)])), (q2, .inl (κ.2 0, 120, .inl (nA fp))), (q3, .inl (κ.2 0, 120, .inl (nA fr)))] (fun (vw_ : va_W) => ∃ (pk9 : Nat → Option Nat), (∀ j, j < 6 → pk9 j = chP M fp fr cnt 6 j) ∧ vw_ = [(c0, .inr (1, [.ref c1, .ref c2])), (c1, .inl (κ.2 3, 7, .inr (.inr (.inr (.inr (g7 cr)))))), (c2, .inl (κ.2 0, 6, .inl (oA pk9))), ((cr 0), .inl (κ.2 0, 64, .inl (nA (M 0)))), ((cr 1), .inl (κ.2 0, 64, .inl (nA (M 1)))), ((cr 2), .inl (κ.2 0, 64, .inl (nA (M 2)))), ((cr 3), .inl (κ.2 0, 64, .inl (nA (M 3)))), ((cr 4), .inl (κ.2 0, 64, .inl (nA (M 4)))), ((cr 5), .inl (κ.2 0, 64, .inl (nA (M 5)))), ((cr 6), .inl (κ.2 0, 64, .inl (nA (M 6)))), (q0, .inr (6, [.ref q1, .ref q2, .ref q3, .int (nI cnt)])), (q2, .inl (κ.2 0, 120, .inl (nA fp))), (q3, .inl (κ.2 0, 120, .inl (nA fr)))]) := by
  refine cmv_of RX1 rfl (by decide) (Nat.le_of_ble_eq_true rfl) ?_
  intro p e s m below meth c A C hAe hA hini
  refine g_lv (lv' := [(0, .ref c0), (1, .ref q0)]) [0, 1] rfl ?_
  have hc : cnt ≤ 120 := hF.1
  refine g_aload_n (pc' := 1) C 0 dX1_choose_0 rfl rfl rfl ?_
  refine g_get (pc' := 4) C fl_RX1_16_1 0 rfl rfl dX1_choose_1 rfl ?_
  refine g_iconst (pc' := 5) (v := (-1)) C dX1_choose_4 (by decide) rfl ?_
  refine g_callMSv (pc' := 8) (wr := [(c0, .inr (1, [.ref c1, .ref c2])), (c1, .inl (κ.2 3, 7, .inr (.inr (.inr (.inr (g7 cr)))))), ((cr 0), .inl (κ.2 0, 64, .inl (nA (M 0)))), ((cr 1), .inl (κ.2 0, 64, .inl (nA (M 1)))), ((cr 2), .inl (κ.2 0, 64, .inl (nA (M 2)))), ((cr 3), .inl (κ.2 0, 64, .inl (nA (M 3)))), ((cr 4), .inl (κ.2 0, 64, .inl (nA (M 4)))), ((cr 5), .inl (κ.2 0, 64, .inl (nA (M 5)))), ((cr 6), .inl (κ.2 0, 64, .inl (nA (M 6)))), (q0, .inr (6, [.ref q1, .ref q2, .ref q3, .int (nI cnt)])), (q2, .inl (κ.2 0, 120, .inl (nA fp))), (q3, .inl (κ.2 0, 120, .inl (nA fr)))]) C hA lk_RX1_51 (kJ7_fill_53178 l κ c2 pk) [2] [0, 1, 3, 4, 5, 6, 7, 8, 9, 10, 11, 12] rfl rfl ⟨rfl, rfl, by decide⟩ rfl (Nat.le_of_ble_eq_true rfl) ⟨Nat.le_of_ble_eq_true rfl, Nat.le_of_ble_eq_true rfl⟩ ⟨Nat.le_of_ble_eq_true rfl, Nat.le_of_ble_eq_true rfl⟩ rfl dX1_choose_5 rfl (fun w_5_1 h_5_1 => ?_)
  obtain ⟨pk9_1, hpk_1, rfl⟩ : ∃ (pk9_1 : Nat → Option Nat), (∀ j, j < 6 → pk9_1 j = none) ∧ w_5_1 = [(c2, .inl (κ.2 0, 6, .inl (oA pk9_1)))] := h_5_1
  show G p l e (rmv 4 0 0) s m ([.ref c0, .ref q0] : List Value).toArray below meth c κ 6 (JM A s) [(c0, .inr (1, [.ref c1, .ref c2])), (c1, .inl (κ.2 3, 7, .inr (.inr (.inr (.inr (g7 cr)))))), ((cr 0), .inl (κ.2 0, 64, .inl (nA (M 0)))), ((cr 1), .inl (κ.2 0, 64, .inl (nA (M 1)))), ((cr 2), .inl (κ.2 0, 64, .inl (nA (M 2)))), ((cr 3), .inl (κ.2 0, 64, .inl (nA (M 3)))), ((cr 4), .inl (κ.2 0, 64, .inl (nA (M 4)))), ((cr 5), .inl (κ.2 0, 64, .inl (nA (M 5)))), ((cr 6), .inl (κ.2 0, 64, .inl (nA (M 6)))), (q0, .inr (6, [.ref q1, .ref q2, .ref q3, .int (nI cnt)])), (q2, .inl (κ.2 0, 120, .inl (nA fp))), (q3, .inl (κ.2 0, 120, .inl (nA fr))), (c2, .inl (κ.2 0, 6, .inl (oA pk9_1)))] 0 0 (MQ below (QMv κ [(c0, .inr (1, [.ref c1, .ref c2])), (c1, .inl (κ.2 3, 7, .inr (.inr (.inr (.inr (g7 cr)))))), (c2, .inl (κ.2 0, 6, .inl (oA pk))), ((cr 0), .inl (κ.2 0, 64, .inl (nA (M 0)))), ((cr 1), .inl (κ.2 0, 64, .inl (nA (M 1)))), ((cr 2), .inl (κ.2 0, 64, .inl (nA (M 2)))), ((cr 3), .inl (κ.2 0, 64, .inl (nA (M 3)))), ((cr 4), .inl (κ.2 0, 64, .inl (nA (M 4)))), ((cr 5), .inl (κ.2 0, 64, .inl (nA (M 5)))), ((cr 6), .inl (κ.2 0, 64, .inl (nA (M 6)))), (q0, .inr (6, [.ref q1, .ref q2, .ref q3, .int (nI cnt)])), (q2, .inl (κ.2 0, 120, .inl (nA fp))), (q3, .inl (κ.2 0, 120, .inl (nA fr)))] s.heap.size (fun (vw_ : va_W) => ∃ (pk9 : Nat → Option Nat), (∀ j, j < 6 → pk9 j = chP M fp fr cnt 6 j) ∧ vw_ = [(c0, .inr (1, [.ref c1, .ref c2])), (c1, .inl (κ.2 3, 7, .inr (.inr (.inr (.inr (g7 cr)))))), (c2, .inl (κ.2 0, 6, .inl (oA pk9))), ((cr 0), .inl (κ.2 0, 64, .inl (nA (M 0)))), ((cr 1), .inl (κ.2 0, 64, .inl (nA (M 1)))), ((cr 2), .inl (κ.2 0, 64, .inl (nA (M 2)))), ((cr 3), .inl (κ.2 0, 64, .inl (nA (M 3)))), ((cr 4), .inl (κ.2 0, 64, .inl (nA (M 4)))), ((cr 5), .inl (κ.2 0, 64, .inl (nA (M 5)))), ((cr 6), .inl (κ.2 0, 64, .inl (nA (M 6)))), (q0, .inr (6, [.ref q1, .ref q2, .ref q3, .int (nI cnt)])), (q2, .inl (κ.2 0, 120, .inl (nA fp))), (q3, .inl (κ.2 0, 120, .inl (nA fr)))])) ([.ref c0, .ref q0] : List Value).toArray s 0 0 A) 8 [(0, .ref c0), (1, .ref q0)] []
  refine g_iconst (pc' := 9) (v := nI 0) C dX1_choose_8 (by decide) rfl ?_
  refine g_istore_n (pc' := 10) (lv' := [(2, .int (nI 0)), (0, .ref c0), (1, .ref q0)]) C dX1_choose_9 rfl (by decide) rfl rfl ?_
  refine g_iconst (pc' := 11) (v := nI 0) C dX1_choose_10 (by decide) rfl ?_
  refine g_istore_n (pc' := 12) (lv' := [(3, .int (nI 0)), (2, .int (nI 0)), (0, .ref c0), (1, .ref q0)]) C dX1_choose_11 rfl (by decide) rfl rfl ?_
  have lp_a : ∀ (fu_a : Nat) (i : Nat) (tk : Nat) (pk8 : Nat → Option Nat), (i ≤ 6) → (tk < 64) → (tk = chT M fp fr cnt i) → (∀ j, j < 6 → pk8 j = chP M fp fr cnt i j) → (6 - i) < fu_a → G p l e (rmv 4 0 0) s m ([.ref c0, .ref q0] : List Value).toArray below meth c κ 6 (JM A s) [(c0, .inr (1, [.ref c1, .ref c2])), (c1, .inl (κ.2 3, 7, .inr (.inr (.inr (.inr (g7 cr)))))), (c2, .inl (κ.2 0, 6, .inl (oA pk8))), ((cr 0), .inl (κ.2 0, 64, .inl (nA (M 0)))), ((cr 1), .inl (κ.2 0, 64, .inl (nA (M 1)))), ((cr 2), .inl (κ.2 0, 64, .inl (nA (M 2)))), ((cr 3), .inl (κ.2 0, 64, .inl (nA (M 3)))), ((cr 4), .inl (κ.2 0, 64, .inl (nA (M 4)))), ((cr 5), .inl (κ.2 0, 64, .inl (nA (M 5)))), ((cr 6), .inl (κ.2 0, 64, .inl (nA (M 6)))), (q0, .inr (6, [.ref q1, .ref q2, .ref q3, .int (nI cnt)])), (q2, .inl (κ.2 0, 120, .inl (nA fp))), (q3, .inl (κ.2 0, 120, .inl (nA fr)))] 0 0 (MQ below (QMv κ [(c0, .inr (1, [.ref c1, .ref c2])), (c1, .inl (κ.2 3, 7, .inr (.inr (.inr (.inr (g7 cr)))))), (c2, .inl (κ.2 0, 6, .inl (oA pk))), ((cr 0), .inl (κ.2 0, 64, .inl (nA (M 0)))), ((cr 1), .inl (κ.2 0, 64, .inl (nA (M 1)))), ((cr 2), .inl (κ.2 0, 64, .inl (nA (M 2)))), ((cr 3), .inl (κ.2 0, 64, .inl (nA (M 3)))), ((cr 4), .inl (κ.2 0, 64, .inl (nA (M 4)))), ((cr 5), .inl (κ.2 0, 64, .inl (nA (M 5)))), ((cr 6), .inl (κ.2 0, 64, .inl (nA (M 6)))), (q0, .inr (6, [.ref q1, .ref q2, .ref q3, .int (nI cnt)])), (q2, .inl (κ.2 0, 120, .inl (nA fp))), (q3, .inl (κ.2 0, 120, .inl (nA fr)))] s.heap.size (fun (vw_ : va_W) => ∃ (pk9 : Nat → Option Nat), (∀ j, j < 6 → pk9 j = chP M fp fr cnt 6 j) ∧ vw_ = [(c0, .inr (1, [.ref c1, .ref c2])), (c1, .inl (κ.2 3, 7, .inr (.inr (.inr (.inr (g7 cr)))))), (c2, .inl (κ.2 0, 6, .inl (oA pk9))), ((cr 0), .inl (κ.2 0, 64, .inl (nA (M 0)))), ((cr 1), .inl (κ.2 0, 64, .inl (nA (M 1)))), ((cr 2), .inl (κ.2 0, 64, .inl (nA (M 2)))), ((cr 3), .inl (κ.2 0, 64, .inl (nA (M 3)))), ((cr 4), .inl (κ.2 0, 64, .inl (nA (M 4)))), ((cr 5), .inl (κ.2 0, 64, .inl (nA (M 5)))), ((cr 6), .inl (κ.2 0, 64, .inl (nA (M 6)))), (q0, .inr (6, [.ref q1, .ref q2, .ref q3, .int (nI cnt)])), (q2, .inl (κ.2 0, 120, .inl (nA fp))), (q3, .inl (κ.2 0, 120, .inl (nA fr)))])) ([.ref c0, .ref q0] : List Value).toArray s 0 0 A) 12 [(3, .int (nI i)), (2, .int (nI tk)), (0, .ref c0), (1, .ref q0)] [] := by
    intro fu_a
    induction fu_a with
    | zero => intro i tk pk8 hi htl htk hpk hmu; exact absurd hmu (Nat.not_lt_zero _)
    | succ fu_a ih_a =>
      intro i tk pk8 hi htl htk hpk hmu_a
      refine g_iload_n (pc' := 13) C 0 dX1_choose_12 rfl rfl rfl ?_
      refine g_bipush (pc' := 15) (v := nI 6) C dX1_choose_13 (by decide) rfl ?_
      refine g_icmp_geN (pc' := 18) (tgt := 65) C (by first | assumption | omega) (by first | assumption | omega) dX1_choose_15 (by decide) rfl (fun c_15_2 => ?_) (fun c_15_2 => ?_)
      · exact g_retMv C hAe rfl (Nat.le_of_ble_eq_true rfl) (Nat.le_of_ble_eq_true rfl) (by have e : i = 6 := (by omega); subst e; exact ⟨pk8, hpk, rfl⟩) dX1_choose_65
      · refine g_iload_n (pc' := 19) C 1 dX1_choose_18 rfl rfl rfl ?_
        refine g_iload_n (pc' := 20) C 0 dX1_choose_19 rfl rfl rfl ?_
        refine g_ishr (pc' := 21) (v := nI (tk / 2 ^ i)) C dX1_choose_20 (nI_shr _ _ (by first | assumption | omega) (by first | assumption | omega)) rfl ?_
        refine g_iconst (pc' := 22) (v := nI 1) C dX1_choose_21 (by decide) rfl ?_
        refine g_iand (pc' := 23) (v := nI ((tk / 2 ^ i) &&& 1)) C dX1_choose_22 (nI_and _ _) rfl ?_
        refine g_if_neN (pc' := 26) (tgt := 59) C (by have h := bit_le tk i; omega) dX1_choose_23 (by decide) rfl (fun c_23_3 => ?_) (fun c_23_3 => ?_)
        · refine g_iinc (pc' := 62) (v := nI (i + 1)) (lv' := [(3, .int (nI (i + 1))), (2, .int (nI tk)), (0, .ref c0), (1, .ref q0)]) C 0 dX1_choose_59 rfl (iincN1 _) (by decide) rfl rfl ?_
          refine g_goto (tgt := 12) C dX1_choose_62 (by decide) ?_
          exact ih_a (i + 1) tk pk8 (by first | assumption | omega) (by exact htl) (by rw [chT_t (by rw [← htk]; exact tb_t0 c_23_3)]; exact htk) (by intro z hz; rw [chP_t (by rw [← htk]; exact tb_t0 c_23_3)]; exact hpk z hz) (by omega)
        · refine g_aload_n (pc' := 27) C 2 dX1_choose_26 rfl rfl rfl ?_
          refine g_iload_n (pc' := 28) C 0 dX1_choose_27 rfl rfl rfl ?_
          refine g_iload_n (pc' := 29) C 1 dX1_choose_28 rfl rfl rfl ?_
          refine g_aload_n (pc' := 30) C 3 dX1_choose_29 rfl rfl rfl ?_
          refine g_callP (pc' := 33) C lk_RX1_57 (kX1_bestFrom l κ c0 c1 c2 cr M q0 q1 q2 q3 cnt fp fr i tk (by first | assumption | omega) (by first | assumption | omega) (by first | assumption | omega) (by first | assumption | omega)) 0 rfl rfl [0, 1, 3, 4, 5, 6, 7, 8, 9, 10, 11, 12] rfl rfl (Nat.le_of_ble_eq_true rfl) ⟨Nat.le_of_ble_eq_true rfl, Nat.le_of_ble_eq_true rfl⟩ ⟨Nat.le_of_ble_eq_true rfl, Nat.le_of_ble_eq_true rfl⟩ rfl dX1_choose_30 rfl (fun r_30_4 h_30_4 => ?_)
          obtain rfl : r_30_4 = oI (bfAt M fp fr cnt i tk) := h_30_4
          refine g_O (fun o_33_5 => ?_) (fun x_33_5 o_33_5 => ?_)
          · refine g_istore (pc' := 35) (lv' := [(4, .int (-1)), (3, .int (nI i)), (2, .int (nI tk)), (0, .ref c0), (1, .ref q0)]) C dX1_choose_33 (by decide) rfl rfl ?_
            refine g_aload_n (pc' := 36) C 4 dX1_choose_35 rfl rfl rfl ?_
            refine g_iload (pc' := 38) C 0 dX1_choose_36 rfl rfl ?_
            refine g_callP (pc' := 41) C lk_RX1_44 (kX7_placesOf_m l κ q0 q1 q2 q3 cnt) 10 rfl rfl [10] rfl rfl (Nat.le_of_ble_eq_true rfl) ⟨Nat.le_of_ble_eq_true rfl, Nat.le_of_ble_eq_true rfl⟩ ⟨Nat.le_of_ble_eq_true rfl, Nat.le_of_ble_eq_true rfl⟩ rfl dX1_choose_38 rfl (fun r_38_6 h_38_6 => ?_)
            obtain rfl : r_38_6 = nI 0 := h_38_6
            refine g_istore (pc' := 43) (lv' := [(5, .int (nI 0)), (4, .int (-1)), (3, .int (nI i)), (2, .int (nI tk)), (0, .ref c0), (1, .ref q0)]) C dX1_choose_41 (by decide) rfl rfl ?_
            refine g_aload_n (pc' := 44) C 4 dX1_choose_43 rfl rfl rfl ?_
            refine g_iload (pc' := 46) C 0 dX1_choose_44 rfl rfl ?_
            refine g_iload (pc' := 48) C 1 dX1_choose_46 rfl rfl ?_
            refine g_callMv (pc' := 51) (wr := [(c1, .inl (κ.2 3, 7, .inr (.inr (.inr (.inr (g7 cr)))))), ((cr 0), .inl (κ.2 0, 64, .inl (nA (M 0)))), ((cr 1), .inl (κ.2 0, 64, .inl (nA (M 1)))), ((cr 2), .inl (κ.2 0, 64, .inl (nA (M 2)))), ((cr 3), .inl (κ.2 0, 64, .inl (nA (M 3)))), ((cr 4), .inl (κ.2 0, 64, .inl (nA (M 4)))), ((cr 5), .inl (κ.2 0, 64, .inl (nA (M 5)))), ((cr 6), .inl (κ.2 0, 64, .inl (nA (M 6)))), (q0, .inr (6, [.ref q1, .ref q2, .ref q3, .int (nI cnt)])), (q2, .inl (κ.2 0, 120, .inl (nA fp))), (q3, .inl (κ.2 0, 120, .inl (nA fr)))]) C hA lk_RX1_61 (kX1_mark l κ c0 c1 c2 pk8 0 none (by decide)) 0 rfl rfl [0, 2] [1, 3, 4, 5, 6, 7, 8, 9, 10, 11, 12] rfl rfl ⟨rfl, rfl, by decide⟩ rfl (Nat.le_of_ble_eq_true rfl) ⟨Nat.le_of_ble_eq_true rfl, Nat.le_of_ble_eq_true rfl⟩ ⟨Nat.le_of_ble_eq_true rfl, Nat.le_of_ble_eq_true rfl⟩ rfl dX1_choose_48 rfl (fun w_48_7 h_48_7 => ?_)
            obtain rfl : w_48_7 = [(c0, .inr (1, [.ref c1, .ref c2])), (c2, .inl (κ.2 0, 6, .inl (oA (mkP pk8 0 none 6))))] := h_48_7
            show G p l e (rmv 4 0 0) s m ([.ref c0, .ref q0] : List Value).toArray below meth c κ 6 (JM A s) [(c1, .inl (κ.2 3, 7, .inr (.inr (.inr (.inr (g7 cr)))))), ((cr 0), .inl (κ.2 0, 64, .inl (nA (M 0)))), ((cr 1), .inl (κ.2 0, 64, .inl (nA (M 1)))), ((cr 2), .inl (κ.2 0, 64, .inl (nA (M 2)))), ((cr 3), .inl (κ.2 0, 64, .inl (nA (M 3)))), ((cr 4), .inl (κ.2 0, 64, .inl (nA (M 4)))), ((cr 5), .inl (κ.2 0, 64, .inl (nA (M 5)))), ((cr 6), .inl (κ.2 0, 64, .inl (nA (M 6)))), (q0, .inr (6, [.ref q1, .ref q2, .ref q3, .int (nI cnt)])), (q2, .inl (κ.2 0, 120, .inl (nA fp))), (q3, .inl (κ.2 0, 120, .inl (nA fr))), (c0, .inr (1, [.ref c1, .ref c2])), (c2, .inl (κ.2 0, 6, .inl (oA (mkP pk8 0 none 6))))] 0 0 (MQ below (QMv κ [(c0, .inr (1, [.ref c1, .ref c2])), (c1, .inl (κ.2 3, 7, .inr (.inr (.inr (.inr (g7 cr)))))), (c2, .inl (κ.2 0, 6, .inl (oA pk))), ((cr 0), .inl (κ.2 0, 64, .inl (nA (M 0)))), ((cr 1), .inl (κ.2 0, 64, .inl (nA (M 1)))), ((cr 2), .inl (κ.2 0, 64, .inl (nA (M 2)))), ((cr 3), .inl (κ.2 0, 64, .inl (nA (M 3)))), ((cr 4), .inl (κ.2 0, 64, .inl (nA (M 4)))), ((cr 5), .inl (κ.2 0, 64, .inl (nA (M 5)))), ((cr 6), .inl (κ.2 0, 64, .inl (nA (M 6)))), (q0, .inr (6, [.ref q1, .ref q2, .ref q3, .int (nI cnt)])), (q2, .inl (κ.2 0, 120, .inl (nA fp))), (q3, .inl (κ.2 0, 120, .inl (nA fr)))] s.heap.size (fun (vw_ : va_W) => ∃ (pk9 : Nat → Option Nat), (∀ j, j < 6 → pk9 j = chP M fp fr cnt 6 j) ∧ vw_ = [(c0, .inr (1, [.ref c1, .ref c2])), (c1, .inl (κ.2 3, 7, .inr (.inr (.inr (.inr (g7 cr)))))), (c2, .inl (κ.2 0, 6, .inl (oA pk9))), ((cr 0), .inl (κ.2 0, 64, .inl (nA (M 0)))), ((cr 1), .inl (κ.2 0, 64, .inl (nA (M 1)))), ((cr 2), .inl (κ.2 0, 64, .inl (nA (M 2)))), ((cr 3), .inl (κ.2 0, 64, .inl (nA (M 3)))), ((cr 4), .inl (κ.2 0, 64, .inl (nA (M 4)))), ((cr 5), .inl (κ.2 0, 64, .inl (nA (M 5)))), ((cr 6), .inl (κ.2 0, 64, .inl (nA (M 6)))), (q0, .inr (6, [.ref q1, .ref q2, .ref q3, .int (nI cnt)])), (q2, .inl (κ.2 0, 120, .inl (nA fp))), (q3, .inl (κ.2 0, 120, .inl (nA fr)))])) ([.ref c0, .ref q0] : List Value).toArray s 0 0 A) 51 [(5, .int (nI 0)), (4, .int (-1)), (3, .int (nI i)), (2, .int (nI tk)), (0, .ref c0), (1, .ref q0)] []
            refine g_iload_n (pc' := 52) C 3 dX1_choose_51 rfl rfl rfl ?_
            refine g_iload (pc' := 54) C 0 dX1_choose_52 rfl rfl ?_
            refine g_ior (pc' := 55) (v := nI (tk ||| 0)) C dX1_choose_54 (nI_or _ _) rfl ?_
            refine g_bipush (pc' := 57) (v := nI 63) C dX1_choose_55 (by decide) rfl ?_
            refine g_iand (pc' := 58) (v := nI (tk ||| 0)) C dX1_choose_57 (and63 (by rw [Nat.or_zero]; exact htl)) rfl ?_
            refine g_istore_n (pc' := 59) (lv' := [(2, .int (nI (tk ||| 0))), (5, .int (nI 0)), (4, .int (-1)), (3, .int (nI i)), (0, .ref c0), (1, .ref q0)]) C dX1_choose_58 rfl (by decide) rfl rfl ?_
            refine g_iinc (pc' := 62) (v := nI (i + 1)) (lv' := [(3, .int (nI (i + 1))), (2, .int (nI (tk ||| 0))), (5, .int (nI 0)), (4, .int (-1)), (0, .ref c0), (1, .ref q0)]) C 3 dX1_choose_59 rfl (iincN1 _) (by decide) rfl rfl ?_
            refine g_goto (tgt := 12) C dX1_choose_62 (by decide) ?_
            refine g_selM (ws' := [(c0, .inr (1, [.ref c1, .ref c2])), (c1, .inl (κ.2 3, 7, .inr (.inr (.inr (.inr (g7 cr)))))), (c2, .inl (κ.2 0, 6, .inl (oA (mkP pk8 0 none 6)))), ((cr 0), .inl (κ.2 0, 64, .inl (nA (M 0)))), ((cr 1), .inl (κ.2 0, 64, .inl (nA (M 1)))), ((cr 2), .inl (κ.2 0, 64, .inl (nA (M 2)))), ((cr 3), .inl (κ.2 0, 64, .inl (nA (M 3)))), ((cr 4), .inl (κ.2 0, 64, .inl (nA (M 4)))), ((cr 5), .inl (κ.2 0, 64, .inl (nA (M 5)))), ((cr 6), .inl (κ.2 0, 64, .inl (nA (M 6)))), (q0, .inr (6, [.ref q1, .ref q2, .ref q3, .int (nI cnt)])), (q2, .inl (κ.2 0, 120, .inl (nA fp))), (q3, .inl (κ.2 0, 120, .inl (nA fr)))]) [11, 0, 12, 1, 2, 3, 4, 5, 6, 7, 8, 9, 10] rfl rfl ?_
            refine g_lv (lv' := [(3, .int (nI (i + 1))), (2, .int (nI (tk ||| 0))), (0, .ref c0), (1, .ref q0)]) [0, 1, 4, 5] rfl ?_
            exact ih_a (i + 1) (tk ||| 0) (mkP pk8 0 none 6) (by first | assumption | omega) (by rw [Nat.or_zero]; exact htl) (by rw [chT_0 (by rw [← htk]; exact tb_n (by omega)) (by rw [← htk]; exact o_33_5), Nat.or_zero]; exact htk) (by intro z hz; rw [mkP_0, chP_0 (by rw [← htk]; exact tb_n (by omega)) (by rw [← htk]; exact o_33_5)]; exact hpk z hz) (by omega)
          · refine g_istore (pc' := 35) (lv' := [(4, .int (nI x_33_5)), (3, .int (nI i)), (2, .int (nI tk)), (0, .ref c0), (1, .ref q0)]) C dX1_choose_33 (by decide) rfl rfl ?_
            refine g_aload_n (pc' := 36) C 4 dX1_choose_35 rfl rfl rfl ?_
            refine g_iload (pc' := 38) C 0 dX1_choose_36 rfl rfl ?_
            refine g_callP (pc' := 41) C lk_RX1_44 (kX7_placesOf l κ q0 q1 q2 q3 cnt fp x_33_5 (by first | assumption | omega) (firstB_some o_33_5).1) 10 rfl rfl [10, 11] rfl rfl (Nat.le_of_ble_eq_true rfl) ⟨Nat.le_of_ble_eq_true rfl, Nat.le_of_ble_eq_true rfl⟩ ⟨Nat.le_of_ble_eq_true rfl, Nat.le_of_ble_eq_true rfl⟩ rfl dX1_choose_38 rfl (fun r_38_8 h_38_8 => ?_)
            obtain rfl : r_38_8 = nI (fp x_33_5) := h_38_8
            refine g_istore (pc' := 43) (lv' := [(5, .int (nI (fp x_33_5))), (4, .int (nI x_33_5)), (3, .int (nI i)), (2, .int (nI tk)), (0, .ref c0), (1, .ref q0)]) C dX1_choose_41 (by decide) rfl rfl ?_
            refine g_aload_n (pc' := 44) C 4 dX1_choose_43 rfl rfl rfl ?_
            refine g_iload (pc' := 46) C 0 dX1_choose_44 rfl rfl ?_
            refine g_iload (pc' := 48) C 1 dX1_choose_46 rfl rfl ?_
            refine g_callMv (pc' := 51) (wr := [(c1, .inl (κ.2 3, 7, .inr (.inr (.inr (.inr (g7 cr)))))), ((cr 0), .inl (κ.2 0, 64, .inl (nA (M 0)))), ((cr 1), .inl (κ.2 0, 64, .inl (nA (M 1)))), ((cr 2), .inl (κ.2 0, 64, .inl (nA (M 2)))), ((cr 3), .inl (κ.2 0, 64, .inl (nA (M 3)))), ((cr 4), .inl (κ.2 0, 64, .inl (nA (M 4)))), ((cr 5), .inl (κ.2 0, 64, .inl (nA (M 5)))), ((cr 6), .inl (κ.2 0, 64, .inl (nA (M 6)))), (q0, .inr (6, [.ref q1, .ref q2, .ref q3, .int (nI cnt)])), (q2, .inl (κ.2 0, 120, .inl (nA fp))), (q3, .inl (κ.2 0, 120, .inl (nA fr)))]) C hA lk_RX1_61 (kX1_mark l κ c0 c1 c2 pk8 (fp x_33_5) (some x_33_5) (hF.2 _ (firstB_some o_33_5).1).2.1) 0 rfl rfl [0, 2] [1, 3, 4, 5, 6, 7, 8, 9, 10, 11, 12] rfl rfl ⟨rfl, rfl, by decide⟩ rfl (Nat.le_of_ble_eq_true rfl) ⟨Nat.le_of_ble_eq_true rfl, Nat.le_of_ble_eq_true rfl⟩ ⟨Nat.le_of_ble_eq_true rfl, Nat.le_of_ble_eq_true rfl⟩ rfl dX1_choose_48 rfl (fun w_48_9 h_48_9 => ?_)
            obtain rfl : w_48_9 = [(c0, .inr (1, [.ref c1, .ref c2])), (c2, .inl (κ.2 0, 6, .inl (oA (mkP pk8 (fp x_33_5) (some x_33_5) 6))))] := h_48_9
            show G p l e (rmv 4 0 0) s m ([.ref c0, .ref q0] : List Value).toArray below meth c κ 6 (JM A s) [(c1, .inl (κ.2 3, 7, .inr (.inr (.inr (.inr (g7 cr)))))), ((cr 0), .inl (κ.2 0, 64, .inl (nA (M 0)))), ((cr 1), .inl (κ.2 0, 64, .inl (nA (M 1)))), ((cr 2), .inl (κ.2 0, 64, .inl (nA (M 2)))), ((cr 3), .inl (κ.2 0, 64, .inl (nA (M 3)))), ((cr 4), .inl (κ.2 0, 64, .inl (nA (M 4)))), ((cr 5), .inl (κ.2 0, 64, .inl (nA (M 5)))), ((cr 6), .inl (κ.2 0, 64, .inl (nA (M 6)))), (q0, .inr (6, [.ref q1, .ref q2, .ref q3, .int (nI cnt)])), (q2, .inl (κ.2 0, 120, .inl (nA fp))), (q3, .inl (κ.2 0, 120, .inl (nA fr))), (c0, .inr (1, [.ref c1, .ref c2])), (c2, .inl (κ.2 0, 6, .inl (oA (mkP pk8 (fp x_33_5) (some x_33_5) 6))))] 0 0 (MQ below (QMv κ [(c0, .inr (1, [.ref c1, .ref c2])), (c1, .inl (κ.2 3, 7, .inr (.inr (.inr (.inr (g7 cr)))))), (c2, .inl (κ.2 0, 6, .inl (oA pk))), ((cr 0), .inl (κ.2 0, 64, .inl (nA (M 0)))), ((cr 1), .inl (κ.2 0, 64, .inl (nA (M 1)))), ((cr 2), .inl (κ.2 0, 64, .inl (nA (M 2)))), ((cr 3), .inl (κ.2 0, 64, .inl (nA (M 3)))), ((cr 4), .inl (κ.2 0, 64, .inl (nA (M 4)))), ((cr 5), .inl (κ.2 0, 64, .inl (nA (M 5)))), ((cr 6), .inl (κ.2 0, 64, .inl (nA (M 6)))), (q0, .inr (6, [.ref q1, .ref q2, .ref q3, .int (nI cnt)])), (q2, .inl (κ.2 0, 120, .inl (nA fp))), (q3, .inl (κ.2 0, 120, .inl (nA fr)))] s.heap.size (fun (vw_ : va_W) => ∃ (pk9 : Nat → Option Nat), (∀ j, j < 6 → pk9 j = chP M fp fr cnt 6 j) ∧ vw_ = [(c0, .inr (1, [.ref c1, .ref c2])), (c1, .inl (κ.2 3, 7, .inr (.inr (.inr (.inr (g7 cr)))))), (c2, .inl (κ.2 0, 6, .inl (oA pk9))), ((cr 0), .inl (κ.2 0, 64, .inl (nA (M 0)))), ((cr 1), .inl (κ.2 0, 64, .inl (nA (M 1)))), ((cr 2), .inl (κ.2 0, 64, .inl (nA (M 2)))), ((cr 3), .inl (κ.2 0, 64, .inl (nA (M 3)))), ((cr 4), .inl (κ.2 0, 64, .inl (nA (M 4)))), ((cr 5), .inl (κ.2 0, 64, .inl (nA (M 5)))), ((cr 6), .inl (κ.2 0, 64, .inl (nA (M 6)))), (q0, .inr (6, [.ref q1, .ref q2, .ref q3, .int (nI cnt)])), (q2, .inl (κ.2 0, 120, .inl (nA fp))), (q3, .inl (κ.2 0, 120, .inl (nA fr)))])) ([.ref c0, .ref q0] : List Value).toArray s 0 0 A) 51 [(5, .int (nI (fp x_33_5))), (4, .int (nI x_33_5)), (3, .int (nI i)), (2, .int (nI tk)), (0, .ref c0), (1, .ref q0)] []
            refine g_iload_n (pc' := 52) C 3 dX1_choose_51 rfl rfl rfl ?_
            refine g_iload (pc' := 54) C 0 dX1_choose_52 rfl rfl ?_
            refine g_ior (pc' := 55) (v := nI (tk ||| (fp x_33_5))) C dX1_choose_54 (nI_or _ _) rfl ?_
            refine g_bipush (pc' := 57) (v := nI 63) C dX1_choose_55 (by decide) rfl ?_
            refine g_iand (pc' := 58) (v := nI (tk ||| (fp x_33_5))) C dX1_choose_57 (and63 (or64 htl (hF.2 _ (firstB_some o_33_5).1).2.1)) rfl ?_
            refine g_istore_n (pc' := 59) (lv' := [(2, .int (nI (tk ||| (fp x_33_5)))), (5, .int (nI (fp x_33_5))), (4, .int (nI x_33_5)), (3, .int (nI i)), (0, .ref c0), (1, .ref q0)]) C dX1_choose_58 rfl (by decide) rfl rfl ?_
            refine g_iinc (pc' := 62) (v := nI (i + 1)) (lv' := [(3, .int (nI (i + 1))), (2, .int (nI (tk ||| (fp x_33_5)))), (5, .int (nI (fp x_33_5))), (4, .int (nI x_33_5)), (0, .ref c0), (1, .ref q0)]) C 3 dX1_choose_59 rfl (iincN1 _) (by decide) rfl rfl ?_
            refine g_goto (tgt := 12) C dX1_choose_62 (by decide) ?_
            refine g_selM (ws' := [(c0, .inr (1, [.ref c1, .ref c2])), (c1, .inl (κ.2 3, 7, .inr (.inr (.inr (.inr (g7 cr)))))), (c2, .inl (κ.2 0, 6, .inl (oA (mkP pk8 (fp x_33_5) (some x_33_5) 6)))), ((cr 0), .inl (κ.2 0, 64, .inl (nA (M 0)))), ((cr 1), .inl (κ.2 0, 64, .inl (nA (M 1)))), ((cr 2), .inl (κ.2 0, 64, .inl (nA (M 2)))), ((cr 3), .inl (κ.2 0, 64, .inl (nA (M 3)))), ((cr 4), .inl (κ.2 0, 64, .inl (nA (M 4)))), ((cr 5), .inl (κ.2 0, 64, .inl (nA (M 5)))), ((cr 6), .inl (κ.2 0, 64, .inl (nA (M 6)))), (q0, .inr (6, [.ref q1, .ref q2, .ref q3, .int (nI cnt)])), (q2, .inl (κ.2 0, 120, .inl (nA fp))), (q3, .inl (κ.2 0, 120, .inl (nA fr)))]) [11, 0, 12, 1, 2, 3, 4, 5, 6, 7, 8, 9, 10] rfl rfl ?_
            refine g_lv (lv' := [(3, .int (nI (i + 1))), (2, .int (nI (tk ||| (fp x_33_5)))), (0, .ref c0), (1, .ref q0)]) [0, 1, 4, 5] rfl ?_
            exact ih_a (i + 1) (tk ||| (fp x_33_5)) (mkP pk8 (fp x_33_5) (some x_33_5) 6) (by first | assumption | omega) (by exact or64 htl (hF.2 _ (firstB_some o_33_5).1).2.1) (by rw [chT_1 (by rw [← htk]; exact tb_n (by omega)) (by rw [← htk]; exact o_33_5), ← htk]) (by intro z hz; rw [chP_1 (by rw [← htk]; exact tb_n (by omega)) (by rw [← htk]; exact o_33_5)]; exact mkP_congr hpk 6 z hz) (by omega)
  refine g_selM (ws' := [(c0, .inr (1, [.ref c1, .ref c2])), (c1, .inl (κ.2 3, 7, .inr (.inr (.inr (.inr (g7 cr)))))), (c2, .inl (κ.2 0, 6, .inl (oA pk9_1))), ((cr 0), .inl (κ.2 0, 64, .inl (nA (M 0)))), ((cr 1), .inl (κ.2 0, 64, .inl (nA (M 1)))), ((cr 2), .inl (κ.2 0, 64, .inl (nA (M 2)))), ((cr 3), .inl (κ.2 0, 64, .inl (nA (M 3)))), ((cr 4), .inl (κ.2 0, 64, .inl (nA (M 4)))), ((cr 5), .inl (κ.2 0, 64, .inl (nA (M 5)))), ((cr 6), .inl (κ.2 0, 64, .inl (nA (M 6)))), (q0, .inr (6, [.ref q1, .ref q2, .ref q3, .int (nI cnt)])), (q2, .inl (κ.2 0, 120, .inl (nA fp))), (q3, .inl (κ.2 0, 120, .inl (nA fr)))]) [0, 1, 12, 2, 3, 4, 5, 6, 7, 8, 9, 10, 11] rfl rfl ?_
  exact lp_a 7 0 0 pk9_1 (Nat.zero_le _) (by decide) rfl (fun j hj => hpk_1 j hj) (by omega)
end
section
set_option maxHeartbeats 4000000 in
set_option maxRecDepth 100000 in
theorem kX7_leastOfAll (l : Launch) (κ : KK) (q0 : Nat) (q1 : Nat) (q2 : Nat) (q3 : Nat) (cnt : Nat) (fn : Nat → Nat) (fp : Nat → Nat) (fr : Nat → Nat) (L : SL) (bare : Nat) (hL : stOK L cnt fn fp fr) (hF : FW cnt fp fr) (hba : bare ≤ 50) : ∀ (r9 : Nat) (fm9 : Nat) (tk : Nat) (sp : Int) (dp : Nat), (dp + r9 = 6) → (fm9 ≤ cnt) → (tk < 64) → (dp ≤ bc6 tk) → (-(300 * (dp : Int)) ≤ sp ∧ sp ≤ 300 + 20 * (dp : Int)) → CP l yX7_leastOfAll cX7_leastOfAll 11 (some .int) (r9 + 3) κ [.ref q0, .int (nI fm9), .int (nI tk), .int (zI sp), .int (nI bare), .int (nI dp)] [(q0, .inr (6, [.ref q1, .ref q2, .ref q3, .int (nI cnt)])), (q2, .inl (κ.2 0, 120, .inl (nA fp))), (q3, .inl (κ.2 0, 120, .inl (nA fr)))] (fun vr_ => vr_ = zI (sp + dm bare (L.drop fm9) tk)) := by
  have hc : cnt ≤ 120 := hF.1
  have hLl : L.length = cnt := hL.1
  intro r9
  induction r9 with
  | zero =>
    intro fm9 tk sp dp hd hfm htk hpc hsp
    refine cp_of RX7 rfl (by decide) (Nat.le_of_ble_eq_true rfl) ?_
    intro p e s m below meth c C
    refine g_lv (lv' := [(0, .ref q0), (1, .int (nI fm9)), (2, .int (nI tk)), (3, .int (zI sp)), (4, .int (nI bare)), (5, .int (nI dp))]) [0, 1, 2, 3, 4, 5] rfl ?_
    refine g_iload_n (pc' := 1) C 3 dX7_leastOfAll_0 rfl rfl rfl ?_
    refine g_istore (pc' := 3) (lv' := [(6, .int (zI sp)), (0, .ref q0), (1, .int (nI fm9)), (2, .int (nI tk)), (3, .int (zI sp)), (4, .int (nI bare)), (5, .int (nI dp))]) C dX7_leastOfAll_1 (by decide) rfl rfl ?_
    refine g_iload (pc' := 5) C 6 dX7_leastOfAll_3 rfl rfl ?_
    refine g_bipush (pc' := 7) (v := nI 6) C dX7_leastOfAll_5 (by decide) rfl ?_
    refine g_icmp_ltN (pc' := 10) (tgt := 13) C (by omega) (by first | assumption | omega) dX7_leastOfAll_7 (by decide) rfl (fun c_7_1 => absurd c_7_1 (by omega)) (fun c_7_1 => ?_)
    refine g_iload (pc' := 12) C 0 dX7_leastOfAll_10 rfl rfl ?_
    exact g_retP C rfl rfl (show zI sp = zI (sp + dm bare (L.drop fm9) tk) by have e : tk = 63 := bc6_fullA tk htk (by omega); rw [e, dm_full _ (fun x hx => stOK_all hL hF x (List.mem_of_mem_drop hx)), Int.add_zero]) dX7_leastOfAll_12
  | succ r9 ih =>
    intro fm9 tk sp dp hd hfm htk hpc hsp
    refine cp_of RX7 rfl (by decide) (Nat.le_of_ble_eq_true rfl) ?_
    intro p e s m below meth c C
    refine g_lv (lv' := [(0, .ref q0), (1, .int (nI fm9)), (2, .int (nI tk)), (3, .int (zI sp)), (4, .int (nI bare)), (5, .int (nI dp))]) [0, 1, 2, 3, 4, 5] rfl ?_
    refine g_iload_n (pc' := 1) C 3 dX7_leastOfAll_0 rfl rfl rfl ?_
    refine g_istore (pc' := 3) (lv' := [(6, .int (zI sp)), (0, .ref q0), (1, .int (nI fm9)), (2, .int (nI tk)), (3, .int (zI sp)), (4, .int (nI bare)), (5, .int (nI dp))]) C dX7_leastOfAll_1 (by decide) rfl rfl ?_
    refine g_iload (pc' := 5) C 6 dX7_leastOfAll_3 rfl rfl ?_
    refine g_bipush (pc' := 7) (v := nI 6) C dX7_leastOfAll_5 (by decide) rfl ?_
    refine g_icmp_ltN (pc' := 10) (tgt := 13) C (by first | assumption | omega) (by first | assumption | omega) dX7_leastOfAll_7 (by decide) rfl (fun c_7_1 => ?_) (fun c_7_1 => absurd c_7_1 (by omega))
    refine g_iload_n (pc' := 14) C 2 dX7_leastOfAll_13 rfl rfl rfl ?_
    refine g_istore (pc' := 16) (lv' := [(7, .int (nI fm9)), (6, .int (zI sp)), (0, .ref q0), (1, .int (nI fm9)), (2, .int (nI tk)), (3, .int (zI sp)), (4, .int (nI bare)), (5, .int (nI dp))]) C dX7_leastOfAll_14 (by decide) rfl rfl ?_
    have lp_a : ∀ (fu_a : Nat) (i : Nat) (le : Int), (i ≤ cnt) → (le ≤ sp) → (-40000 ≤ le) → (min le (sp + dm bare (L.drop i) tk) = sp + dm bare (L.drop fm9) tk) → (cnt - i) < fu_a → G p l e (rmv (r9 + 1 + 3) 0 0) s m ([.ref q0, .int (nI fm9), .int (nI tk), .int (zI sp), .int (nI bare), .int (nI dp)] : List Value).toArray below meth c κ 11 (JP s) [(q0, .inr (6, [.ref q1, .ref q2, .ref q3, .int (nI cnt)])), (q2, .inl (κ.2 0, 120, .inl (nA fp))), (q3, .inl (κ.2 0, 120, .inl (nA fr)))] 0 0 (MQ below (vp_Si (fun vr_ => vr_ = zI (sp + dm bare (L.drop fm9) tk))) ([.ref q0, .int (nI fm9), .int (nI tk), .int (zI sp), .int (nI bare), .int (nI dp)] : List Value).toArray s 0 0 (fun _ => False)) 16 [(7, .int (nI i)), (6, .int (zI le)), (0, .ref q0), (1, .int (nI fm9)), (2, .int (nI tk)), (3, .int (zI sp)), (4, .int (nI bare)), (5, .int (nI dp))] [] := by
      intro fu_a
      induction fu_a with
      | zero => intro i le hi hle hlo hinv hmu; exact absurd hmu (Nat.not_lt_zero _)
      | succ fu_a ih_a =>
        intro i le hi hle hlo hinv hmu_a
        refine g_iload (pc' := 18) C 0 dX7_leastOfAll_16 rfl rfl ?_
        refine g_aload_n (pc' := 19) C 2 dX7_leastOfAll_18 rfl rfl rfl ?_
        refine g_get (pc' := 22) C fl_RX7_21_6 0 rfl rfl dX7_leastOfAll_19 rfl ?_
        refine g_icmp_geN (pc' := 25) (tgt := 96) C (by first | assumption | omega) (by first | assumption | omega) dX7_leastOfAll_22 (by decide) rfl (fun c_22_2 => ?_) (fun c_22_2 => ?_)
        · refine g_iload (pc' := 98) C 1 dX7_leastOfAll_96 rfl rfl ?_
          exact g_retP C rfl rfl (show zI le = zI (sp + dm bare (L.drop fm9) tk) by have e : i = cnt := (by omega); subst e; have h9 : L.drop i = [] := List.drop_eq_nil_of_le (by omega); rw [h9] at hinv; simp only [dm] at hinv; congr 1; omega) dX7_leastOfAll_98
        · refine g_aload_n (pc' := 26) C 2 dX7_leastOfAll_25 rfl rfl rfl ?_
          refine g_iload (pc' := 28) C 0 dX7_leastOfAll_26 rfl rfl ?_
          refine g_callP (pc' := 31) C lk_RX7_29 (kX7_placesOf l κ q0 q1 q2 q3 cnt fp i (by first | assumption | omega) (by first | assumption | omega)) 0 rfl rfl [0, 1] rfl rfl (Nat.le_of_ble_eq_true rfl) (by constructor <;> (simp only [rmv]; omega)) ⟨Nat.le_of_ble_eq_true rfl, Nat.le_of_ble_eq_true rfl⟩ rfl dX7_leastOfAll_28 rfl (fun r_28_3 h_28_3 => ?_)
          obtain rfl : r_28_3 = nI (fp i) := h_28_3
          refine g_istore (pc' := 33) (lv' := [(8, .int (nI (fp i))), (7, .int (nI i)), (6, .int (zI le)), (0, .ref q0), (1, .int (nI fm9)), (2, .int (nI tk)), (3, .int (zI sp)), (4, .int (nI bare)), (5, .int (nI dp))]) C dX7_leastOfAll_31 (by decide) rfl rfl ?_
          refine g_iload (pc' := 35) C 0 dX7_leastOfAll_33 rfl rfl ?_
          refine g_iload_n (pc' := 36) C 5 dX7_leastOfAll_35 rfl rfl rfl ?_
          refine g_iand (pc' := 37) (v := nI ((fp i) &&& tk)) C dX7_leastOfAll_36 (nI_and _ _) rfl ?_
          refine g_if_neN (pc' := 40) (tgt := 90) C (by have h := (hF.2 i (by omega)).2.1; have h2 : fp i &&& tk ≤ fp i := Nat.and_le_left; omega) dX7_leastOfAll_37 (by decide) rfl (fun c_37_4 => ?_) (fun c_37_4 => ?_)
          · refine g_iinc (pc' := 93) (v := nI (i + 1)) (lv' := [(7, .int (nI (i + 1))), (8, .int (nI (fp i))), (6, .int (zI le)), (0, .ref q0), (1, .int (nI fm9)), (2, .int (nI tk)), (3, .int (zI sp)), (4, .int (nI bare)), (5, .int (nI dp))]) C 1 dX7_leastOfAll_90 rfl (iincN1 _) (by decide) rfl rfl ?_
            refine g_goto (tgt := 16) C dX7_leastOfAll_93 (by decide) ?_
            refine g_lv (lv' := [(7, .int (nI (i + 1))), (6, .int (zI le)), (0, .ref q0), (1, .int (nI fm9)), (2, .int (nI tk)), (3, .int (zI sp)), (4, .int (nI bare)), (5, .int (nI dp))]) [0, 2, 3, 4, 5, 6, 7, 8] rfl ?_
            exact ih_a (i + 1) le (by first | assumption | omega) (by omega) (by omega) (by rw [stOK_at hL (by omega)] at hinv; simp only [dm, if_neg c_37_4] at hinv; exact hinv) (by omega)
          · refine g_aload_n (pc' := 41) C 3 dX7_leastOfAll_40 rfl rfl rfl ?_
            refine g_iload (pc' := 43) C 1 dX7_leastOfAll_41 rfl rfl ?_
            refine g_callP (pc' := 46) C lk_RX7_38 (kX7_priceOf l κ q0 q1 q2 q3 cnt fr i (by first | assumption | omega) (by first | assumption | omega)) 0 rfl rfl [0, 2] rfl rfl (Nat.le_of_ble_eq_true rfl) (by constructor <;> (simp only [rmv]; omega)) ⟨Nat.le_of_ble_eq_true rfl, Nat.le_of_ble_eq_true rfl⟩ rfl dX7_leastOfAll_43 rfl (fun r_43_5 h_43_5 => ?_)
            obtain rfl : r_43_5 = nI (fr i) := h_43_5
            refine g_iload (pc' := 48) C 7 dX7_leastOfAll_46 rfl rfl ?_
            refine g_iload (pc' := 50) C 0 dX7_leastOfAll_48 rfl rfl ?_
            refine g_callPS (pc' := 53) C lk_RX7_41 (kJ6_bitCount_0f7a4 l κ (fp i) (hF.2 i (by omega)).2.1) [] rfl rfl (Nat.le_of_ble_eq_true rfl) (by constructor <;> (simp only [rmv]; omega)) ⟨Nat.le_of_ble_eq_true rfl, Nat.le_of_ble_eq_true rfl⟩ rfl dX7_leastOfAll_50 rfl (fun r_50_6 h_50_6 => ?_)
            obtain rfl : r_50_6 = nI (bc6 (fp i)) := h_50_6
            refine g_imul (pc' := 54) (v := nI (bare * (bc6 (fp i)))) C dX7_leastOfAll_53 (pk_mul _ _) rfl ?_
            refine g_isub (pc' := 55) (v := zI (((fr i : Nat) : Int) - ((bare * bc6 (fp i) : Nat) : Int))) C dX7_leastOfAll_54 (nZ_sub _ _) rfl ?_
            refine g_istore (pc' := 57) (lv' := [(9, .int (zI (((fr i : Nat) : Int) - ((bare * bc6 (fp i) : Nat) : Int)))), (8, .int (nI (fp i))), (7, .int (nI i)), (6, .int (zI le)), (0, .ref q0), (1, .int (nI fm9)), (2, .int (nI tk)), (3, .int (zI sp)), (4, .int (nI bare)), (5, .int (nI dp))]) C dX7_leastOfAll_55 (by decide) rfl rfl ?_
            refine g_aload_n (pc' := 58) C 4 dX7_leastOfAll_57 rfl rfl rfl ?_
            refine g_iload (pc' := 60) C 2 dX7_leastOfAll_58 rfl rfl ?_
            refine g_iconst (pc' := 61) (v := nI 1) C dX7_leastOfAll_60 (by decide) rfl ?_
            refine g_iadd (pc' := 62) (v := nI (i + 1)) C dX7_leastOfAll_61 (nI_add _ _) rfl ?_
            refine g_iload_n (pc' := 63) C 6 dX7_leastOfAll_62 rfl rfl rfl ?_
            refine g_iload (pc' := 65) C 1 dX7_leastOfAll_63 rfl rfl ?_
            refine g_ior (pc' := 66) (v := nI (tk ||| (fp i))) C dX7_leastOfAll_65 (nI_or _ _) rfl ?_
            refine g_iload_n (pc' := 67) C 7 dX7_leastOfAll_66 rfl rfl rfl ?_
            refine g_iload (pc' := 69) C 0 dX7_leastOfAll_67 rfl rfl ?_
            refine g_iadd (pc' := 70) (v := zI (sp + (((fr i : Nat) : Int) - ((bare * bc6 (fp i) : Nat) : Int)))) C dX7_leastOfAll_69 (zI_add _ _) rfl ?_
            refine g_iload (pc' := 72) C 8 dX7_leastOfAll_70 rfl rfl ?_
            refine g_iload (pc' := 74) C 9 dX7_leastOfAll_72 rfl rfl ?_
            refine g_iconst (pc' := 75) (v := nI 1) C dX7_leastOfAll_74 (by decide) rfl ?_
            refine g_iadd (pc' := 76) (v := nI (dp + 1)) C dX7_leastOfAll_75 (nI_add _ _) rfl ?_
            refine g_callPS (pc' := 79) C lk_RX7_44 (ih (i + 1) (tk ||| (fp i)) (sp + (((fr i : Nat) : Int) - ((bare * bc6 (fp i) : Nat) : Int))) (dp + 1) (by omega) (by omega) (or64 htk (hF.2 i (by omega)).2.1) (by rw [bc6_orA tk htk (fp i) (hF.2 i (by omega)).2.1 c_37_4]; have h := bc6_posA (fp i) (hF.2 i (by omega)).2.1 (hF.2 i (by omega)).1; omega) (by have h3 := wt_ge hba (fn i, fp i, fr i); have h4 := (hF.2 i (by omega)).2.2; simp only [wt] at h3; constructor <;> omega)) [0, 1, 2] rfl rfl (Nat.le_of_ble_eq_true rfl) (by constructor <;> (simp only [rmv]; omega)) ⟨Nat.le_of_ble_eq_true rfl, Nat.le_of_ble_eq_true rfl⟩ rfl dX7_leastOfAll_76 rfl (fun r_76_7 h_76_7 => ?_)
            obtain rfl : r_76_7 = zI ((sp + (((fr i : Nat) : Int) - ((bare * bc6 (fp i) : Nat) : Int))) + dm bare (L.drop (i + 1)) (tk ||| (fp i))) := h_76_7
            refine g_istore (pc' := 81) (lv' := [(10, .int (zI ((sp + (((fr i : Nat) : Int) - ((bare * bc6 (fp i) : Nat) : Int))) + dm bare (L.drop (i + 1)) (tk ||| (fp i))))), (9, .int (zI (((fr i : Nat) : Int) - ((bare * bc6 (fp i) : Nat) : Int)))), (8, .int (nI (fp i))), (7, .int (nI i)), (6, .int (zI le)), (0, .ref q0), (1, .int (nI fm9)), (2, .int (nI tk)), (3, .int (zI sp)), (4, .int (nI bare)), (5, .int (nI dp))]) C dX7_leastOfAll_79 (by decide) rfl rfl ?_
            refine g_iload (pc' := 83) C 4 dX7_leastOfAll_81 rfl rfl ?_
            refine g_iload (pc' := 85) C 0 dX7_leastOfAll_83 rfl rfl ?_
            refine g_min (pc' := 88) (v := zI (min le ((sp + (((fr i : Nat) : Int) - ((bare * bc6 (fp i) : Nat) : Int))) + dm bare (L.drop (i + 1)) (tk ||| (fp i))))) C mn_RX7_48 wd_mn2 wd_mn3 wd_mn4 (by simp only [rmv]; omega) (by simp only [rmv]; show (0 : Nat) + 13 ≤ _; omega) ⟨Nat.le_of_ble_eq_true rfl, Nat.le_of_ble_eq_true rfl⟩ (min_Z (by constructor <;> omega) (by have h1 := dm_ge hba (L.drop (i + 1)) (tk ||| fp i); have h0 := dm_le bare (L.drop (i + 1)) (tk ||| fp i); have h2 : (L.drop (i + 1)).length ≤ 120 := (by rw [List.length_drop]; omega); have h3 := wt_ge hba (fn i, fp i, fr i); have h4 := (hF.2 i (by omega)).2.2; simp only [wt] at h3; constructor <;> omega)) dX7_leastOfAll_85 rfl ?_
            refine g_istore (pc' := 90) (lv' := [(6, .int (zI (min le ((sp + (((fr i : Nat) : Int) - ((bare * bc6 (fp i) : Nat) : Int))) + dm bare (L.drop (i + 1)) (tk ||| (fp i)))))), (10, .int (zI ((sp + (((fr i : Nat) : Int) - ((bare * bc6 (fp i) : Nat) : Int))) + dm bare (L.drop (i + 1)) (tk ||| (fp i))))), (9, .int (zI (((fr i : Nat) : Int) - ((bare * bc6 (fp i) : Nat) : Int)))), (8, .int (nI (fp i))), (7, .int (nI i)), (0, .ref q0), (1, .int (nI fm9)), (2, .int (nI tk)), (3, .int (zI sp)), (4, .int (nI bare)), (5, .int (nI dp))]) C dX7_leastOfAll_88 (by decide) rfl rfl ?_
            refine g_iinc (pc' := 93) (v := nI (i + 1)) (lv' := [(7, .int (nI (i + 1))), (6, .int (zI (min le ((sp + (((fr i : Nat) : Int) - ((bare * bc6 (fp i) : Nat) : Int))) + dm bare (L.drop (i + 1)) (tk ||| (fp i)))))), (10, .int (zI ((sp + (((fr i : Nat) : Int) - ((bare * bc6 (fp i) : Nat) : Int))) + dm bare (L.drop (i + 1)) (tk ||| (fp i))))), (9, .int (zI (((fr i : Nat) : Int) - ((bare * bc6 (fp i) : Nat) : Int)))), (8, .int (nI (fp i))), (0, .ref q0), (1, .int (nI fm9)), (2, .int (nI tk)), (3, .int (zI sp)), (4, .int (nI bare)), (5, .int (nI dp))]) C 4 dX7_leastOfAll_90 rfl (iincN1 _) (by decide) rfl rfl ?_
            refine g_goto (tgt := 16) C dX7_leastOfAll_93 (by decide) ?_
            refine g_lv (lv' := [(7, .int (nI (i + 1))), (6, .int (zI (min le ((sp + (((fr i : Nat) : Int) - ((bare * bc6 (fp i) : Nat) : Int))) + dm bare (L.drop (i + 1)) (tk ||| (fp i)))))), (0, .ref q0), (1, .int (nI fm9)), (2, .int (nI tk)), (3, .int (zI sp)), (4, .int (nI bare)), (5, .int (nI dp))]) [0, 1, 5, 6, 7, 8, 9, 10] rfl ?_
            exact ih_a (i + 1) (min le ((sp + (((fr i : Nat) : Int) - ((bare * bc6 (fp i) : Nat) : Int))) + dm bare (L.drop (i + 1)) (tk ||| (fp i)))) (by first | assumption | omega) (by omega) (by have h1 := dm_ge hba (L.drop (i + 1)) (tk ||| fp i); have h2 : (L.drop (i + 1)).length ≤ 120 := (by rw [List.length_drop]; omega); have h3 := wt_ge hba (fn i, fp i, fr i); simp only [wt] at h3; omega) (by rw [stOK_at hL (by omega)] at hinv; simp only [dm, if_pos c_37_4, wt] at hinv; omega) (by omega)
    exact lp_a (cnt + 1) fm9 sp hfm (Int.le_refl _) (by omega) (by have h := dm_le bare (L.drop fm9) tk; omega) (by omega)
end
section
/-! ===== NoSuchElementException: its constructor's link stands at 13 of its own pool; the library's chain holds 7 ===== -/
section NSEs
variable {p : Program} {l : Launch} {e : Env} {R : Room} {s : State} {m₀ : MethodId} {args : Array Value} {below : List Frame} {meth : Method} {c : Code} {W : State} {locs : List Loc} {cells slots : Nat}
def nse_X : String := "java/util/NoSuchElementException"
def nse_R : String := "java/lang/RuntimeException"
def nse_13 : ByteArray := ⟨#[0x2a, 0x2b, 0xb7, 0x00, 0x0d, 0xb1]⟩
theorem nse_t0 : decode nse_13 0 = .ok (.aload_n 0, 1) := by decide +kernel
theorem nse_t1 : decode nse_13 1 = .ok (.aload_n 1, 1) := by decide +kernel
theorem nse_t2 : decode nse_13 2 = .ok (.invokespecial 13, 3) := by decide +kernel
theorem nse_t5 : decode nse_13 5 = .ok (.return_, 1) := by decide +kernel
def nse_rest (own : String) (ic : Nat) : List Cond := [.methodLink own ic (Bundle.initS nse_X), .instantiable nse_X 6, .castable nse_X nse_X, .selects nse_X Bundle.tFill0 Bundle.tFill0, .selects nse_X Bundle.tFill Bundle.tFill,
   .lays nse_X Bundle.tN "cause" "Ljava/lang/Throwable;", .lays nse_X Bundle.tN "stackTrace" Bundle.steD, .lays nse_X Bundle.tN "suppressedExceptions" Bundle.listD, .lays nse_X Bundle.tN "detailMessage" "Ljava/lang/String;",
   .isRef (.static Bundle.tN "UNASSIGNED_STACK" Bundle.steD), .isRef (.static Bundle.tN "SUPPRESSED_SENTINEL" Bundle.listD),
   .fieldLink Bundle.tN 198 Bundle.tN "backtrace" "Ljava/lang/Object;", .lays Bundle.tN Bundle.tN "backtrace" "Ljava/lang/Object;", .lays nse_X Bundle.tN "backtrace" "Ljava/lang/Object;"]
def nse_at (own : String) (ic : Nat) : List Cond := Bundle.throwableAtoms ++ (Bundle.throwableSAtoms ++ (Bundle.passSAtoms nse_X nse_R 13 nse_13 ++ (Bundle.chainSAtoms nse_R ["java/lang/Exception"] ++ nse_rest own ic)))
set_option maxHeartbeats 4000000 in
theorem nse_thrown (X : Stand p l e R s m₀ args below meth c W locs cells slots) (hexec : p.tables.exec = Jvm.exec) (htr : e.platform.stackTraces = false) {own : String} {ic : Nat}
    (hown : s.vm.findClass own = some m₀.cls) (h : ∀ a ∈ nse_at own ic, a.before args s = true)
    (hlocs : ∀ x ∈ locs, ∀ cell, s.heap[x.base]? = some cell → cell.vm.isStatics = false)
    {a : Addr} {cX : ClassId} {kX : Class} (hfoundX : s.vm.findClass nse_X = some cX) (hkX : s.vm.classes[cX]? = some kX) (hcell : W.heap[a]? = some (freshCell cX kX)) (hnew : s.heap.size ≤ a)
    {msg : Value} (hmsg : msg.isRef = true)
    {g : JFrame} (hg : g.method = m₀) (hsize : g.locals.size = c.maxLocals) (hlocked : g.locked = none) (hentered : g.entered = []) {rest : List Value} (hstack : g.stack = msg :: .ref a :: .ref a :: rest)
    (hd6 : decode c.code g.pc = .ok (.invokespecial ic, 3)) (hd9 : decode c.code (g.pc + 3) = .ok (.athrow, 1)) (hout : ∀ x ∈ c.exceptionTable.toList, covers x (g.pc + 3) = false)
    (hRframes : 5 < R.frames) (hRlocals : 2 * g.monitorRoom + ((Value.ref a :: rest).map fun v => v.category).sum + (13 * 3 + 42) ≤ R.locals) (hlocks : meth.locks = false) :
    ∃ U : State, Steps p.tables e below (W.setTop g) U ∧ U.status = .running ∧ Ended U below (.threw a) ∧ s.WarmedH U.vm ∧ s.sameButNew ({ U with vm := s.vm } : State) locs cells slots ∧
      ∃ ce, U.heap[a]? = some ce ∧ ce.vm = .none ∧ ce.cls = cX := by
  have q (x : Cond) (hx : x ∈ nse_rest own ic) : x.holds args s none s [] = true := h x (by simp [nse_at, hx])
  have howns : e.platform.frameOwnsMonitors = true := by rw [X.admits.platform]
  have hfin : e.platform.finalization = false := by rw [X.admits.platform]
  have hpl : e.platform.magicAccessors = ({} : Platform).magicAccessors := by rw [X.admits.platform]
  obtain ⟨T, Z0, L, -, Y⟩ := ThrowableC.of_atoms (args := args) howns hfin hpl (fun x hx => h x (by simp [nse_at, hx]))
  obtain ⟨Z, M, LZ, LM, hnZ⟩ := Init0T.ofS_atoms (args := args) hpl L Y (fun x hx => h x (by simp [nse_at, hx]))
  obtain ⟨N, LN, hN1, hN2⟩ := PassC.ofS_atoms (args := args) (s := s) hpl (X := nse_X) (Y := nse_R) (by decide) (by decide) nse_t0 nse_t1 nse_t2 nse_t5 (fun x hx => h x (by simp [nse_at, hx]))
  obtain ⟨P1, Ps, hlen, L1, hL, hP1m, hlink1, hlink⟩ := Bundle.chainS (args := args) hpl hnZ ["java/lang/Exception"] nse_R (by decide) (by decide) (fun x hx => h x (by simp [nse_at, hx]))
  have hfound : s.vm.findClass nse_X = some N.m.cls := findClass_of_methodNamed hN1
  obtain rfl : cX = N.m.cls := Option.some.inj (hfoundX.symm.trans hfound)
  obtain ⟨c1, k1, hc1, hk, hord, -, -, hn6⟩ := Cond.instantiable_spec (q (.instantiable nse_X 6) (by simp [nse_rest]))
  obtain rfl : c1 = N.m.cls := Option.some.inj (hc1.symm.trans hfound)
  obtain rfl : kX = k1 := Option.some.inj (hkX.symm.trans hk)
  have sel (t : MethodName) (mt : MethodId) (ht : s.methodNamed? t = some mt) (hd : t.cls ≠ "java/lang/invoke/MethodHandle" ∧ t.cls ≠ "java/lang/invoke/VarHandle") (hw : Cond.selects nse_X t t ∈ nse_rest own ic) : selectMethod e.platform s.vm N.m.cls mt = .method mt := by
    obtain ⟨c2, r2, m2, q1, q2, q3, q4, -⟩ := Cond.selects_spec (q _ hw)
    obtain rfl := Option.some.inj (q1.symm.trans hfound)
    obtain rfl := Option.some.inj (q2.symm.trans (State.methodFound?_of_named ht hd))
    obtain rfl := Option.some.inj (q3.symm.trans ht)
    rw [Launch.admits_selectMethod X.admits]; exact q4
  have s0 := sel Bundle.tFill0 T.fill0 Y.fill0 (by decide) (by simp [nse_rest])
  have s1 := sel Bundle.tFill T.fill Y.fill (by decide) (by simp [nse_rest])
  obtain ⟨cellS0, hcS0, hiss⟩ := Y.statics
  obtain ⟨u0, hu0⟩ := Cond.staticRefV Y.unassigned L.unassignedStatic L.statics hcS0 hiss (q (.isRef (.static Bundle.tN "UNASSIGNED_STACK" Bundle.steD)) (by simp [nse_rest]))
  obtain ⟨sen, hsen⟩ := Cond.staticRefV Y.sentinel L.sentinelStatic L.statics hcS0 hiss (q (.isRef (.static Bundle.tN "SUPPRESSED_SENTINEL" Bundle.listD)) (by simp [nse_rest]))
  obtain ⟨ci198, i198, fB, hk198, hg198, ha198, hsB, -, hnB, htB, hffB⟩ := Cond.ownField (t := .object "java/lang/Object") Y.found L.cls (by decide +kernel) (q (.fieldLink Bundle.tN 198 Bundle.tN "backtrace" "Ljava/lang/Object;") (by simp [nse_rest])) (q (.lays Bundle.tN Bundle.tN "backtrace" "Ljava/lang/Object;") (by simp [nse_rest])) e.platform hpl
  obtain ⟨cellS, hcS', heS, -, hkeep⟩ := X.same.2.2.2.2.2 T.aS cellS0 hcS0
  have hcellS : W.heap[T.aS]? = some cellS := hcS'
  have hno : ∀ i, (⟨T.aS, i⟩ : Loc) ∉ locs := fun i hi => by
    have h2 := hlocs _ hi cellS0 hcS0
    rw [hiss] at h2; cases h2
  have hkn : cellS.vm ≠ .unknown := by
    rw [heS]; intro hu
    rw [show cellS0.vm = .unknown from hu] at hiss
    cases hiss
  have hne : T.aS ≠ a := Nat.ne_of_lt (Nat.lt_of_lt_of_le (Array.getElem?_eq_some_iff.mp hcS0).1 hnew)
  obtain ⟨iM, hffM⟩ := Y.msg
  obtain ⟨tyC, dC, hdC, hdnC⟩ := Cond.laysAt hfound hk Y.cause (q (.lays nse_X Bundle.tN "cause" "Ljava/lang/Throwable;") (by simp [nse_rest]))
  obtain ⟨tyS, dS, hdS, hdnS⟩ := Cond.laysAt hfound hk Y.stack (q (.lays nse_X Bundle.tN "stackTrace" Bundle.steD) (by simp [nse_rest]))
  obtain ⟨tyP, dP, hdP, hdnP⟩ := Cond.laysAt hfound hk Y.supp (q (.lays nse_X Bundle.tN "suppressedExceptions" Bundle.listD) (by simp [nse_rest]))
  obtain ⟨tyM, dM, hdM, hdnM⟩ := Cond.laysAt hfound hk hffM (q (.lays nse_X Bundle.tN "detailMessage" "Ljava/lang/String;") (by simp [nse_rest]))
  obtain ⟨tyB, dB, hdB, hdnB⟩ := Cond.laysAt hfound hk hffB (q (.lays nse_X Bundle.tN "backtrace" "Ljava/lang/Object;") (by simp [nse_rest]))
  have bC := Cond.laysApart hdB hdC hdnB hdnC (by rw [hnB, Y.causeName]; decide)
  have bS := Cond.laysApart hdB hdS hdnB hdnS (by rw [hnB, Y.stackName]; decide)
  have bP := Cond.laysApart hdB hdP hdnB hdnP (by rw [hnB, Y.suppName]; decide)
  have hskip : SkipFacts T e.platform s (fun u => u) u0 ((preparedCellV T.toThrowableT (freshCell N.m.cls kX) a u0 sen).withEntry W.cur) := by
    refine ⟨{ ci198 := ci198, i198 := i198, fBack := fB }, ⟨hk198, hg198, ha198, hsB⟩, ?_, fun _ _ => rfl⟩
    have h9 := fresh_default (c := N.m.cls) tyB
    rw [htB] at h9
    simpa [preparedCellV, Cell.setSlot, Cell.withEntry, Array.getElem?_setIfInBounds, bC, bS, bP, bC.symm, bS.symm, bP.symm, defaultValue] using h9
  obtain ⟨tm, -, -, -, vm₁, hnC, -, -, -, -, -, -, -, hW₁, st1⟩ := Steps.initColdS (tb := p.tables) (e := e) (below := below) (s := s) (U := W) X.here hexec X.warmed hpl hown (t := Bundle.initS nse_X) rfl rfl (by decide)
    (q (.methodLink own ic (Bundle.initS nse_X)) (by simp [nse_rest])) (h (.instanceMethod (Bundle.initS nse_X)) (by simp [nse_at, Bundle.passSAtoms])) (bytes := nse_13) (maxL := 2) (h (.code (Bundle.initS nse_X) nse_13 2 none) (by simp [nse_at, Bundle.passSAtoms])) (f := g) hg (a := a) (msg := msg) (rest := .ref a :: rest) hstack hd6
  obtain rfl : tm = N.m := Option.some.inj (hnC.symm.trans hN1)
  have X₁ := X.noted hW₁
  obtain ⟨vm₂, X₂, st2⟩ := X₁.ctorMessageOffV hexec (g := { g with stack := .ref a :: rest }) hg hsize T L Z LZ M LM (N :: P1 :: Ps)
    (fun P hP => by rcases List.mem_cons.mp hP with rfl | hP
                    · exact LN
                    · rcases List.mem_cons.mp hP with rfl | hP
                      · exact L1
                      · exact hL P hP)
    ⟨Option.some.inj (hN2.symm.trans hP1m), hlink1, hlink⟩ (u0 := u0) (sen := sen) (self := a) hmsg (cell := freshCell N.m.cls kX) (cellS := cellS)
    hcell (fun _ => by simp) (by simp) rfl rfl s0 s1 hcellS hne hkn (by rw [hkeep _ (hno _)]; exact hu0) (by rw [hkeep _ (hno _)]; exact hsen)
    (Takes.of_laid hk hord tyC (by rw [Y.causeType]; rfl)) (Takes.of_laid hk hord tyS (by rw [Y.stackType]; exact fits_refV_array _ u0)) (Takes.of_laid hk hord tyP (by rw [Y.suppType]; exact fits_refV_object _ sen))
    (Takes.of_laid hk hord tyM (by rw [Y.msgType]; exact fits_refV_object _ ⟨msg, hmsg⟩)) Y.objLocals hskip htr [] hd6
    (by simp only [List.length_cons, hlen]; show 1 + 1 + 1 + 2 < _; exact hRframes) (by simp only [List.length_cons, hlen]; exact hRlocals)
  obtain ⟨hwalk, hrun, hended, hWU, hsame⟩ := X₂.athrowLeaves hexec (g := { g with stack := .ref a :: rest, pc := g.pc + 3 }) hg hlocked hentered hout (a := a) (rest := rest) rfl hd9
  have hlt : a < ((W.setVm vm₁).setVm vm₂).heap.size := (Array.getElem?_eq_some_iff.mp hcell).1
  have hU := heapAt_setCell_self (s := (W.setVm vm₁).setVm vm₂) (plainBareV T.toThrowableT (freshCell N.m.cls kX) a u0 sen msg) hlt
  refine ⟨_, st1 _ (fun acts => ?_), hrun, hended, hWU, hsame.weaken (fun y hy hy2 => ?_) (Nat.le_refl _) (Nat.le_refl _), _, hU, rfl, rfl⟩
  · rw [doInvoke_state]
    exact st2 _ hwalk
  · rcases List.mem_append.mp hy with h1 | h1
    · exact h1
    · have hb : y.base = a := by
        simp only [List.mem_cons, List.not_mem_nil, or_false] at h1
        rcases h1 with rfl | rfl | rfl | rfl | rfl <;> rfl
      rw [hb] at hy2
      exact absurd hy2 (Nat.not_lt.mpr hnew)
end NSEs
end
section
set_option maxHeartbeats 4000000 in
set_option maxRecDepth 100000 in
theorem kX0_hasRoom (l : Launch) (κ : KK) (k0 : Nat) (k1 : Nat) (k2 : Nat) (r : Nat) (e9 : Nat) (hr : r < 3) (he : e9 < 8) : CP l yX0_hasRoom cX0_hasRoom 3 (some .boolean) 0 κ [.ref k0, .int (nI r), .int (nI e9)] [(k0, .inr (0, [.ref k1, .ref k2]))] (fun vr_ => vr_ = b2i true) := by
  refine cp_of RX0 rfl (by decide) (Nat.le_of_ble_eq_true rfl) ?_
  intro p e s m below meth c C
  refine g_lv (lv' := [(0, .ref k0), (1, .int (nI r)), (2, .int (nI e9))]) [0, 1, 2] rfl ?_
  refine g_iload_n (pc' := 1) C 1 dX0_hasRoom_0 rfl rfl rfl ?_
  refine g_if_ltN (pc' := 4) (tgt := 23) C (by first | assumption | omega) dX0_hasRoom_1 (by decide) rfl ?_
  refine g_iload_n (pc' := 5) C 1 dX0_hasRoom_4 rfl rfl rfl ?_
  refine g_iconst (pc' := 6) (v := nI 3) C dX0_hasRoom_5 (by decide) rfl ?_
  refine g_icmp_geN (pc' := 9) (tgt := 23) C (by first | assumption | omega) (by first | assumption | omega) dX0_hasRoom_6 (by decide) rfl (fun c_6_2 => absurd c_6_2 (by omega)) (fun c_6_2 => ?_)
  refine g_iload_n (pc' := 10) C 2 dX0_hasRoom_9 rfl rfl rfl ?_
  refine g_if_ltN (pc' := 13) (tgt := 23) C (by first | assumption | omega) dX0_hasRoom_10 (by decide) rfl ?_
  refine g_iload_n (pc' := 14) C 2 dX0_hasRoom_13 rfl rfl rfl ?_
  refine g_bipush (pc' := 16) (v := nI 8) C dX0_hasRoom_14 (by decide) rfl ?_
  refine g_icmp_geN (pc' := 19) (tgt := 23) C (by first | assumption | omega) (by first | assumption | omega) dX0_hasRoom_16 (by decide) rfl (fun c_16_4 => ?_) (fun c_16_4 => ?_)
  · refine g_iconst (pc' := 24) (v := nI 0) C dX0_hasRoom_23 (by decide) rfl ?_
    exact g_retP C rfl rfl (show nI 0 = b2i true by exact bF (by simp <;> omega)) dX0_hasRoom_24
  · refine g_iconst (pc' := 20) (v := nI 1) C dX0_hasRoom_19 (by decide) rfl ?_
    refine g_goto (tgt := 24) C dX0_hasRoom_20 (by decide) ?_
    exact g_retP C rfl rfl (show nI 1 = b2i true by exact bT (by simp <;> omega)) dX0_hasRoom_24

set_option maxHeartbeats 4000000 in
set_option maxRecDepth 100000 in
theorem kX0_intervalOf (l : Launch) (κ : KK) (k0 : Nat) (k1 : Nat) (k2 : Nat) (ki : Nat → Nat) (kd : Nat → Nat) (iv : Nat → Nat → Nat) (dv : Nat → Nat → Nat) (r : Nat) (e9 : Nat) (hr : r < 3) (he : e9 < 8) : CP l yX0_intervalOf cX0_intervalOf 3 (some .int) 1 κ [.ref k0, .int (nI r), .int (nI e9)] [(k0, .inr (0, [.ref k1, .ref k2])), (k1, .inl (κ.2 3, 3, .inr (.inr (.inr (.inr (g3 ki)))))), (k2, .inl (κ.2 3, 3, .inr (.inr (.inr (.inr (g3 kd)))))), ((ki 0), .inl (κ.2 0, 8, .inl (nA (iv 0)))), ((ki 1), .inl (κ.2 0, 8, .inl (nA (iv 1)))), ((ki 2), .inl (κ.2 0, 8, .inl (nA (iv 2)))), ((kd 0), .inl (κ.2 0, 8, .inl (nA (dv 0)))), ((kd 1), .inl (κ.2 0, 8, .inl (nA (dv 1)))), ((kd 2), .inl (κ.2 0, 8, .inl (nA (dv 2))))] (fun vr_ => vr_ = nI (iv r e9)) := by
  refine cp_of RX0 rfl (by decide) (Nat.le_of_ble_eq_true rfl) ?_
  intro p e s m below meth c C
  refine g_lv (lv' := [(0, .ref k0), (1, .int (nI r)), (2, .int (nI e9))]) [0, 1, 2] rfl ?_
  refine g_aload_n (pc' := 1) C 0 dX0_intervalOf_0 rfl rfl rfl ?_
  refine g_iload_n (pc' := 2) C 1 dX0_intervalOf_1 rfl rfl rfl ?_
  refine g_iload_n (pc' := 3) C 2 dX0_intervalOf_2 rfl rfl rfl ?_
  refine g_callP (pc' := 6) C lk_RX0_19 (kX0_hasRoom l κ k0 k1 k2 r e9 (by first | assumption | omega) (by first | assumption | omega)) 0 rfl rfl [0] rfl rfl (Nat.le_of_ble_eq_true rfl) ⟨Nat.le_of_ble_eq_true rfl, Nat.le_of_ble_eq_true rfl⟩ ⟨Nat.le_of_ble_eq_true rfl, Nat.le_of_ble_eq_true rfl⟩ rfl dX0_intervalOf_3 rfl (fun r_3_1 h_3_1 => ?_)
  obtain rfl : r_3_1 = b2i true := h_3_1
  refine g_if_eqB (pc' := 9) (tgt := 20) C dX0_intervalOf_6 (by decide) rfl (fun z => absurd z (by decide)) (fun _ => ?_)
  refine g_aload_n (pc' := 10) C 0 dX0_intervalOf_9 rfl rfl rfl ?_
  refine g_get (pc' := 13) C fl_RX0_11_0 0 rfl rfl dX0_intervalOf_10 rfl ?_
  refine g_iload_n (pc' := 14) C 1 dX0_intervalOf_13 rfl rfl rfl ?_
  refine g_aald2 (pc' := 15) (b := (ki r)) C 1 rfl r (by first | assumption | omega) (by decide) (g3_at (by omega)) dX0_intervalOf_14 rfl ?_
  refine g_iload_n (pc' := 16) C 2 dX0_intervalOf_15 rfl rfl rfl ?_
  refine g_ialdN (pc' := 17) C (3 + r) (f := (iv r)) (row3 (κ := κ) (cr := ki) (M := iv) (X := [(k0, .inr (0, [.ref k1, .ref k2])), (k1, .inl (κ.2 3, 3, .inr (.inr (.inr (.inr (g3 ki)))))), (k2, .inl (κ.2 3, 3, .inr (.inr (.inr (.inr (g3 kd))))))]) (Y := [((kd 0), .inl (κ.2 0, 8, .inl (nA (dv 0)))), ((kd 1), .inl (κ.2 0, 8, .inl (nA (dv 1)))), ((kd 2), .inl (κ.2 0, 8, .inl (nA (dv 2))))]) (b := 3) rfl rfl (by omega)) e9 (by first | assumption | omega) (by decide) dX0_intervalOf_16 rfl ?_
  refine g_goto (tgt := 21) C dX0_intervalOf_17 (by decide) ?_
  exact g_retP C rfl rfl (show nI ((iv r) e9) = nI (iv r e9) by rfl) dX0_intervalOf_21

set_option maxHeartbeats 4000000 in
set_option maxRecDepth 100000 in
theorem kX0_has (l : Launch) (κ : KK) (k0 : Nat) (k1 : Nat) (k2 : Nat) (ki : Nat → Nat) (kd : Nat → Nat) (iv : Nat → Nat → Nat) (dv : Nat → Nat → Nat) (r : Nat) (e9 : Nat) (hK : KW iv dv) (hr : r < 3) (he : e9 < 8) : CP l yX0_has cX0_has 3 (some .boolean) 2 κ [.ref k0, .int (nI r), .int (nI e9)] [(k0, .inr (0, [.ref k1, .ref k2])), (k1, .inl (κ.2 3, 3, .inr (.inr (.inr (.inr (g3 ki)))))), (k2, .inl (κ.2 3, 3, .inr (.inr (.inr (.inr (g3 kd)))))), ((ki 0), .inl (κ.2 0, 8, .inl (nA (iv 0)))), ((ki 1), .inl (κ.2 0, 8, .inl (nA (iv 1)))), ((ki 2), .inl (κ.2 0, 8, .inl (nA (iv 2)))), ((kd 0), .inl (κ.2 0, 8, .inl (nA (dv 0)))), ((kd 1), .inl (κ.2 0, 8, .inl (nA (dv 1)))), ((kd 2), .inl (κ.2 0, 8, .inl (nA (dv 2))))] (fun vr_ => vr_ = b2i (decide (0 < iv r e9))) := by
  refine cp_of RX0 rfl (by decide) (Nat.le_of_ble_eq_true rfl) ?_
  intro p e s m below meth c C
  refine g_lv (lv' := [(0, .ref k0), (1, .int (nI r)), (2, .int (nI e9))]) [0, 1, 2] rfl ?_
  refine g_aload_n (pc' := 1) C 0 dX0_has_0 rfl rfl rfl ?_
  refine g_iload_n (pc' := 2) C 1 dX0_has_1 rfl rfl rfl ?_
  refine g_iload_n (pc' := 3) C 2 dX0_has_2 rfl rfl rfl ?_
  refine g_callP (pc' := 6) C lk_RX0_23 (kX0_intervalOf l κ k0 k1 k2 ki kd iv dv r e9 (by first | assumption | omega) (by first | assumption | omega)) 0 rfl rfl [0, 1, 2, 3, 4, 5, 6, 7, 8] rfl rfl (Nat.le_of_ble_eq_true rfl) ⟨Nat.le_of_ble_eq_true rfl, Nat.le_of_ble_eq_true rfl⟩ ⟨Nat.le_of_ble_eq_true rfl, Nat.le_of_ble_eq_true rfl⟩ rfl dX0_has_3 rfl (fun r_3_1 h_3_1 => ?_)
  obtain rfl : r_3_1 = nI (iv r e9) := h_3_1
  refine g_if_leN (pc' := 9) (tgt := 13) C (by have := (hK r e9).1; omega) dX0_has_6 (by decide) rfl (fun c_6_2 => ?_) (fun c_6_2 => ?_)
  · refine g_iconst (pc' := 14) (v := nI 0) C dX0_has_13 (by decide) rfl ?_
    exact g_retP C rfl rfl (show nI 0 = b2i (decide (0 < iv r e9)) by exact bF (by simp <;> omega)) dX0_has_14
  · refine g_iconst (pc' := 10) (v := nI 1) C dX0_has_9 (by decide) rfl ?_
    refine g_goto (tgt := 14) C dX0_has_10 (by decide) ?_
    exact g_retP C rfl rfl (show nI 1 = b2i (decide (0 < iv r e9)) by exact bT (by simp <;> omega)) dX0_has_14

set_option maxHeartbeats 4000000 in
set_option maxRecDepth 100000 in
theorem kX0_isDue (l : Launch) (κ : KK) (k0 : Nat) (k1 : Nat) (k2 : Nat) (ki : Nat → Nat) (kd : Nat → Nat) (iv : Nat → Nat → Nat) (dv : Nat → Nat → Nat) (r : Nat) (e9 : Nat) (td : Nat) (hK : KW iv dv) (hr : r < 3) (he : e9 < 8) (htd : td < 2 ^ 30) : CP l yX0_isDue cX0_isDue 4 (some .boolean) 3 κ [.ref k0, .int (nI r), .int (nI e9), .int (nI td)] [(k0, .inr (0, [.ref k1, .ref k2])), (k1, .inl (κ.2 3, 3, .inr (.inr (.inr (.inr (g3 ki)))))), (k2, .inl (κ.2 3, 3, .inr (.inr (.inr (.inr (g3 kd)))))), ((ki 0), .inl (κ.2 0, 8, .inl (nA (iv 0)))), ((ki 1), .inl (κ.2 0, 8, .inl (nA (iv 1)))), ((ki 2), .inl (κ.2 0, 8, .inl (nA (iv 2)))), ((kd 0), .inl (κ.2 0, 8, .inl (nA (dv 0)))), ((kd 1), .inl (κ.2 0, 8, .inl (nA (dv 1)))), ((kd 2), .inl (κ.2 0, 8, .inl (nA (dv 2))))] (fun vr_ => vr_ = b2i (decide (0 < iv r e9) && decide (dv r e9 ≤ td))) := by
  refine cp_of RX0 rfl (by decide) (Nat.le_of_ble_eq_true rfl) ?_
  intro p e s m below meth c C
  refine g_lv (lv' := [(0, .ref k0), (1, .int (nI r)), (2, .int (nI e9)), (3, .int (nI td))]) [0, 1, 2, 3] rfl ?_
  refine g_aload_n (pc' := 1) C 0 dX0_isDue_0 rfl rfl rfl ?_
  refine g_iload_n (pc' := 2) C 1 dX0_isDue_1 rfl rfl rfl ?_
  refine g_iload_n (pc' := 3) C 2 dX0_isDue_2 rfl rfl rfl ?_
  refine g_callP (pc' := 6) C lk_RX0_27 (kX0_has l κ k0 k1 k2 ki kd iv dv r e9 (by first | assumption | omega) (by first | assumption | omega) (by first | assumption | omega)) 0 rfl rfl [0, 1, 2, 3, 4, 5, 6, 7, 8] rfl rfl (Nat.le_of_ble_eq_true rfl) ⟨Nat.le_of_ble_eq_true rfl, Nat.le_of_ble_eq_true rfl⟩ ⟨Nat.le_of_ble_eq_true rfl, Nat.le_of_ble_eq_true rfl⟩ rfl dX0_isDue_3 rfl (fun r_3_1 h_3_1 => ?_)
  obtain rfl : r_3_1 = b2i (decide (0 < iv r e9)) := h_3_1
  refine g_if_eqB (pc' := 9) (tgt := 25) C dX0_isDue_6 (by decide) rfl (fun c_6_2 => ?_) (fun c_6_2 => ?_)
  · refine g_iconst (pc' := 26) (v := nI 0) C dX0_isDue_25 (by decide) rfl ?_
    exact g_retP C rfl rfl (show nI 0 = b2i (decide (0 < iv r e9) && decide (dv r e9 ≤ td)) by exact bF (by simp at *; simp [*] <;> omega)) dX0_isDue_26
  · refine g_aload_n (pc' := 10) C 0 dX0_isDue_9 rfl rfl rfl ?_
    refine g_get (pc' := 13) C fl_RX0_16_0 0 rfl rfl dX0_isDue_10 rfl ?_
    refine g_iload_n (pc' := 14) C 1 dX0_isDue_13 rfl rfl rfl ?_
    refine g_aald2 (pc' := 15) (b := (kd r)) C 2 rfl r (by first | assumption | omega) (by decide) (g3_at (by omega)) dX0_isDue_14 rfl ?_
    refine g_iload_n (pc' := 16) C 2 dX0_isDue_15 rfl rfl rfl ?_
    refine g_ialdN (pc' := 17) C (6 + r) (f := (dv r)) (row3 (κ := κ) (cr := kd) (M := dv) (X := [(k0, .inr (0, [.ref k1, .ref k2])), (k1, .inl (κ.2 3, 3, .inr (.inr (.inr (.inr (g3 ki)))))), (k2, .inl (κ.2 3, 3, .inr (.inr (.inr (.inr (g3 kd)))))), ((ki 0), .inl (κ.2 0, 8, .inl (nA (iv 0)))), ((ki 1), .inl (κ.2 0, 8, .inl (nA (iv 1)))), ((ki 2), .inl (κ.2 0, 8, .inl (nA (iv 2))))]) (Y := []) (b := 6) rfl rfl (by omega)) e9 (by first | assumption | omega) (by decide) dX0_isDue_16 rfl ?_
    refine g_iload_n (pc' := 18) C 3 dX0_isDue_17 rfl rfl rfl ?_
    refine g_icmp_gtN (pc' := 21) (tgt := 25) C (by have := (hK r e9).2; omega) (by first | assumption | omega) dX0_isDue_18 (by decide) rfl (fun c_18_3 => ?_) (fun c_18_3 => ?_)
    · refine g_iconst (pc' := 26) (v := nI 0) C dX0_isDue_25 (by decide) rfl ?_
      exact g_retP C rfl rfl (show nI 0 = b2i (decide (0 < iv r e9) && decide (dv r e9 ≤ td)) by exact bF (by simp at *; simp [*] <;> omega)) dX0_isDue_26
    · refine g_iconst (pc' := 22) (v := nI 1) C dX0_isDue_21 (by decide) rfl ?_
      refine g_goto (tgt := 26) C dX0_isDue_22 (by decide) ?_
      exact g_retP C rfl rfl (show nI 1 = b2i (decide (0 < iv r e9) && decide (dv r e9 ≤ td)) by exact bT (by simp at *; simp [*] <;> omega)) dX0_isDue_26

set_option maxHeartbeats 4000000 in
set_option maxRecDepth 100000 in
theorem kX0_put (l : Launch) (κ : KK) (k0 : Nat) (k1 : Nat) (k2 : Nat) (ki : Nat → Nat) (kd : Nat → Nat) (iv : Nat → Nat → Nat) (dv : Nat → Nat → Nat) (r : Nat) (e9 : Nat) (x9 : Nat) (td : Nat) (hr : r < 3) (he : e9 < 8) : CMv l yX0_put cX0_put 5 none 1 0 0 κ [.ref k0, .int (nI r), .int (nI e9), .int (nI x9), .int (nI td)] [(k0, .inr (0, [.ref k1, .ref k2])), (k1, .inl (κ.2 3, 3, .inr (.inr (.inr (.inr (g3 ki)))))), (k2, .inl (κ.2 3, 3, .inr (.inr (.inr (.inr (g3 kd)))))), ((ki 0), .inl (κ.2 0, 8, .inl (nA (iv 0)))), ((ki 1), .inl (κ.2 0, 8, .inl (nA (iv 1)))), ((ki 2), .inl (κ.2 0, 8, .inl (nA (iv 2)))), ((kd 0), .inl (κ.2 0, 8, .inl (nA (dv 0)))), ((kd 1), .inl (κ.2 0, 8, .inl (nA (dv 1)))), ((kd 2), .inl (κ.2 0, 8, .inl (nA (dv 2))))] (fun (vw_ : va_W) => vw_ = [(k0, .inr (0, [.ref k1, .ref k2])), (k1, .inl (κ.2 3, 3, .inr (.inr (.inr (.inr (g3 ki)))))), (k2, .inl (κ.2 3, 3, .inr (.inr (.inr (.inr (g3 kd)))))), ((ki 0), .inl (κ.2 0, 8, .inl (nA ((va_up iv r (va_up (iv r) e9 x9)) 0)))), ((ki 1), .inl (κ.2 0, 8, .inl (nA ((va_up iv r (va_up (iv r) e9 x9)) 1)))), ((ki 2), .inl (κ.2 0, 8, .inl (nA ((va_up iv r (va_up (iv r) e9 x9)) 2)))), ((kd 0), .inl (κ.2 0, 8, .inl (nA ((va_up dv r (va_up (dv r) e9 (td + x9))) 0)))), ((kd 1), .inl (κ.2 0, 8, .inl (nA ((va_up dv r (va_up (dv r) e9 (td + x9))) 1)))), ((kd 2), .inl (κ.2 0, 8, .inl (nA ((va_up dv r (va_up (dv r) e9 (td + x9))) 2))))]) := by
  refine cmv_of RX0 rfl (by decide) (Nat.le_of_ble_eq_true rfl) ?_
  intro p e s m below meth c A C hAe hA hini
  refine g_lv (lv' := [(0, .ref k0), (1, .int (nI r)), (2, .int (nI e9)), (3, .int (nI x9)), (4, .int (nI td))]) [0, 1, 2, 3, 4] rfl ?_
  refine g_aload_n (pc' := 1) C 0 dX0_put_0 rfl rfl rfl ?_
  refine g_iload_n (pc' := 2) C 1 dX0_put_1 rfl rfl rfl ?_
  refine g_iload_n (pc' := 3) C 2 dX0_put_2 rfl rfl rfl ?_
  refine g_callP (pc' := 6) C lk_RX0_19 (kX0_hasRoom l κ k0 k1 k2 r e9 (by first | assumption | omega) (by first | assumption | omega)) 0 rfl rfl [0] rfl rfl (Nat.le_of_ble_eq_true rfl) ⟨Nat.le_of_ble_eq_true rfl, Nat.le_of_ble_eq_true rfl⟩ ⟨Nat.le_of_ble_eq_true rfl, Nat.le_of_ble_eq_true rfl⟩ rfl dX0_put_3 rfl (fun r_3_1 h_3_1 => ?_)
  obtain rfl : r_3_1 = b2i true := h_3_1
  refine g_if_eqB (pc' := 9) (tgt := 30) C dX0_put_6 (by decide) rfl (fun z => absurd z (by decide)) (fun _ => ?_)
  refine g_aload_n (pc' := 10) C 0 dX0_put_9 rfl rfl rfl ?_
  refine g_get (pc' := 13) C fl_RX0_11_0 0 rfl rfl dX0_put_10 rfl ?_
  refine g_iload_n (pc' := 14) C 1 dX0_put_13 rfl rfl rfl ?_
  refine g_aald2 (pc' := 15) (b := (ki r)) C 1 rfl r (by first | assumption | omega) (by decide) (g3_at (by omega)) dX0_put_14 rfl ?_
  refine g_iload_n (pc' := 16) C 2 dX0_put_15 rfl rfl rfl ?_
  refine g_iload_n (pc' := 17) C 3 dX0_put_16 rfl rfl rfl ?_
  refine g_iastN (pc' := 18) (ws' := [(k0, .inr (0, [.ref k1, .ref k2])), (k1, .inl (κ.2 3, 3, .inr (.inr (.inr (.inr (g3 ki)))))), (k2, .inl (κ.2 3, 3, .inr (.inr (.inr (.inr (g3 kd)))))), ((ki 0), .inl (κ.2 0, 8, .inl (nA ((va_up iv r (va_up (iv r) e9 x9)) 0)))), ((ki 1), .inl (κ.2 0, 8, .inl (nA ((va_up iv r (va_up (iv r) e9 x9)) 1)))), ((ki 2), .inl (κ.2 0, 8, .inl (nA ((va_up iv r (va_up (iv r) e9 x9)) 2)))), ((kd 0), .inl (κ.2 0, 8, .inl (nA (dv 0)))), ((kd 1), .inl (κ.2 0, 8, .inl (nA (dv 1)))), ((kd 2), .inl (κ.2 0, 8, .inl (nA (dv 2))))]) C (3 + r) (f := (iv r)) (row3 (κ := κ) (cr := ki) (M := iv) (X := [(k0, .inr (0, [.ref k1, .ref k2])), (k1, .inl (κ.2 3, 3, .inr (.inr (.inr (.inr (g3 ki)))))), (k2, .inl (κ.2 3, 3, .inr (.inr (.inr (.inr (g3 kd))))))]) (Y := [((kd 0), .inl (κ.2 0, 8, .inl (nA (dv 0)))), ((kd 1), .inl (κ.2 0, 8, .inl (nA (dv 1)))), ((kd 2), .inl (κ.2 0, 8, .inl (nA (dv 2))))]) (b := 3) rfl rfl (by omega)) e9 (by first | assumption | omega) (by decide) (rowset3 (κ := κ) (cr := ki) (M := iv) (X := [(k0, .inr (0, [.ref k1, .ref k2])), (k1, .inl (κ.2 3, 3, .inr (.inr (.inr (.inr (g3 ki)))))), (k2, .inl (κ.2 3, 3, .inr (.inr (.inr (.inr (g3 kd))))))]) (Y := [((kd 0), .inl (κ.2 0, 8, .inl (nA (dv 0)))), ((kd 1), .inl (κ.2 0, 8, .inl (nA (dv 1)))), ((kd 2), .inl (κ.2 0, 8, .inl (nA (dv 2))))]) (b := 3) (j := r) (f := va_up (iv r) e9 x9) rfl rfl rfl (by omega)) dX0_put_17 rfl ?_
  refine g_aload_n (pc' := 19) C 0 dX0_put_18 rfl rfl rfl ?_
  refine g_get (pc' := 22) C fl_RX0_16_0 0 rfl rfl dX0_put_19 rfl ?_
  refine g_iload_n (pc' := 23) C 1 dX0_put_22 rfl rfl rfl ?_
  refine g_aald2 (pc' := 24) (b := (kd r)) C 2 rfl r (by first | assumption | omega) (by decide) (g3_at (by omega)) dX0_put_23 rfl ?_
  refine g_iload_n (pc' := 25) C 2 dX0_put_24 rfl rfl rfl ?_
  refine g_iload (pc' := 27) C 4 dX0_put_25 rfl rfl ?_
  refine g_iload_n (pc' := 28) C 3 dX0_put_27 rfl rfl rfl ?_
  refine g_iadd (pc' := 29) (v := nI (td + x9)) C dX0_put_28 (nI_add _ _) rfl ?_
  refine g_iastN (pc' := 30) (ws' := [(k0, .inr (0, [.ref k1, .ref k2])), (k1, .inl (κ.2 3, 3, .inr (.inr (.inr (.inr (g3 ki)))))), (k2, .inl (κ.2 3, 3, .inr (.inr (.inr (.inr (g3 kd)))))), ((ki 0), .inl (κ.2 0, 8, .inl (nA ((va_up iv r (va_up (iv r) e9 x9)) 0)))), ((ki 1), .inl (κ.2 0, 8, .inl (nA ((va_up iv r (va_up (iv r) e9 x9)) 1)))), ((ki 2), .inl (κ.2 0, 8, .inl (nA ((va_up iv r (va_up (iv r) e9 x9)) 2)))), ((kd 0), .inl (κ.2 0, 8, .inl (nA ((va_up dv r (va_up (dv r) e9 (td + x9))) 0)))), ((kd 1), .inl (κ.2 0, 8, .inl (nA ((va_up dv r (va_up (dv r) e9 (td + x9))) 1)))), ((kd 2), .inl (κ.2 0, 8, .inl (nA ((va_up dv r (va_up (dv r) e9 (td + x9))) 2))))]) C (6 + r) (f := (dv r)) (row3 (κ := κ) (cr := kd) (M := dv) (X := [(k0, .inr (0, [.ref k1, .ref k2])), (k1, .inl (κ.2 3, 3, .inr (.inr (.inr (.inr (g3 ki)))))), (k2, .inl (κ.2 3, 3, .inr (.inr (.inr (.inr (g3 kd)))))), ((ki 0), .inl (κ.2 0, 8, .inl (nA ((va_up iv r (va_up (iv r) e9 x9)) 0)))), ((ki 1), .inl (κ.2 0, 8, .inl (nA ((va_up iv r (va_up (iv r) e9 x9)) 1)))), ((ki 2), .inl (κ.2 0, 8, .inl (nA ((va_up iv r (va_up (iv r) e9 x9)) 2))))]) (Y := []) (b := 6) rfl rfl (by omega)) e9 (by first | assumption | omega) (by decide) (rowset3 (κ := κ) (cr := kd) (M := dv) (X := [(k0, .inr (0, [.ref k1, .ref k2])), (k1, .inl (κ.2 3, 3, .inr (.inr (.inr (.inr (g3 ki)))))), (k2, .inl (κ.2 3, 3, .inr (.inr (.inr (.inr (g3 kd)))))), ((ki 0), .inl (κ.2 0, 8, .inl (nA ((va_up iv r (va_up (iv r) e9 x9)) 0)))), ((ki 1), .inl (κ.2 0, 8, .inl (nA ((va_up iv r (va_up (iv r) e9 x9)) 1)))), ((ki 2), .inl (κ.2 0, 8, .inl (nA ((va_up iv r (va_up (iv r) e9 x9)) 2))))]) (Y := []) (b := 6) (j := r) (f := va_up (dv r) e9 (td + x9)) rfl rfl rfl (by omega)) dX0_put_29 rfl ?_
  exact g_retMv C hAe rfl (Nat.le_of_ble_eq_true rfl) (Nat.le_of_ble_eq_true rfl) (rfl) dX0_put_30

set_option maxHeartbeats 4000000 in
set_option maxRecDepth 100000 in
theorem kX0_drop (l : Launch) (κ : KK) (k0 : Nat) (k1 : Nat) (k2 : Nat) (ki : Nat → Nat) (kd : Nat → Nat) (iv : Nat → Nat → Nat) (dv : Nat → Nat → Nat) (r : Nat) (e9 : Nat) (hr : r < 3) (he : e9 < 8) : CMv l yX0_drop cX0_drop 3 none 1 0 0 κ [.ref k0, .int (nI r), .int (nI e9)] [(k0, .inr (0, [.ref k1, .ref k2])), (k1, .inl (κ.2 3, 3, .inr (.inr (.inr (.inr (g3 ki)))))), (k2, .inl (κ.2 3, 3, .inr (.inr (.inr (.inr (g3 kd)))))), ((ki 0), .inl (κ.2 0, 8, .inl (nA (iv 0)))), ((ki 1), .inl (κ.2 0, 8, .inl (nA (iv 1)))), ((ki 2), .inl (κ.2 0, 8, .inl (nA (iv 2)))), ((kd 0), .inl (κ.2 0, 8, .inl (nA (dv 0)))), ((kd 1), .inl (κ.2 0, 8, .inl (nA (dv 1)))), ((kd 2), .inl (κ.2 0, 8, .inl (nA (dv 2))))] (fun (vw_ : va_W) => vw_ = [(k0, .inr (0, [.ref k1, .ref k2])), (k1, .inl (κ.2 3, 3, .inr (.inr (.inr (.inr (g3 ki)))))), (k2, .inl (κ.2 3, 3, .inr (.inr (.inr (.inr (g3 kd)))))), ((ki 0), .inl (κ.2 0, 8, .inl (nA ((va_up iv r (va_up (iv r) e9 0)) 0)))), ((ki 1), .inl (κ.2 0, 8, .inl (nA ((va_up iv r (va_up (iv r) e9 0)) 1)))), ((ki 2), .inl (κ.2 0, 8, .inl (nA ((va_up iv r (va_up (iv r) e9 0)) 2)))), ((kd 0), .inl (κ.2 0, 8, .inl (nA (dv 0)))), ((kd 1), .inl (κ.2 0, 8, .inl (nA (dv 1)))), ((kd 2), .inl (κ.2 0, 8, .inl (nA (dv 2))))]) := by
  refine cmv_of RX0 rfl (by decide) (Nat.le_of_ble_eq_true rfl) ?_
  intro p e s m below meth c A C hAe hA hini
  refine g_lv (lv' := [(0, .ref k0), (1, .int (nI r)), (2, .int (nI e9))]) [0, 1, 2] rfl ?_
  refine g_aload_n (pc' := 1) C 0 dX0_drop_0 rfl rfl rfl ?_
  refine g_iload_n (pc' := 2) C 1 dX0_drop_1 rfl rfl rfl ?_
  refine g_iload_n (pc' := 3) C 2 dX0_drop_2 rfl rfl rfl ?_
  refine g_callP (pc' := 6) C lk_RX0_19 (kX0_hasRoom l κ k0 k1 k2 r e9 (by first | assumption | omega) (by first | assumption | omega)) 0 rfl rfl [0] rfl rfl (Nat.le_of_ble_eq_true rfl) ⟨Nat.le_of_ble_eq_true rfl, Nat.le_of_ble_eq_true rfl⟩ ⟨Nat.le_of_ble_eq_true rfl, Nat.le_of_ble_eq_true rfl⟩ rfl dX0_drop_3 rfl (fun r_3_1 h_3_1 => ?_)
  obtain rfl : r_3_1 = b2i true := h_3_1
  refine g_if_eqB (pc' := 9) (tgt := 18) C dX0_drop_6 (by decide) rfl (fun z => absurd z (by decide)) (fun _ => ?_)
  refine g_aload_n (pc' := 10) C 0 dX0_drop_9 rfl rfl rfl ?_
  refine g_get (pc' := 13) C fl_RX0_11_0 0 rfl rfl dX0_drop_10 rfl ?_
  refine g_iload_n (pc' := 14) C 1 dX0_drop_13 rfl rfl rfl ?_
  refine g_aald2 (pc' := 15) (b := (ki r)) C 1 rfl r (by first | assumption | omega) (by decide) (g3_at (by omega)) dX0_drop_14 rfl ?_
  refine g_iload_n (pc' := 16) C 2 dX0_drop_15 rfl rfl rfl ?_
  refine g_iconst (pc' := 17) (v := nI 0) C dX0_drop_16 (by decide) rfl ?_
  refine g_iastN (pc' := 18) (ws' := [(k0, .inr (0, [.ref k1, .ref k2])), (k1, .inl (κ.2 3, 3, .inr (.inr (.inr (.inr (g3 ki)))))), (k2, .inl (κ.2 3, 3, .inr (.inr (.inr (.inr (g3 kd)))))), ((ki 0), .inl (κ.2 0, 8, .inl (nA ((va_up iv r (va_up (iv r) e9 0)) 0)))), ((ki 1), .inl (κ.2 0, 8, .inl (nA ((va_up iv r (va_up (iv r) e9 0)) 1)))), ((ki 2), .inl (κ.2 0, 8, .inl (nA ((va_up iv r (va_up (iv r) e9 0)) 2)))), ((kd 0), .inl (κ.2 0, 8, .inl (nA (dv 0)))), ((kd 1), .inl (κ.2 0, 8, .inl (nA (dv 1)))), ((kd 2), .inl (κ.2 0, 8, .inl (nA (dv 2))))]) C (3 + r) (f := (iv r)) (row3 (κ := κ) (cr := ki) (M := iv) (X := [(k0, .inr (0, [.ref k1, .ref k2])), (k1, .inl (κ.2 3, 3, .inr (.inr (.inr (.inr (g3 ki)))))), (k2, .inl (κ.2 3, 3, .inr (.inr (.inr (.inr (g3 kd))))))]) (Y := [((kd 0), .inl (κ.2 0, 8, .inl (nA (dv 0)))), ((kd 1), .inl (κ.2 0, 8, .inl (nA (dv 1)))), ((kd 2), .inl (κ.2 0, 8, .inl (nA (dv 2))))]) (b := 3) rfl rfl (by omega)) e9 (by first | assumption | omega) (by decide) (rowset3 (κ := κ) (cr := ki) (M := iv) (X := [(k0, .inr (0, [.ref k1, .ref k2])), (k1, .inl (κ.2 3, 3, .inr (.inr (.inr (.inr (g3 ki)))))), (k2, .inl (κ.2 3, 3, .inr (.inr (.inr (.inr (g3 kd))))))]) (Y := [((kd 0), .inl (κ.2 0, 8, .inl (nA (dv 0)))), ((kd 1), .inl (κ.2 0, 8, .inl (nA (dv 1)))), ((kd 2), .inl (κ.2 0, 8, .inl (nA (dv 2))))]) (b := 3) (j := r) (f := va_up (iv r) e9 0) rfl rfl rfl (by omega)) dX0_drop_17 rfl ?_
  exact g_retMv C hAe rfl (Nat.le_of_ble_eq_true rfl) (Nat.le_of_ble_eq_true rfl) (rfl) dX0_drop_18

set_option maxHeartbeats 4000000 in
set_option maxRecDepth 100000 in
theorem kX0_countOf (l : Launch) (κ : KK) (k0 : Nat) (k1 : Nat) (k2 : Nat) (ki : Nat → Nat) (kd : Nat → Nat) (iv : Nat → Nat → Nat) (dv : Nat → Nat → Nat) (r : Nat) (hK : KW iv dv) (hr : r < 3) : CP l yX0_countOf cX0_countOf 4 (some .int) 3 κ [.ref k0, .int (nI r)] [(k0, .inr (0, [.ref k1, .ref k2])), (k1, .inl (κ.2 3, 3, .inr (.inr (.inr (.inr (g3 ki)))))), (k2, .inl (κ.2 3, 3, .inr (.inr (.inr (.inr (g3 kd)))))), ((ki 0), .inl (κ.2 0, 8, .inl (nA (iv 0)))), ((ki 1), .inl (κ.2 0, 8, .inl (nA (iv 1)))), ((ki 2), .inl (κ.2 0, 8, .inl (nA (iv 2)))), ((kd 0), .inl (κ.2 0, 8, .inl (nA (dv 0)))), ((kd 1), .inl (κ.2 0, 8, .inl (nA (dv 1)))), ((kd 2), .inl (κ.2 0, 8, .inl (nA (dv 2))))] (fun vr_ => vr_ = nI (ctC (iv r) 8)) := by
  refine cp_of RX0 rfl (by decide) (Nat.le_of_ble_eq_true rfl) ?_
  intro p e s m below meth c C
  refine g_lv (lv' := [(0, .ref k0), (1, .int (nI r))]) [0, 1] rfl ?_
  refine g_iconst (pc' := 1) (v := nI 0) C dX0_countOf_0 (by decide) rfl ?_
  refine g_istore_n (pc' := 2) (lv' := [(2, .int (nI 0)), (0, .ref k0), (1, .int (nI r))]) C dX0_countOf_1 rfl (by decide) rfl rfl ?_
  refine g_iconst (pc' := 3) (v := nI 0) C dX0_countOf_2 (by decide) rfl ?_
  refine g_istore_n (pc' := 4) (lv' := [(3, .int (nI 0)), (2, .int (nI 0)), (0, .ref k0), (1, .int (nI r))]) C dX0_countOf_3 rfl (by decide) rfl rfl ?_
  have lp_a : ∀ (fu_a : Nat) (i : Nat) (z : Nat), (i ≤ 8) → (z = ctC (iv r) i) → (8 - i) < fu_a → G p l e (rmv 3 0 0) s m ([.ref k0, .int (nI r)] : List Value).toArray below meth c κ 4 (JP s) [(k0, .inr (0, [.ref k1, .ref k2])), (k1, .inl (κ.2 3, 3, .inr (.inr (.inr (.inr (g3 ki)))))), (k2, .inl (κ.2 3, 3, .inr (.inr (.inr (.inr (g3 kd)))))), ((ki 0), .inl (κ.2 0, 8, .inl (nA (iv 0)))), ((ki 1), .inl (κ.2 0, 8, .inl (nA (iv 1)))), ((ki 2), .inl (κ.2 0, 8, .inl (nA (iv 2)))), ((kd 0), .inl (κ.2 0, 8, .inl (nA (dv 0)))), ((kd 1), .inl (κ.2 0, 8, .inl (nA (dv 1)))), ((kd 2), .inl (κ.2 0, 8, .inl (nA (dv 2))))] 0 0 (MQ below (vp_Si (fun vr_ => vr_ = nI (ctC (iv r) 8))) ([.ref k0, .int (nI r)] : List Value).toArray s 0 0 (fun _ => False)) 4 [(3, .int (nI i)), (2, .int (nI z)), (0, .ref k0), (1, .int (nI r))] [] := by
    intro fu_a
    induction fu_a with
    | zero => intro i z hi hz hmu; exact absurd hmu (Nat.not_lt_zero _)
    | succ fu_a ih_a =>
      intro i z hi hz hmu_a
      refine g_iload_n (pc' := 5) C 0 dX0_countOf_4 rfl rfl rfl ?_
      refine g_bipush (pc' := 7) (v := nI 8) C dX0_countOf_5 (by decide) rfl ?_
      refine g_icmp_geN (pc' := 10) (tgt := 28) C (by first | assumption | omega) (by first | assumption | omega) dX0_countOf_7 (by decide) rfl (fun c_7_1 => ?_) (fun c_7_1 => ?_)
      · refine g_iload_n (pc' := 29) C 1 dX0_countOf_28 rfl rfl rfl ?_
        exact g_retP C rfl rfl (show nI z = nI (ctC (iv r) 8) by have e : i = 8 := (by omega); subst e; rw [hz]) dX0_countOf_29
      · refine g_aload_n (pc' := 11) C 2 dX0_countOf_10 rfl rfl rfl ?_
        refine g_iload_n (pc' := 12) C 3 dX0_countOf_11 rfl rfl rfl ?_
        refine g_iload_n (pc' := 13) C 0 dX0_countOf_12 rfl rfl rfl ?_
        refine g_callP (pc' := 16) C lk_RX0_27 (kX0_has l κ k0 k1 k2 ki kd iv dv r i (by first | assumption | omega) (by first | assumption | omega) (by first | assumption | omega)) 0 rfl rfl [0, 1, 2, 3, 4, 5, 6, 7, 8] rfl rfl (Nat.le_of_ble_eq_true rfl) ⟨Nat.le_of_ble_eq_true rfl, Nat.le_of_ble_eq_true rfl⟩ ⟨Nat.le_of_ble_eq_true rfl, Nat.le_of_ble_eq_true rfl⟩ rfl dX0_countOf_13 rfl (fun r_13_2 h_13_2 => ?_)
        obtain rfl : r_13_2 = b2i (decide (0 < iv r i)) := h_13_2
        refine g_if_eqB (pc' := 19) (tgt := 22) C dX0_countOf_16 (by decide) rfl (fun c_16_3 => ?_) (fun c_16_3 => ?_)
        · refine g_iinc (pc' := 25) (v := nI (i + 1)) (lv' := [(3, .int (nI (i + 1))), (2, .int (nI z)), (0, .ref k0), (1, .int (nI r))]) C 0 dX0_countOf_22 rfl (iincN1 _) (by decide) rfl rfl ?_
          refine g_goto (tgt := 4) C dX0_countOf_25 (by decide) ?_
          exact ih_a (i + 1) z (by first | assumption | omega) (by rw [ctC, if_neg (by simpa using c_16_3), hz]; rfl) (by omega)
        · refine g_iinc (pc' := 22) (v := nI (z + 1)) (lv' := [(2, .int (nI (z + 1))), (3, .int (nI i)), (0, .ref k0), (1, .int (nI r))]) C 1 dX0_countOf_19 rfl (iincN1 _) (by decide) rfl rfl ?_
          refine g_iinc (pc' := 25) (v := nI (i + 1)) (lv' := [(3, .int (nI (i + 1))), (2, .int (nI (z + 1))), (0, .ref k0), (1, .int (nI r))]) C 1 dX0_countOf_22 rfl (iincN1 _) (by decide) rfl rfl ?_
          refine g_goto (tgt := 4) C dX0_countOf_25 (by decide) ?_
          exact ih_a (i + 1) (z + 1) (by first | assumption | omega) (by rw [ctC, if_pos (by simpa using c_16_3), hz]) (by omega)
  exact lp_a 9 0 0 (Nat.zero_le _) rfl (by omega)

set_option maxHeartbeats 4000000 in
set_option maxRecDepth 100000 in
theorem kX0_firstOf (l : Launch) (κ : KK) (k0 : Nat) (k1 : Nat) (k2 : Nat) (ki : Nat → Nat) (kd : Nat → Nat) (iv : Nat → Nat → Nat) (dv : Nat → Nat → Nat) (r : Nat) (hK : KW iv dv) (hr : r < 3) : CP l yX0_firstOf cX0_firstOf 4 (some .int) 3 κ [.ref k0, .int (nI r)] [(k0, .inr (0, [.ref k1, .ref k2])), (k1, .inl (κ.2 3, 3, .inr (.inr (.inr (.inr (g3 ki)))))), (k2, .inl (κ.2 3, 3, .inr (.inr (.inr (.inr (g3 kd)))))), ((ki 0), .inl (κ.2 0, 8, .inl (nA (iv 0)))), ((ki 1), .inl (κ.2 0, 8, .inl (nA (iv 1)))), ((ki 2), .inl (κ.2 0, 8, .inl (nA (iv 2)))), ((kd 0), .inl (κ.2 0, 8, .inl (nA (dv 0)))), ((kd 1), .inl (κ.2 0, 8, .inl (nA (dv 1)))), ((kd 2), .inl (κ.2 0, 8, .inl (nA (dv 2))))] (fun vr_ => vr_ = oI (fsC (iv r) (dv r) 8)) := by
  refine cp_of RX0 rfl (by decide) (Nat.le_of_ble_eq_true rfl) ?_
  intro p e s m below meth c C
  refine g_lv (lv' := [(0, .ref k0), (1, .int (nI r))]) [0, 1] rfl ?_
  refine g_iconst (pc' := 1) (v := (-1)) C dX0_firstOf_0 (by decide) rfl ?_
  refine g_istore_n (pc' := 2) (lv' := [(2, .int (-1)), (0, .ref k0), (1, .int (nI r))]) C dX0_firstOf_1 rfl (by decide) rfl rfl ?_
  refine g_iconst (pc' := 3) (v := nI 0) C dX0_firstOf_2 (by decide) rfl ?_
  refine g_istore_n (pc' := 4) (lv' := [(3, .int (nI 0)), (2, .int (-1)), (0, .ref k0), (1, .int (nI r))]) C dX0_firstOf_3 rfl (by decide) rfl rfl ?_
  have lp_a : ∀ (fu_a : Nat) (i : Nat) (o : Option Nat), (i ≤ 8) → (o = fsC (iv r) (dv r) i) → (8 - i) < fu_a → G p l e (rmv 3 0 0) s m ([.ref k0, .int (nI r)] : List Value).toArray below meth c κ 4 (JP s) [(k0, .inr (0, [.ref k1, .ref k2])), (k1, .inl (κ.2 3, 3, .inr (.inr (.inr (.inr (g3 ki)))))), (k2, .inl (κ.2 3, 3, .inr (.inr (.inr (.inr (g3 kd)))))), ((ki 0), .inl (κ.2 0, 8, .inl (nA (iv 0)))), ((ki 1), .inl (κ.2 0, 8, .inl (nA (iv 1)))), ((ki 2), .inl (κ.2 0, 8, .inl (nA (iv 2)))), ((kd 0), .inl (κ.2 0, 8, .inl (nA (dv 0)))), ((kd 1), .inl (κ.2 0, 8, .inl (nA (dv 1)))), ((kd 2), .inl (κ.2 0, 8, .inl (nA (dv 2))))] 0 0 (MQ below (vp_Si (fun vr_ => vr_ = oI (fsC (iv r) (dv r) 8))) ([.ref k0, .int (nI r)] : List Value).toArray s 0 0 (fun _ => False)) 4 [(3, .int (nI i)), (2, .int (oI o)), (0, .ref k0), (1, .int (nI r))] [] := by
    intro fu_a
    induction fu_a with
    | zero => intro i o hi ho hmu; exact absurd hmu (Nat.not_lt_zero _)
    | succ fu_a ih_a =>
      intro i o hi ho hmu_a
      refine g_iload_n (pc' := 5) C 0 dX0_firstOf_4 rfl rfl rfl ?_
      refine g_bipush (pc' := 7) (v := nI 8) C dX0_firstOf_5 (by decide) rfl ?_
      refine g_icmp_geN (pc' := 10) (tgt := 51) C (by first | assumption | omega) (by first | assumption | omega) dX0_firstOf_7 (by decide) rfl (fun c_7_1 => ?_) (fun c_7_1 => ?_)
      · refine g_iload_n (pc' := 52) C 1 dX0_firstOf_51 rfl rfl rfl ?_
        exact g_retP C rfl rfl (show oI o = oI (fsC (iv r) (dv r) 8) by have e : i = 8 := (by omega); subst e; rw [ho]) dX0_firstOf_52
      · refine g_aload_n (pc' := 11) C 2 dX0_firstOf_10 rfl rfl rfl ?_
        refine g_iload_n (pc' := 12) C 3 dX0_firstOf_11 rfl rfl rfl ?_
        refine g_iload_n (pc' := 13) C 0 dX0_firstOf_12 rfl rfl rfl ?_
        refine g_callP (pc' := 16) C lk_RX0_27 (kX0_has l κ k0 k1 k2 ki kd iv dv r i (by first | assumption | omega) (by first | assumption | omega) (by first | assumption | omega)) 0 rfl rfl [0, 1, 2, 3, 4, 5, 6, 7, 8] rfl rfl (Nat.le_of_ble_eq_true rfl) ⟨Nat.le_of_ble_eq_true rfl, Nat.le_of_ble_eq_true rfl⟩ ⟨Nat.le_of_ble_eq_true rfl, Nat.le_of_ble_eq_true rfl⟩ rfl dX0_firstOf_13 rfl (fun r_13_2 h_13_2 => ?_)
        obtain rfl : r_13_2 = b2i (decide (0 < iv r i)) := h_13_2
        refine g_if_eqB (pc' := 19) (tgt := 45) C dX0_firstOf_16 (by decide) rfl (fun c_16_3 => ?_) (fun c_16_3 => ?_)
        · refine g_iinc (pc' := 48) (v := nI (i + 1)) (lv' := [(3, .int (nI (i + 1))), (2, .int (oI o)), (0, .ref k0), (1, .int (nI r))]) C 0 dX0_firstOf_45 rfl (iincN1 _) (by decide) rfl rfl ?_
          refine g_goto (tgt := 4) C dX0_firstOf_48 (by decide) ?_
          exact ih_a (i + 1) o (by first | assumption | omega) (by have h9 : ¬ 0 < iv r i := (by simpa using c_16_3); rw [fsC, ← ho]; cases o <;> simp [h9]) (by omega)
        · refine g_iload_n (pc' := 20) C 1 dX0_firstOf_19 rfl rfl rfl ?_
          refine g_iconst (pc' := 21) (v := (-1)) C dX0_firstOf_20 (by decide) rfl ?_
          refine g_icmp_eqO (pc' := 24) (tgt := 43) C (fun h q => by rw [ho] at q; have := fsC_lt q; omega) dX0_firstOf_21 (by decide) rfl (fun c_21_4 => ?_) (fun v_21_4 c_21_4 => ?_)
          · refine g_iload_n (pc' := 44) C 0 dX0_firstOf_43 rfl rfl rfl ?_
            refine g_istore_n (pc' := 45) (lv' := [(2, .int (nI i)), (3, .int (nI i)), (0, .ref k0), (1, .int (nI r))]) C dX0_firstOf_44 rfl (by decide) rfl rfl ?_
            refine g_iinc (pc' := 48) (v := nI (i + 1)) (lv' := [(3, .int (nI (i + 1))), (2, .int (nI i)), (0, .ref k0), (1, .int (nI r))]) C 1 dX0_firstOf_45 rfl (iincN1 _) (by decide) rfl rfl ?_
            refine g_goto (tgt := 4) C dX0_firstOf_48 (by decide) ?_
            exact ih_a (i + 1) (some i) (by first | assumption | omega) (by have h9 : 0 < iv r i := (by simpa using c_16_3); rw [fsC, ← ho, c_21_4]; simp [h9]) (by omega)
          · refine g_aload_n (pc' := 25) C 2 dX0_firstOf_24 rfl rfl rfl ?_
            refine g_get (pc' := 28) C fl_RX0_16_0 0 rfl rfl dX0_firstOf_25 rfl ?_
            refine g_iload_n (pc' := 29) C 3 dX0_firstOf_28 rfl rfl rfl ?_
            refine g_aald2 (pc' := 30) (b := (kd r)) C 2 rfl r (by first | assumption | omega) (by decide) (g3_at (by omega)) dX0_firstOf_29 rfl ?_
            refine g_iload_n (pc' := 31) C 0 dX0_firstOf_30 rfl rfl rfl ?_
            refine g_ialdN (pc' := 32) C (6 + r) (f := (dv r)) (row3 (κ := κ) (cr := kd) (M := dv) (X := [(k0, .inr (0, [.ref k1, .ref k2])), (k1, .inl (κ.2 3, 3, .inr (.inr (.inr (.inr (g3 ki)))))), (k2, .inl (κ.2 3, 3, .inr (.inr (.inr (.inr (g3 kd)))))), ((ki 0), .inl (κ.2 0, 8, .inl (nA (iv 0)))), ((ki 1), .inl (κ.2 0, 8, .inl (nA (iv 1)))), ((ki 2), .inl (κ.2 0, 8, .inl (nA (iv 2))))]) (Y := []) (b := 6) rfl rfl (by omega)) i (by first | assumption | omega) (by decide) dX0_firstOf_31 rfl ?_
            refine g_aload_n (pc' := 33) C 2 dX0_firstOf_32 rfl rfl rfl ?_
            refine g_get (pc' := 36) C fl_RX0_16_0 0 rfl rfl dX0_firstOf_33 rfl ?_
            refine g_iload_n (pc' := 37) C 3 dX0_firstOf_36 rfl rfl rfl ?_
            refine g_aald2 (pc' := 38) (b := (kd r)) C 2 rfl r (by first | assumption | omega) (by decide) (g3_at (by omega)) dX0_firstOf_37 rfl ?_
            refine g_iload_n (pc' := 39) C 1 dX0_firstOf_38 rfl rfl rfl ?_
            refine g_val (y := nI v_21_4) (by rw [c_21_4]; rfl) ?_
            refine g_ialdN (pc' := 40) C (6 + r) (f := (dv r)) (row3 (κ := κ) (cr := kd) (M := dv) (X := [(k0, .inr (0, [.ref k1, .ref k2])), (k1, .inl (κ.2 3, 3, .inr (.inr (.inr (.inr (g3 ki)))))), (k2, .inl (κ.2 3, 3, .inr (.inr (.inr (.inr (g3 kd)))))), ((ki 0), .inl (κ.2 0, 8, .inl (nA (iv 0)))), ((ki 1), .inl (κ.2 0, 8, .inl (nA (iv 1)))), ((ki 2), .inl (κ.2 0, 8, .inl (nA (iv 2))))]) (Y := []) (b := 6) rfl rfl (by omega)) v_21_4 (by have q := c_21_4; rw [ho] at q; have := fsC_lt q; omega) (by decide) dX0_firstOf_39 rfl ?_
            refine g_icmp_geN (pc' := 43) (tgt := 45) C (by have := (hK r i).2; omega) (by have := (hK r v_21_4).2; omega) dX0_firstOf_40 (by decide) rfl (fun c_40_5 => ?_) (fun c_40_5 => ?_)
            · refine g_iinc (pc' := 48) (v := nI (i + 1)) (lv' := [(3, .int (nI (i + 1))), (2, .int (oI o)), (0, .ref k0), (1, .int (nI r))]) C 0 dX0_firstOf_45 rfl (iincN1 _) (by decide) rfl rfl ?_
              refine g_goto (tgt := 4) C dX0_firstOf_48 (by decide) ?_
              exact ih_a (i + 1) o (by first | assumption | omega) (by have h9 : 0 < iv r i := (by simpa using c_16_3); rw [fsC, ← ho, c_21_4]; simp; omega) (by omega)
            · refine g_iload_n (pc' := 44) C 0 dX0_firstOf_43 rfl rfl rfl ?_
              refine g_istore_n (pc' := 45) (lv' := [(2, .int (nI i)), (3, .int (nI i)), (0, .ref k0), (1, .int (nI r))]) C dX0_firstOf_44 rfl (by decide) rfl rfl ?_
              refine g_iinc (pc' := 48) (v := nI (i + 1)) (lv' := [(3, .int (nI (i + 1))), (2, .int (nI i)), (0, .ref k0), (1, .int (nI r))]) C 1 dX0_firstOf_45 rfl (iincN1 _) (by decide) rfl rfl ?_
              refine g_goto (tgt := 4) C dX0_firstOf_48 (by decide) ?_
              exact ih_a (i + 1) (some i) (by first | assumption | omega) (by have h9 : 0 < iv r i := (by simpa using c_16_3); rw [fsC, ← ho, c_21_4]; simp; omega) (by omega)
  exact lp_a 9 0 none (Nat.zero_le _) rfl (by omega)
end
section
/-! ===== methods that may throw: what they throw leaves the world as it was ===== -/
def XPw (κ : KK) (wc : va_W) (sz : Nat) (es : String → Prop) : String → State → State → Prop := vx_X (fun _ : Unit => True) (fun E _ t => es E ∧ va_P κ.1 vwCl wc t.heap) (va_A wc sz)
def CYi (l : Launch) (y : MethodName) (cb : ByteArray) (yL : Nat) (yr : Option FieldType) (d mc ms : Nat) (κ : KK) (av : List Value) (wc : va_W) (es : String → Prop) (post : Int32 → va_W → Prop) : Prop := ∀ sz, vx_Met l y [.code y cb yL yr] (rmv d mc ms) (PcX κ av wc sz) (QMi κ wc sz post) (XPw κ wc sz es) mc ms (va_A wc sz)
def CYv (l : Launch) (y : MethodName) (cb : ByteArray) (yL : Nat) (yr : Option FieldType) (d mc ms : Nat) (κ : KK) (av : List Value) (wc : va_W) (es : String → Prop) (post : va_W → Prop) : Prop := ∀ sz, vx_Met l y [.code y cb yL yr] (rmv d mc ms) (PcX κ av wc sz) (QMv κ wc sz post) (XPw κ wc sz es) mc ms (va_A wc sz)
section GR
variable {p : Program} {l : Launch} {e : Env} {R : Room} {s : State} {m : MethodId} {args : Array Value} {below : List Frame} {meth : Method} {c : Code} {κ : KK} {own : String} {cc : ByteArray} {nL : Nat} {ret : Option FieldType}
variable {J : JJ} {ws : va_W} {k n : Nat} {Q : State → Prop} {pc pc' : Nat} {lv : List (Nat × Value)} {st : List Value}
theorem cyi_of {y : MethodName} {cb : ByteArray} {yL : Nat} {yr : Option FieldType} {d mc ms : Nat} {av : List Value} {wc : va_W} {es : String → Prop} {post : Int32 → va_W → Prop} (hst : l.stackTraces = false) (own : String) (hown : y.cls = own) (hy : plainName y.cls = true) (hn : (lg_sl av).length ≤ yL)
    (body : ∀ (p : Program) (e : Env) (s : State) (m : MethodId) (below : List Frame) (meth : Method) (c : Code) (A : Nat → Prop), Cx p s m meth c κ own cb yL yr → Cy l s c A → A = va_A wc s.heap.size → (∀ q, s.heap.size ≤ q → A q) → G p l e (rmv d mc ms) s m av.toArray below meth c κ yL (JM A s) wc 0 0 (vx_MQ below (QMi κ wc s.heap.size post) (XPw κ wc s.heap.size es) av.toArray s mc ms A) 0 (lv_args 0 av) []) : CYi l y cb yL yr d mc ms κ av wc es post := by
  intro sz
  refine vx_ofW (cc := cb) (maxL := yL) (ret := yr) hy rfl ?_
  intro p e s m args below meth c s₁ B hml ht hv
  obtain ⟨rfl, rfl, hP, hD, hE, hS, hT⟩ := hv
  have hl := lv_entry av (n := yL) hn
  rw [lg_entry_eq]
  exact body p e s m below meth c _ ⟨B.exec, B.bytes, hml, B.returns, B.notSynchronized, by rw [← hown]; exact findClass_of_methodNamed B.named, hE⟩ ⟨hst, ht, hS, hT⟩ rfl (fun q h => Or.inr h) s.heap [] _ hP ⟨hD.self, va_S.rf⟩ hl
theorem cyv_of {y : MethodName} {cb : ByteArray} {yL : Nat} {yr : Option FieldType} {d mc ms : Nat} {av : List Value} {wc : va_W} {es : String → Prop} {post : va_W → Prop} (hst : l.stackTraces = false) (own : String) (hown : y.cls = own) (hy : plainName y.cls = true) (hn : (lg_sl av).length ≤ yL)
    (body : ∀ (p : Program) (e : Env) (s : State) (m : MethodId) (below : List Frame) (meth : Method) (c : Code) (A : Nat → Prop), Cx p s m meth c κ own cb yL yr → Cy l s c A → A = va_A wc s.heap.size → (∀ q, s.heap.size ≤ q → A q) → G p l e (rmv d mc ms) s m av.toArray below meth c κ yL (JM A s) wc 0 0 (vx_MQ below (QMv κ wc s.heap.size post) (XPw κ wc s.heap.size es) av.toArray s mc ms A) 0 (lv_args 0 av) []) : CYv l y cb yL yr d mc ms κ av wc es post := by
  intro sz
  refine vx_ofW (cc := cb) (maxL := yL) (ret := yr) hy rfl ?_
  intro p e s m args below meth c s₁ B hml ht hv
  obtain ⟨rfl, rfl, hP, hD, hE, hS, hT⟩ := hv
  have hl := lv_entry av (n := yL) hn
  rw [lg_entry_eq]
  exact body p e s m below meth c _ ⟨B.exec, B.bytes, hml, B.returns, B.notSynchronized, by rw [← hown]; exact findClass_of_methodNamed B.named, hE⟩ ⟨hst, ht, hS, hT⟩ rfl (fun q h => Or.inr h) s.heap [] _ hP ⟨hD.self, va_S.rf⟩ hl
/-- the site of a throw: the class, its words -/
def xnames : List String := ["java/lang/RuntimeException", "java/lang/Exception"]
def TH (own cls : String) (ik ic : Nat) : Prop := Bundle.fit cls = true ∧ Cond.classLink own ik cls ∈ T1 ∧ Cond.initialized cls ∈ T1 ∧ (∀ w ∈ vx_atS own ic cls xnames, w ∈ T1) ∧ ∀ w ∈ Cond.classLink own ik cls :: Cond.initialized cls :: vx_atS own ic cls xnames, vx_ot w = true
theorem g_throw (C : Cx p s m meth c κ own cc nL ret) {A : Nat → Prop} (Y : Cy l s c A) {cls : String} {ik ic is : Nat} (F : TH own cls ik ic) {tx : String} (hstr : (own, is, tx) ∈ strL) {wc : va_W} {mc ms : Nat} {es : String → Prop} {Qc : Array Value → State → Outcome → State → Prop} (hAe : A = va_A wc s.heap.size) (hes : es cls) (hcat : (st.map fun v => v.category).sum ≤ 8) (hR : 5 < R.frames ∧ 90 ≤ R.locals) (h1 : k + 1 ≤ R.cells) (h2 : n + 6 ≤ R.slots) (h3 : k + 1 ≤ mc) (h4 : n + 6 ≤ ms) (is9 : List Nat) (hB : is9.map (fun i => ws[i]?) = wc.map some)
    (d0 : decode cc pc = .ok (.new ik, 3)) (d3 : decode cc (pc + 3) = .ok (.dup, 1)) (d4 : decode cc (pc + 4) = .ok (.ldc is, 2)) (d6 : decode cc (pc + 6) = .ok (.invokespecial ic, 3)) (d9 : decode cc (pc + 9) = .ok (.athrow, 1)) : G p l e R s m args below meth c κ nL (JM A s) ws k n (vx_MQ below Qc (XPw κ wc s.heap.size es) args s mc ms A) pc lv st := by
  obtain ⟨f1, f2, f3, f4, f5⟩ := F
  obtain ⟨hx, hb, hml, -, hlocks, hown, hK, hE⟩ := C
  obtain ⟨hl0, hht, hES, hST⟩ := Y
  intro H locs ls hP hJ hl
  obtain ⟨sa, hsa⟩ := hES _ hstr
  refine vx_throwS (A := A) (mc := mc) (ms := ms) hx hb hl0 hown f1 (by decide) (hE _ f2 args) (hE _ f3 args) hsa (fun w hw => hE w (f4 w hw) args) f5 hST.1 hST.2 hJ.2 (hl.1.trans hml.symm) d0 d3 d4 d6 d9 (fun x hx => (hht x hx).elim) (by show 2 + 3 < _; exact hR.1) (by show _ + (13 * (2 + 1) + 43) ≤ _; have := hR.2; omega) h1 h2 hlocks (fun t hvm hz hq => ?_) hJ.2.2.2 h3 h4
  have hPw := hP.sub is9 (sub_of hB)
  refine ⟨(), trivial, ⟨hes, hPw.kept (fun j q hj => hq q.1 ((hPw j q hj).lt))⟩, ?_⟩
  subst hAe
  refine ⟨Nat.le_trans hJ.2.1 hz, fun q q1 q2 => ?_⟩
  rw [hq q (Nat.lt_of_lt_of_le q1 hJ.2.1)]
  exact hJ.2.2.1 q q1 q2
theorem g_throwW (C : Cx p s m meth c κ own cc nL ret) {A : Nat → Prop} (Y : Cy l s c A) {cls : String} {ik ic is : Nat} (F : TH own cls ik ic) {tx : String} (hstr : (own, is, tx) ∈ strL) {wc : va_W} {mc ms : Nat} {es : String → Prop} {Qc : Array Value → State → Outcome → State → Prop} (hAe : A = va_A wc s.heap.size) (hes : es cls) (hcat : (st.map fun v => v.category).sum ≤ 8) (hR : 5 < R.frames ∧ 90 ≤ R.locals) (h1 : k + 1 ≤ R.cells) (h2 : n + 6 ≤ R.slots) (h3 : k + 1 ≤ mc) (h4 : n + 6 ≤ ms) (is9 : List Nat) (hB : is9.map (fun i => ws[i]?) = wc.map some)
    (d0 : decode cc pc = .ok (.new ik, 3)) (d3 : decode cc (pc + 3) = .ok (.dup, 1)) (d4 : decode cc (pc + 4) = .ok (.ldc_w is, 3)) (d7 : decode cc (pc + 7) = .ok (.invokespecial ic, 3)) (d10 : decode cc (pc + 10) = .ok (.athrow, 1)) : G p l e R s m args below meth c κ nL (JM A s) ws k n (vx_MQ below Qc (XPw κ wc s.heap.size es) args s mc ms A) pc lv st := by
  obtain ⟨f1, f2, f3, f4, f5⟩ := F
  obtain ⟨hx, hb, hml, -, hlocks, hown, hK, hE⟩ := C
  obtain ⟨hl0, hht, hES, hST⟩ := Y
  intro H locs ls hP hJ hl
  obtain ⟨sa, hsa⟩ := hES _ hstr
  refine vx_throwSW (A := A) (mc := mc) (ms := ms) hx hb hl0 hown f1 (by decide) (hE _ f2 args) (hE _ f3 args) hsa (fun w hw => hE w (f4 w hw) args) f5 hST.1 hST.2 hJ.2 (hl.1.trans hml.symm) d0 d3 d4 d7 d10 (fun x hx => (hht x hx).elim) (by show 2 + 3 < _; exact hR.1) (by show _ + (13 * (2 + 1) + 43) ≤ _; have := hR.2; omega) h1 h2 hlocks (fun t hvm hz hq => ?_) hJ.2.2.2 h3 h4
  have hPw := hP.sub is9 (sub_of hB)
  refine ⟨(), trivial, ⟨hes, hPw.kept (fun j q hj => hq q.1 ((hPw j q hj).lt))⟩, ?_⟩
  subst hAe
  refine ⟨Nat.le_trans hJ.2.1 hz, fun q q1 q2 => ?_⟩
  rw [hq q (Nat.lt_of_lt_of_le q1 hJ.2.1)]
  exact hJ.2.2.1 q q1 q2
theorem g_xrunV (C : Cx p s m meth c κ own cc nL ret) {idx : Nat} {y : MethodName} {cb : ByteArray} {yL : Nat} {yr : Option FieldType} {nA d mc ms : Nat} (h0 : Cond.methodLink own idx y ∈ T1) (L : LV own idx y cb yL yr nA) {Pc : Array Value → State → Prop} {Qc : Array Value → State → Outcome → State → Prop} {XC : String → State → State → Prop} {free : Addr → Prop} (hM : vx_Met l y [.code y cb yL yr] (rmv d mc ms) Pc Qc XC mc ms free) {H : Heap} {locs : List Loc} {ls : Array Slot} {b : Nat} {av : List Value} (hp : PreV s H y.cls b Pc av) (hlen : av.length = nA) (hls : ls.size = nL) (hcat : (st.map fun v => v.category).sum ≤ 8) (hR : d + 9 ≤ R.frames ∧ 219 + yL + 40 * d ≤ R.locals) (hf : k + mc ≤ R.cells ∧ n + ms ≤ R.slots) {stk : List Value} (hst : av.reverse ++ .ref b :: st = stk) (hd : decode cc pc = .ok (.invokevirtual idx, 3)) :
    vx_Run p l e R s m args below meth c H locs k n mc ms (F0 m pc ls stk) st (Qc (Value.ref b :: av).toArray) XC free := by
  subst hst
  obtain ⟨-, h2, h3, h4, h5, h6⟩ := L
  have S : CallFix p m c cc nL s args T1 own := ⟨C.1, C.2.1, C.2.2.1, C.2.2.2.2.2.1, fun w hw => C.2.2.2.2.2.2.2 w hw args⟩
  exact vx_runV S hM ⟨cb_of C h0 h4 h5 h6 hR, C.2.2.2.2.2.2.2 _ h2 args, C.2.2.2.2.2.2.2 _ h3 args⟩ hp rfl hlen hls rfl (lv_room hcat) hd hf
theorem g_xrunS (C : Cx p s m meth c κ own cc nL ret) {idx : Nat} {y : MethodName} {cb : ByteArray} {yL : Nat} {yr : Option FieldType} {nA d mc ms : Nat} (h0 : Cond.methodLink own idx y ∈ T1) (L : LSt own idx y cb yL yr nA) {Pc : Array Value → State → Prop} {Qc : Array Value → State → Outcome → State → Prop} {XC : String → State → State → Prop} {free : Addr → Prop} (hM : vx_Met l y [.code y cb yL yr] (rmv d mc ms) Pc Qc XC mc ms free) {H : Heap} {locs : List Loc} {ls : Array Slot} {av : List Value} (hp : PreS s H Pc av) (hlen : av.length = nA) (hls : ls.size = nL) (hcat : (st.map fun v => v.category).sum ≤ 8) (hR : d + 9 ≤ R.frames ∧ 219 + yL + 40 * d ≤ R.locals) (hf : k + mc ≤ R.cells ∧ n + ms ≤ R.slots) {stk : List Value} (hst : av.reverse ++ st = stk) (hd : decode cc pc = .ok (.invokestatic idx, 3)) :
    vx_Run p l e R s m args below meth c H locs k n mc ms (F0 m pc ls stk) st (Qc av.toArray) XC free := by
  subst hst
  obtain ⟨-, h2, h4, h5, h6⟩ := L
  have S : CallFix p m c cc nL s args T1 own := ⟨C.1, C.2.1, C.2.2.1, C.2.2.2.2.2.1, fun w hw => C.2.2.2.2.2.2.2 w hw args⟩
  exact vx_runS S hM ⟨cb_of C h0 h4 h5 h6 hR, C.2.2.2.2.2.2.2 _ h2 args⟩ hp rfl hlen hls rfl (lv_room hcat) hd hf
theorem ST.at {A B : Nat → Prop} {s U : State} {H : Heap} {locs : List Loc} (h : ST A s) (hS : va_S A s.heap H locs) (hB : ∀ q, B q → A q) (hU : U.heap = H) (hW : s.WarmedH U.vm) : ST B U := by
  subst hU
  exact ⟨vx_Zq.moved hW.alike ((h.1.kept hS.2.1).narrow hB), vx_Zq.moved hW.alike ((h.2.kept hS.2.1).narrow hB)⟩
theorem g_preX (C : Cx p s m meth c κ own cc nL ret) {H : Heap} {A : Nat → Prop} (Y : ES strL s ∧ ST A s) {locs : List Loc} (hP : va_P κ.1 vwCl ws H) (hJ : JM A s ws H locs) {wc : va_W} {is : List Nat} (hC : is.map (fun i => ws[i]?) = wc.map some) (hn : va_nd is = true) (hF : ∀ q, va_A wc H.size q → A q) (av : List Value) : ∀ U : State, U.heap = H → s.WarmedH U.vm → PcX κ av wc H.size av.toArray U :=
  fun U hU hW => ⟨rfl, by rw [hU], by rw [hU]; exact hP.sub is (sub_of hC), (hJ.1.sub is hn hC).weaken (fun _ _ _ _ => trivial), C.2.2.2.2.2.2.warm hW, Y.1.warm hW, Y.2.at hJ.2 hF hU hW⟩
/-- it threw: out of this method too -/
theorem g_xout (C : Cx p s m meth c κ own cc nL ret) {A : Nat → Prop} (Y : Cy l s c A) {wcC : va_W} {mcC msC : Nat} {es' : String → Prop} {Qc : Array Value → State → Outcome → State → Prop} (hAe : A = va_A wcC s.heap.size) {H1 : Heap} {locs1 : List Loc} {E : String} {ce : Cell} {q9 : Addr} {ls : Array Slot} (hes : es' E) (hP1 : va_P κ.1 vwCl wcC H1) (hS1 : va_S A s.heap H1 locs1) (hc : H1[q9]? = some ce) (hv : ce.vm = .none) (hcl : s.vm.findClass E = some ce.cls) (h1 : k ≤ mcC) (h2 : n ≤ msC) : vx_W p l e R s m args below meth c H1 locs1 k n (vx_MQ below Qc (XPw κ wcC s.heap.size es') args s mcC msC A) (F0 m pc ls st) q9 := by
  refine vx_out (fun x hx => (Y.2.1 x hx).elim) C.2.2.2.2.1 hc hv hcl (fun t ht _ => ⟨(), trivial, ⟨hes, by rw [ht]; exact hP1⟩, ?_⟩) hS1.2.2 h1 h2
  subst hAe
  exact hS1.F ht
section YC
variable {A : Nat → Prop} {idx : Nat} {y : MethodName} {cb : ByteArray} {yL : Nat} {yr : Option FieldType} {nA d mc ms : Nat} {b : Nat} {av : List Value} {wc wr wcC : va_W} {es es' : String → Prop} {mcC msC : Nat} {Qc : Array Value → State → Outcome → State → Prop}
theorem g_callYv (C : Cx p s m meth c κ own cc nL ret) (Y : Cy l s c A) (hA : ∀ q, s.heap.size ≤ q → A q) (hAe : A = va_A wcC s.heap.size) (h0 : Cond.methodLink own idx y ∈ T1) (L : LV own idx y cb yL yr nA) {post : va_W → Prop} (hM : CYv l y cb yL yr d mc ms κ (.ref b :: av) wc es post) (q0 : Nat) {ci : Nat} {fs : List Value} (he : ws[q0]? = some (b, .inr (ci, fs))) (hc : (vwCl[ci]?).map (fun q => q.1) = some y.cls) (isC isR : List Nat) (hC : isC.map (fun i => ws[i]?) = wc.map some) (hRr : isR.map (fun i => ws[i]?) = wr.map some) (hnd : va_nd isC = true ∧ va_nd isR = true ∧ ∀ i ∈ isR, i ∉ isC) (isB : List Nat) (hB : isB.map (fun i => (wr ++ wc)[i]?) = wcC.map some) (hes : ∀ E, es E → es' E) (hk9 : k + mc ≤ mcC ∧ n + ms ≤ msC) (hlen : av.length = nA) (hcat : (st.map fun v => v.category).sum ≤ 8) (hR : d + 9 ≤ R.frames ∧ 219 + yL + 40 * d ≤ R.locals) (hf : k + mc ≤ R.cells ∧ n + ms ≤ R.slots) {stk : List Value} (hst : av.reverse ++ .ref b :: st = stk) (hd : decode cc pc = .ok (.invokevirtual idx, 3)) (hp : pc + 3 = pc') (K : ∀ w1, post w1 → G p l e R s m args below meth c κ nL (JM A s) (wr ++ w1) (k + mc) (n + ms) (vx_MQ below Qc (XPw κ wcC s.heap.size es') args s mcC msC A) pc' lv st) : G p l e R s m args below meth c κ nL (JM A s) ws k n (vx_MQ below Qc (XPw κ wcC s.heap.size es') args s mcC msC A) pc lv stk := by
  subst hp
  intro H locs ls hP hJ hl
  have hF := va_free hJ.1 hJ.2 hA isC hC
  refine vx_callv (g_xrunV C h0 L (hM H.size) ⟨PcX.blind, g_recv C hP q0 he hc, g_preX C Y.2.2 hP hJ hC hnd.1 hF _⟩ hlen hl.1 hcat hR hf hst hd) hJ.2 (fun q _ h => hF q h) hF (fun q _ h => hF q h) (fun E ce q9 u t H1 locs1 ht hvm hpx hBX hz1 hk1 hS1 hce hv hcl => ?_) (fun u t H1 locs1 ht hvm hw hB9 hz1 hk1 hS1 => ?_)
  · obtain ⟨hP1, -⟩ := va_join hP hJ.1 isC isR hC hRr hnd.2.1 hnd.2.2 hk1 hF (by rw [← ht]; exact hBX.2) ((hJ.1.sub isC hnd.1 hC).self)
    exact g_xout C Y hAe (hes E hBX.1) (hP1.sub isB (sub_of hB)) hS1 hce hv hcl hk9.1 hk9.2
  · obtain ⟨hP1, hD1⟩ := va_join hP hJ.1 isC isR hC hRr hnd.2.1 hnd.2.2 hk1 hF (by rw [← ht]; exact hB9.1) hB9.2
    exact K u hw H1 locs1 ls hP1 ⟨hD1, hS1⟩ hl
theorem g_callYSv (C : Cx p s m meth c κ own cc nL ret) (Y : Cy l s c A) (hA : ∀ q, s.heap.size ≤ q → A q) (hAe : A = va_A wcC s.heap.size) (h0 : Cond.methodLink own idx y ∈ T1) (L : LSt own idx y cb yL yr nA) {post : va_W → Prop} (hM : CYv l y cb yL yr d mc ms κ av wc es post) (isC isR : List Nat) (hC : isC.map (fun i => ws[i]?) = wc.map some) (hRr : isR.map (fun i => ws[i]?) = wr.map some) (hnd : va_nd isC = true ∧ va_nd isR = true ∧ ∀ i ∈ isR, i ∉ isC) (isB : List Nat) (hB : isB.map (fun i => (wr ++ wc)[i]?) = wcC.map some) (hes : ∀ E, es E → es' E) (hk9 : k + mc ≤ mcC ∧ n + ms ≤ msC) (hlen : av.length = nA) (hcat : (st.map fun v => v.category).sum ≤ 8) (hR : d + 9 ≤ R.frames ∧ 219 + yL + 40 * d ≤ R.locals) (hf : k + mc ≤ R.cells ∧ n + ms ≤ R.slots) {stk : List Value} (hst : av.reverse ++ st = stk) (hd : decode cc pc = .ok (.invokestatic idx, 3)) (hp : pc + 3 = pc') (K : ∀ w1, post w1 → G p l e R s m args below meth c κ nL (JM A s) (wr ++ w1) (k + mc) (n + ms) (vx_MQ below Qc (XPw κ wcC s.heap.size es') args s mcC msC A) pc' lv st) : G p l e R s m args below meth c κ nL (JM A s) ws k n (vx_MQ below Qc (XPw κ wcC s.heap.size es') args s mcC msC A) pc lv stk := by
  subst hp
  intro H locs ls hP hJ hl
  have hF := va_free hJ.1 hJ.2 hA isC hC
  refine vx_callv (g_xrunS C h0 L (hM H.size) ⟨PcX.blind, g_preX C Y.2.2 hP hJ hC hnd.1 hF _⟩ hlen hl.1 hcat hR hf hst hd) hJ.2 (fun q _ h => hF q h) hF (fun q _ h => hF q h) (fun E ce q9 u t H1 locs1 ht hvm hpx hBX hz1 hk1 hS1 hce hv hcl => ?_) (fun u t H1 locs1 ht hvm hw hB9 hz1 hk1 hS1 => ?_)
  · obtain ⟨hP1, -⟩ := va_join hP hJ.1 isC isR hC hRr hnd.2.1 hnd.2.2 hk1 hF (by rw [← ht]; exact hBX.2) ((hJ.1.sub isC hnd.1 hC).self)
    exact g_xout C Y hAe (hes E hBX.1) (hP1.sub isB (sub_of hB)) hS1 hce hv hcl hk9.1 hk9.2
  · obtain ⟨hP1, hD1⟩ := va_join hP hJ.1 isC isR hC hRr hnd.2.1 hnd.2.2 hk1 hF (by rw [← ht]; exact hB9.1) hB9.2
    exact K u hw H1 locs1 ls hP1 ⟨hD1, hS1⟩ hl
end YC
end GR
def E_IAE : String := "java/lang/IllegalArgumentException"
theorem wx_IAE : ∀ w ∈ vx_atS RX8 62 "java/lang/IllegalArgumentException" xnames, w ∈ lw_tbl := by decide +kernel
theorem th_IAE : TH RX8 "java/lang/IllegalArgumentException" 58 62 := ⟨by decide +kernel, (wdT 331 (by decide +kernel) (by decide +kernel)), (wdT 65 (by decide +kernel) (by decide +kernel)), fun w hw => List.mem_filter.mpr ⟨wx_IAE w hw, (show ∀ w ∈ vx_atS RX8 62 "java/lang/IllegalArgumentException" xnames, enW w = true by decide +kernel) w hw⟩, by decide +kernel⟩
def E_ISE : String := "java/lang/IllegalStateException"
theorem wx_ISE : ∀ w ∈ vx_atS RX8 73 "java/lang/IllegalStateException" xnames, w ∈ lw_tbl := by decide +kernel
theorem th_ISE : TH RX8 "java/lang/IllegalStateException" 69 73 := ⟨by decide +kernel, (wdT 404 (by decide +kernel) (by decide +kernel)), (wdT 66 (by decide +kernel) (by decide +kernel)), fun w hw => List.mem_filter.mpr ⟨wx_ISE w hw, (show ∀ w ∈ vx_atS RX8 73 "java/lang/IllegalStateException" xnames, enW w = true by decide +kernel) w hw⟩, by decide +kernel⟩
def E_IOB : String := "java/lang/IndexOutOfBoundsException"
theorem wx_IOB : ∀ w ∈ vx_atS RX8 222 "java/lang/IndexOutOfBoundsException" xnames, w ∈ lw_tbl := by decide +kernel
theorem th_IOB : TH RX8 "java/lang/IndexOutOfBoundsException" 218 222 := ⟨by decide +kernel, (wdT 435 (by decide +kernel) (by decide +kernel)), (wdT 67 (by decide +kernel) (by decide +kernel)), fun w hw => List.mem_filter.mpr ⟨wx_IOB w hw, (show ∀ w ∈ vx_atS RX8 222 "java/lang/IndexOutOfBoundsException" xnames, enW w = true by decide +kernel) w hw⟩, by decide +kernel⟩
def E_NSE : String := "java/util/NoSuchElementException"
def nse_no : List Cond := (nse_at RX8 229).filter vx_no
theorem nse_w1 : ∀ w ∈ nse_no, w ∈ lw_tbl := by decide +kernel
theorem nse_w2 : ∀ w ∈ nse_no, enW w = true := by decide +kernel
theorem nse_w3 : ∀ w ∈ Cond.classLink RX8 225 nse_X :: Cond.initialized nse_X :: nse_no, vx_ot w = true := by decide +kernel
theorem nse_ws : Cond.classLink RX8 225 nse_X ∈ T1 ∧ Cond.initialized nse_X ∈ T1 ∧ ∀ w ∈ nse_no, w ∈ T1 := ⟨(wdT 559 (by decide +kernel) (by decide +kernel)), (wdT 74 (by decide +kernel) (by decide +kernel)), fun w hw => List.mem_filter.mpr ⟨nse_w1 w hw, nse_w2 w hw⟩⟩
section NSEg
variable {p : Program} {l : Launch} {e : Env} {R : Room} {s : State} {m : MethodId} {args : Array Value} {below : List Frame} {meth : Method} {c : Code} {κ : KK} {cc : ByteArray} {nL : Nat} {ret : Option FieldType}
variable {ws : va_W} {k n : Nat} {pc : Nat} {lv : List (Nat × Value)} {st : List Value}
/-- 'throw new NoSuchElementException("..")' in the class -/
theorem g_throwN (C : Cx p s m meth c κ RX8 cc nL ret) {A : Nat → Prop} (Y : Cy l s c A) {is : Nat} {tx : String} (hstr : (RX8, is, tx) ∈ strL) {wc : va_W} {mc ms : Nat} {es : String → Prop} {Qc : Array Value → State → Outcome → State → Prop} (hAe : A = va_A wc s.heap.size) (hes : es nse_X) (hcat : (st.map fun v => v.category).sum ≤ 8) (hR : 5 < R.frames ∧ 100 ≤ R.locals) (h1 : k + 1 ≤ R.cells) (h2 : n + 6 ≤ R.slots) (h3 : k + 1 ≤ mc) (h4 : n + 6 ≤ ms) (is9 : List Nat) (hB : is9.map (fun i => ws[i]?) = wc.map some)
    (d0 : decode cc pc = .ok (.new 225, 3)) (d3 : decode cc (pc + 3) = .ok (.dup, 1)) (d4 : decode cc (pc + 4) = .ok (.ldc is, 2)) (d6 : decode cc (pc + 6) = .ok (.invokespecial 229, 3)) (d9 : decode cc (pc + 9) = .ok (.athrow, 1)) : G p l e R s m args below meth c κ nL (JM A s) ws k n (vx_MQ below Qc (XPw κ wc s.heap.size es) args s mc ms A) pc lv st := by
  obtain ⟨hexec, hb, hml, -, hlocks, hown, hK, hE⟩ := C
  obtain ⟨hl0, hht, hES, hST⟩ := Y
  intro H locs ls hP hJ hl T hT X
  have hS : va_S A s.heap H locs := hJ.2
  have hPw := hP.sub is9 (sub_of hB)
  obtain ⟨sa, hsa⟩ := hES _ hstr
  have htr : e.platform.stackTraces = false := (show e.platform.stackTraces = l.stackTraces by rw [X.admits.platform]).trans hl0
  have Z := vx_rebase X (R' := { frames := R.frames, locals := R.locals, cells := 1, slots := 6 }) (Nat.le_refl _) (Nat.le_refl _) h1 h2
  obtain ⟨s', hA⟩ : ∃ z, z = (T.setVm s.vm).setFrames (.invoking m args :: below) := ⟨_, rfl⟩
  rw [← hA] at Z
  have hvm : s'.vm = s.vm := by rw [hA]; rfl
  have hhp : s'.heap = H := by rw [hA]; exact hT
  have hW0 : s.WarmedH s'.vm := by rw [hvm]; exact State.WarmedH.refl s
  have hw9 (w : Cond) (h : w ∈ T1) (hg : vx_ot w = true) : w.before args s' = true := vx_ot_at hW0 hvm.symm hg (hE w h args)
  have hUS : vx_Zq Bundle.tN "UNASSIGNED_STACK" Bundle.steD A s' s'.heap := by rw [hhp]; exact vx_Zq.moved hW0.alike (hST.1.kept hS.2.1)
  have hNS : vx_Zq Bundle.tN "SUPPRESSED_SENTINEL" Bundle.listD A s' s'.heap := by rw [hhp]; exact vx_Zq.moved hW0.alike (hST.2.kept hS.2.1)
  have h : ∀ w ∈ nse_at RX8 229, w.before args s' = true := vx_own (L := nse_at RX8 229) (fun w hw => hw9 w (nse_ws.2.2 w hw) (nse_w3 w (List.mem_cons_of_mem _ (List.mem_cons_of_mem _ hw)))) (vx_isRefq hUS.1) (vx_isRefq hNS.1) hUS.2.word hNS.2.word
  have hown' : s'.vm.findClass RX8 = some m.cls := by rw [hvm]; exact hown
  obtain ⟨vm₁, cX, kX, hfX, hkX, -, -, X₁, st1⟩ := Z.newCold hexec (own := RX8) (C := nse_X) (index := 225) (n := 6) hown' (hw9 _ nse_ws.1 (nse_w3 _ List.mem_cons_self)) (h _ (by simp [nse_at, nse_rest])) (hw9 _ nse_ws.2.1 (nse_w3 _ (List.mem_cons_of_mem _ List.mem_cons_self)))
    (g := F0 m pc ls st) rfl (by rw [hb]; exact d0) (Nat.le_refl _) (Nat.le_refl _)
  generalize hT1 : (T.setVm vm₁).pushCell { cls := cX, slots := kX.instanceTypes.map defaultValue, vm := .none } = T1 at X₁ st1
  have hcat1 : (Value.ref T.heap.size).category = 1 := rfl
  have hcellA : T1.heap[T.heap.size]? = some (freshCell cX kX) := by rw [← hT1]; exact State.heap_pushCell_size _ _
  obtain ⟨U, hsteps, hrun, hend, hW, hsame, ce, hce, hcv, hcc⟩ := nse_thrown X₁ hexec htr (own := RX8) (ic := 229) hown' h (fun x hx => nomatch hx) hfX hkX hcellA (by rw [hhp, hT]; exact Nat.le_refl _) (msg := .ref sa) rfl
    (g := { method := m, pc := pc + 6, locals := ls, stack := .ref sa :: .ref T.heap.size :: .ref T.heap.size :: st, locked := none }) rfl (hl.1.trans hml.symm) rfl rfl (rest := st) rfl
    (by rw [hb]; exact d6) (by rw [hb]; exact d9) (fun x hx => (hht x hx).elim) hR.1 (by have := hR.2; simp only [List.map_cons, List.sum_cons, hcat1]; show 2 * 0 + _ + _ ≤ _; omega) hlocks
  obtain ⟨f1, f2⟩ := vx_frame hsame
  rw [hhp] at f1 f2
  have hWs : s.WarmedH U.vm := State.WarmedH.trans hW0 hW
  have hcl : s.vm.findClass nse_X = some ce.cls := by rw [hcc, ← hvm]; exact hfX
  have hall : s.sameButNew ({ U with vm := s.vm } : State) locs mc ms := by
    subst hA
    obtain ⟨e1, e2⟩ := hsame
    rw [State.setFrames_setFrames] at e1
    have h9 : (T.setVm s.vm).sameButNew ({ U with vm := s.vm } : State) [] (0 + 1) (0 + 6) := ⟨e1, e2⟩
    have h8 := X.same.trans h9
    rw [List.append_nil] at h8
    exact h8.mono h3 h4
  have d3' : decode c.code (pc + 3) = .ok (.dup, 1) := by rw [hb]; exact d3
  have d4' : decode c.code (pc + 4) = .ok (.ldc is, 2) := by rw [hb]; exact d4
  have hsa' : vk_R RX8 is tx sa s' := vk_R.warm hW0 hsa
  refine ⟨U, ?_, .threw T.heap.size, hrun, hend, Or.inr ⟨T.heap.size, rfl, nse_X, ce, locs, ⟨(), trivial, ⟨hes, hPw.kept (fun j q hj => f2 q.1 ((hPw j q hj).lt) (fun z hz => nomatch hz))⟩, ?_⟩, hce, hcv, hcl, hWs, hall, hS.2.2⟩⟩
  · refine st1 _ ?_
    show Steps p.tables e below (T1.setTop { method := m, pc := pc + 3, locals := ls, stack := .ref T.heap.size :: st, locked := none }) _
    jvm_step X₁.here [X₁.here.top, hexec, d3', Value.category]
    exact X₁.ldcString hexec (own := RX8) (text := tx) (index := is) (a := sa) hown' hsa'.1 hsa'.2
      (g := { method := m, pc := pc + 4, locals := ls, stack := .ref T.heap.size :: .ref T.heap.size :: st, locked := none }) rfl d4' _ hsteps
  · subst hAe
    refine ⟨Nat.le_trans hS.1 f1, fun q q1 q2 => ?_⟩
    rw [f2 q (Nat.lt_of_lt_of_le q1 hS.1) (fun z hz => nomatch hz)]
    exact hS.2.1 q q1 q2
end NSEg
theorem ml_RL_76 : Cond.methodLink RL 76 yX8_init ∈ T1 := (wdT 78 (by decide +kernel) (by decide +kernel))
theorem ml_RL_110 : Cond.methodLink RL 110 yX8_entries ∈ T1 := (wdT 201 (by decide +kernel) (by decide +kernel))
theorem ml_RL_117 : Cond.methodLink RL 117 yX8_clear ∈ T1 := (wdT 205 (by decide +kernel) (by decide +kernel))
theorem ml_RL_124 : Cond.methodLink RL 124 yX8_standings ∈ T1 := (wdT 213 (by decide +kernel) (by decide +kernel))
theorem ml_RX8_147 : Cond.methodLink RX8 147 yX8_findStandings ∈ T1 := (wdT 217 (by decide +kernel) (by decide +kernel))
theorem ml_RL_128 : Cond.methodLink RL 128 yX8_cost ∈ T1 := (wdT 262 (by decide +kernel) (by decide +kernel))
theorem ml_RL_132 : Cond.methodLink RL 132 yX8_costByAll ∈ T1 := (wdT 306 (by decide +kernel) (by decide +kernel))
theorem ml_RL_7 : Cond.methodLink RL 7 yX8_addRule ∈ T1 := (wdT 327 (by decide +kernel) (by decide +kernel))
theorem ml_RL_17 : Cond.methodLink RL 17 yX8_headwords ∈ T1 := (wdT 428 (by decide +kernel) (by decide +kernel))
theorem ml_RX8_78 : Cond.methodLink RX8 78 yX8_needWord ∈ T1 := (wdT 432 (by decide +kernel) (by decide +kernel))
theorem ml_RL_23 : Cond.methodLink RL 23 yX8_isForm ∈ T1 := (wdT 455 (by decide +kernel) (by decide +kernel))
theorem ml_RL_27 : Cond.methodLink RL 27 yX8_part ∈ T1 := (wdT 462 (by decide +kernel) (by decide +kernel))
theorem ml_RL_30 : Cond.methodLink RL 30 yX8_addPhrase ∈ T1 := (wdT 471 (by decide +kernel) (by decide +kernel))
theorem ml_RX8_93 : Cond.methodLink RX8 93 yX8_needCost ∈ T1 := (wdT 475 (by decide +kernel) (by decide +kernel))
theorem ml_RX8_100 : Cond.methodLink RX8 100 yX8_needRoomForEntry ∈ T1 := (wdT 481 (by decide +kernel) (by decide +kernel))
theorem ml_RX8_105 : Cond.methodLink RX8 105 yJ7_copyOf_59c91 ∈ T1 := (wdT 487 (by decide +kernel) (by decide +kernel))
theorem ml_RX8_111 : Cond.methodLink RX8 111 yX3_init ∈ T1 := (wdT 501 (by decide +kernel) (by decide +kernel))
theorem ml_RX8_114 : Cond.methodLink RX8 114 yX8_keep ∈ T1 := (wdT 519 (by decide +kernel) (by decide +kernel))
theorem ml_RL_33 : Cond.methodLink RL 33 yX8_addSplit ∈ T1 := (wdT 526 (by decide +kernel) (by decide +kernel))
theorem ml_RX8_122 : Cond.methodLink RX8 122 yX6_init ∈ T1 := (wdT 532 (by decide +kernel) (by decide +kernel))
theorem ml_RL_37 : Cond.methodLink RL 37 yX8_takeOut ∈ T1 := (wdT 551 (by decide +kernel) (by decide +kernel))
theorem ml_RX8_125 : Cond.methodLink RX8 125 yX8_needEntry ∈ T1 := (wdT 555 (by decide +kernel) (by decide +kernel))
theorem ml_RL_42 : Cond.methodLink RL 42 yX8_say ∈ T1 := (wdT 594 (by decide +kernel) (by decide +kernel))
theorem ml_RL_45 : Cond.methodLink RL 45 yX8_setBare ∈ T1 := (wdT 610 (by decide +kernel) (by decide +kernel))
theorem ml_RL_48 : Cond.methodLink RL 48 yX8_glossAt ∈ T1 := (wdT 617 (by decide +kernel) (by decide +kernel))
theorem ml_RX8_167 : Cond.methodLink RX8 167 yX8_needPlace ∈ T1 := (wdT 621 (by decide +kernel) (by decide +kernel))
theorem ml_RX8_170 : Cond.methodLink RX8 170 yX8_chooseCover ∈ T1 := (wdT 627 (by decide +kernel) (by decide +kernel))
theorem ml_RL_51 : Cond.methodLink RL 51 yX8_placesAt ∈ T1 := (wdT 657 (by decide +kernel) (by decide +kernel))
theorem ml_RL_54 : Cond.methodLink RL 54 yX8_newEntries ∈ T1 := (wdT 665 (by decide +kernel) (by decide +kernel))
theorem ml_RX8_182 : Cond.methodLink RX8 182 yX8_needReader ∈ T1 := (wdT 669 (by decide +kernel) (by decide +kernel))
theorem ml_RX8_185 : Cond.methodLink RX8 185 yX8_isInCover ∈ T1 := (wdT 673 (by decide +kernel) (by decide +kernel))
theorem ml_RL_57 : Cond.methodLink RL 57 yX8_learn ∈ T1 := (wdT 680 (by decide +kernel) (by decide +kernel))
theorem ml_RL_60 : Cond.methodLink RL 60 yX8_review ∈ T1 := (wdT 697 (by decide +kernel) (by decide +kernel))
theorem ml_RX8_208 : Cond.methodLink RX8 208 yJ9_min_7cf53 ∈ T1 := (wdT 707 (by decide +kernel) (by decide +kernel))
theorem ml_RL_64 : Cond.methodLink RL 64 yX8_knows ∈ T1 := (wdT 711 (by decide +kernel) (by decide +kernel))
theorem ml_RL_67 : Cond.methodLink RL 67 yX8_due ∈ T1 := (wdT 718 (by decide +kernel) (by decide +kernel))
theorem ml_RL_70 : Cond.methodLink RL 70 yX8_nextDue ∈ T1 := (wdT 725 (by decide +kernel) (by decide +kernel))
theorem ml_RL_73 : Cond.methodLink RL 73 yX8_pass ∈ T1 := (wdT 736 (by decide +kernel) (by decide +kernel))
theorem ml_RL_79 : Cond.methodLink RL 79 yX9_init ∈ T1 := (wdT 743 (by decide +kernel) (by decide +kernel))
theorem ml_RL_86 : Cond.methodLink RL 86 yX9_thrown ∈ T1 := (wdT 821 (by decide +kernel) (by decide +kernel))
theorem ml_RL_85 : Cond.methodLink RL 85 yX9_addRule ∈ T1 := (wdT 825 (by decide +kernel) (by decide +kernel))
theorem ml_RL_93 : Cond.methodLink RL 93 yX9_headwords ∈ T1 := (wdT 832 (by decide +kernel) (by decide +kernel))
theorem ml_RL_96 : Cond.methodLink RL 96 yX9_isForm ∈ T1 := (wdT 843 (by decide +kernel) (by decide +kernel))
theorem ml_RL_99 : Cond.methodLink RL 99 yX9_part ∈ T1 := (wdT 847 (by decide +kernel) (by decide +kernel))
theorem ml_RL_102 : Cond.methodLink RL 102 yX9_addPhrase ∈ T1 := (wdT 851 (by decide +kernel) (by decide +kernel))
theorem ml_RL_106 : Cond.methodLink RL 106 yX9_addSplit ∈ T1 := (wdT 859 (by decide +kernel) (by decide +kernel))
theorem ml_RL_109 : Cond.methodLink RL 109 yX9_takeOut ∈ T1 := (wdT 863 (by decide +kernel) (by decide +kernel))
theorem ml_RL_113 : Cond.methodLink RL 113 yX9_entries ∈ T1 := (wdT 871 (by decide +kernel) (by decide +kernel))
theorem ml_RL_116 : Cond.methodLink RL 116 yX9_say ∈ T1 := (wdT 875 (by decide +kernel) (by decide +kernel))
theorem ml_RL_120 : Cond.methodLink RL 120 yX9_clear ∈ T1 := (wdT 879 (by decide +kernel) (by decide +kernel))
theorem ml_RL_123 : Cond.methodLink RL 123 yX9_setBare ∈ T1 := (wdT 883 (by decide +kernel) (by decide +kernel))
theorem ml_RL_127 : Cond.methodLink RL 127 yX9_standings ∈ T1 := (wdT 887 (by decide +kernel) (by decide +kernel))
theorem ml_RL_131 : Cond.methodLink RL 131 yX9_cost ∈ T1 := (wdT 899 (by decide +kernel) (by decide +kernel))
theorem ml_RL_135 : Cond.methodLink RL 135 yX9_costByAll ∈ T1 := (wdT 915 (by decide +kernel) (by decide +kernel))
theorem ml_RL_138 : Cond.methodLink RL 138 yX9_glossAt ∈ T1 := (wdT 919 (by decide +kernel) (by decide +kernel))
theorem ml_RL_141 : Cond.methodLink RL 141 yX9_placesAt ∈ T1 := (wdT 927 (by decide +kernel) (by decide +kernel))
theorem ml_RL_144 : Cond.methodLink RL 144 yX9_newEntries ∈ T1 := (wdT 931 (by decide +kernel) (by decide +kernel))
theorem ml_RL_147 : Cond.methodLink RL 147 yX9_learn ∈ T1 := (wdT 939 (by decide +kernel) (by decide +kernel))
theorem ml_RL_151 : Cond.methodLink RL 151 yX9_review ∈ T1 := (wdT 955 (by decide +kernel) (by decide +kernel))
theorem ml_RL_154 : Cond.methodLink RL 154 yX9_knows ∈ T1 := (wdT 959 (by decide +kernel) (by decide +kernel))
theorem ml_RL_157 : Cond.methodLink RL 157 yX9_due ∈ T1 := (wdT 963 (by decide +kernel) (by decide +kernel))
theorem ml_RL_160 : Cond.methodLink RL 160 yX9_nextDue ∈ T1 := (wdT 967 (by decide +kernel) (by decide +kernel))
theorem ml_RL_163 : Cond.methodLink RL 163 yX9_pass ∈ T1 := (wdT 971 (by decide +kernel) (by decide +kernel))
end
section
/-! ===== a world's order is nothing: calls with a frame of cells that aren't in sight ===== -/
theorem pw_mem {ws : va_W} {P : Nat × va_E → Prop} : (∀ (k : Nat) (q : Nat × va_E), ws[k]? = some q → P q) ↔ ∀ q ∈ ws, P q :=
  ⟨fun h q hq => by obtain ⟨k, hk⟩ := List.getElem?_of_mem hq; exact h k q hk, fun h k q hk => h q (List.mem_of_getElem? hk)⟩
theorem pw_nd : ∀ {ws : va_W}, (∀ (i j : Nat) (p q : Nat × va_E), ws[i]? = some p → ws[j]? = some q → p.1 = q.1 → i = j) ↔ (ws.map Prod.fst).Nodup
  | [] => ⟨fun _ => List.nodup_nil, fun _ i j p q h => by cases h⟩
  | a :: w => by
    have ih := pw_nd (ws := w)
    rw [List.map_cons, List.nodup_cons]
    constructor
    · intro h
      refine ⟨fun hm => ?_, ih.mp (fun i j p q hi hj hq => ?_)⟩
      · obtain ⟨b, hb, e⟩ := List.mem_map.mp hm
        obtain ⟨k, hk⟩ := List.getElem?_of_mem hb
        have := h 0 (k + 1) a b rfl hk e.symm
        omega
      · have := h (i + 1) (j + 1) p q hi hj hq
        omega
    · rintro ⟨h1, h2⟩ i j p q hi hj hq
      have h3 := ih.mpr h2
      cases i with
      | zero =>
        cases j with
        | zero => rfl
        | succ j =>
          have e : a = p := Option.some.inj hi
          subst e
          exact absurd (List.mem_map.mpr ⟨q, List.mem_of_getElem? (show w[j]? = some q from hj), hq.symm⟩) h1
      | succ i =>
        cases j with
        | zero =>
          have e : a = q := Option.some.inj hj
          subst e
          exact absurd (List.mem_map.mpr ⟨p, List.mem_of_getElem? (show w[i]? = some p from hi), hq⟩) h1
        | succ j => rw [h3 i j p q hi hj hq]
theorem va_D.iff {A : Nat → Prop} {ws : va_W} : va_D A ws ↔ (ws.map Prod.fst).Nodup ∧ ∀ q ∈ ws, A q.1 := and_congr pw_nd pw_mem
theorem va_P.iff {D : va_G} {cl : List vw_C} {ws : va_W} {H : Heap} : va_P D cl ws H ↔ ∀ q ∈ ws, va_at D cl q H := pw_mem
theorem va_D.perm {A : Nat → Prop} {ws ws' : va_W} (h : va_D A ws) (hp : ws.Perm ws') : va_D A ws' := by
  rw [va_D.iff] at h ⊢
  exact ⟨(hp.map Prod.fst).nodup_iff.mp h.1, fun q hq => h.2 q (hp.mem_iff.mpr hq)⟩
theorem va_P.perm {D : va_G} {cl : List vw_C} {ws ws' : va_W} {H : Heap} (h : va_P D cl ws H) (hp : ws.Perm ws') : va_P D cl ws' H := by
  rw [va_P.iff] at h ⊢
  exact fun q hq => h q (hp.mem_iff.mpr hq)
theorem va_P.of_sub {D : va_G} {cl : List vw_C} {ws ws' : va_W} {H : Heap} (h : va_P D cl ws H) (hp : ∀ q ∈ ws', q ∈ ws) : va_P D cl ws' H := by
  rw [va_P.iff] at h ⊢
  exact fun q hq => h q (hp q hq)
theorem va_A.of_sub {ws ws' : va_W} {sz : Nat} (hp : ∀ q ∈ ws', q ∈ ws) {a : Nat} (h : va_A ws' sz a) : va_A ws sz a := by
  rcases h with ⟨k, e, h⟩ | h
  · obtain ⟨j, hj⟩ := List.getElem?_of_mem (hp _ (List.mem_of_getElem? h))
    exact Or.inl ⟨j, e, hj⟩
  · exact Or.inr h
/-- a concrete list in another order -/
theorem pm_of {X Y : va_W} (is : List Nat) (hi : is.isPerm (List.range X.length) = true) (h : is.map (fun i => X[i]?) = Y.map some) : X.Perm Y := by
  have h1 : is.Perm (List.range X.length) := List.isPerm_iff.mp hi
  have h2 : (List.range X.length).map (fun i => X[i]?) = X.map some := by
    apply List.ext_getElem?
    intro k
    rw [List.getElem?_map, List.getElem?_map]
    by_cases hk : k < X.length
    · rw [List.getElem?_range hk, List.getElem?_eq_getElem hk]; simp [hk]
    · rw [List.getElem?_eq_none (by rw [List.length_range]; omega), List.getElem?_eq_none (by omega)]; rfl
  have h3 := (h1.map (fun i => X[i]?)).symm
  rw [h, h2] at h3
  have h4 := h3.filterMap id
  rw [List.filterMap_map, List.filterMap_map] at h4
  simpa using h4
theorem pm_tail {X R C es : va_W} (h : X.Perm (R ++ C)) : (X ++ es).Perm ((R ++ es) ++ C) := by
  refine (h.append_right es).trans ?_
  rw [List.append_assoc, List.append_assoc]
  exact List.Perm.append_left R List.perm_append_comm
theorem pm_tailC {X R C es : va_W} (h : X.Perm (R ++ C)) : (X ++ es).Perm (R ++ (C ++ es)) := by
  refine (h.append_right es).trans ?_
  rw [List.append_assoc]
theorem idx_C (wr wc : va_W) : ((List.range wc.length).map (fun i => wr.length + i)).map (fun i => (wr ++ wc)[i]?) = wc.map some := by
  rw [List.map_map]
  apply List.ext_getElem?
  intro k
  rw [List.getElem?_map, List.getElem?_map]
  by_cases hk : k < wc.length
  · rw [List.getElem?_range hk, List.getElem?_eq_getElem hk]
    simp [hk]
  · rw [List.getElem?_eq_none (by rw [List.length_range]; omega), List.getElem?_eq_none (by omega)]; rfl
theorem idx_R (wr wc : va_W) : (List.range wr.length).map (fun i => (wr ++ wc)[i]?) = wr.map some := by
  apply List.ext_getElem?
  intro k
  rw [List.getElem?_map, List.getElem?_map]
  by_cases hk : k < wr.length
  · rw [List.getElem?_range hk, List.getElem?_eq_getElem hk]
    simp [hk, List.getElem?_append_left]
  · rw [List.getElem?_eq_none (by rw [List.length_range]; omega), List.getElem?_eq_none (by omega)]; rfl
theorem va_nd_of : ∀ {l : List Nat}, l.Nodup → va_nd l = true
  | [], _ => rfl
  | a :: l, h => by
    rw [List.nodup_cons] at h
    simp [va_nd, h.1, va_nd_of h.2]
theorem idx_nd (wr wc : va_W) : va_nd ((List.range wc.length).map (fun i => wr.length + i)) = true ∧ va_nd (List.range wr.length) = true ∧ ∀ i ∈ List.range wr.length, i ∉ (List.range wc.length).map (fun i => wr.length + i) := by
  refine ⟨va_nd_of ?_, va_nd_of List.nodup_range, fun i hi hj => ?_⟩
  · exact List.pairwise_map.mpr (List.nodup_range.imp (fun h q => h (by omega)))
  · obtain ⟨j, hj, e⟩ := List.mem_map.mp hj
    have := List.mem_range.mp hi
    omega
theorem idx_at {wr wc : va_W} {q0 : Nat} {x : Nat × va_E} (h : wc[q0]? = some x) : (wr ++ wc)[wr.length + q0]? = some x := by
  rw [List.getElem?_append_right (Nat.le_add_right _ _), Nat.add_sub_cancel_left]
  exact h
/-! contracts with a frame, and with less said -/
section FRM
variable {l : Launch} {y : MethodName} {cb : ByteArray} {yL : Nat} {yr : Option FieldType} {d mc ms : Nat} {κ : KK} {av : List Value} {ws wc wr : va_W} {es es' : String → Prop}
theorem fr_pre {sz : Nat} {a : Array Value} {U : State} (hp : ws.Perm (wr ++ wc)) (h : PcM κ av ws sz a U) : PcM κ av wc sz a U := by
  obtain ⟨h1, h2, h3, h4, h5⟩ := h
  refine ⟨h1, h2, (h3.perm hp).of_sub (fun q hq => List.mem_append_right _ hq), ?_, h5⟩
  exact (h4.perm hp).sub _ (idx_nd wr wc).1 (idx_C wr wc)
theorem fr_preX {sz : Nat} {a : Array Value} {U : State} (hp : ws.Perm (wr ++ wc)) (h : PcX κ av ws sz a U) : PcX κ av wc sz a U := by
  obtain ⟨h1, h2, h3, h4, h5, h6, h7⟩ := h
  have hs : ∀ q ∈ wc, q ∈ ws := fun q hq => hp.mem_iff.mpr (List.mem_append_right _ hq)
  refine ⟨h1, h2, h3.of_sub hs, (h4.perm hp).sub _ (idx_nd wr wc).1 (idx_C wr wc), h5, h6, ?_⟩
  exact ⟨h7.1.narrow (fun q hq => va_A.of_sub hs hq), h7.2.narrow (fun q hq => va_A.of_sub hs hq)⟩
theorem fr_join {sz : Nat} {a : Array Value} {st t : State} {w1 : va_W} (hp : ws.Perm (wr ++ wc)) (h : PcM κ av ws sz a st) (hF : va_F (va_A wc sz) st t) (hP : va_P κ.1 vwCl w1 t.heap) (hD : va_D (va_A wc sz) w1) : va_P κ.1 vwCl (wr ++ w1) t.heap ∧ va_D (va_A ws sz) (wr ++ w1) := by
  obtain ⟨h1, h2, h3, h4, h5⟩ := h
  subst h2
  have hs : ∀ q ∈ wc, q ∈ ws := fun q hq => hp.mem_iff.mpr (List.mem_append_right _ hq)
  exact va_join (A0 := va_A ws st.heap.size) (h3.perm hp) ((h4.self).perm hp) _ _ (idx_C wr wc) (idx_R wr wc) (idx_nd wr wc).2.1 (idx_nd wr wc).2.2 hF.2 (fun q hq => va_A.of_sub hs hq) hP hD
theorem va_F.of_sub {sz : Nat} {st t : State} (hs : ∀ q ∈ wc, q ∈ ws) (h : va_F (va_A wc sz) st t) : va_F (va_A ws sz) st t := ⟨h.1, fun q h1 h2 => h.2 q h1 (fun h3 => h2 (va_A.of_sub hs h3))⟩
theorem pm_sub (hp : ws.Perm (wr ++ wc)) : ∀ q ∈ wc, q ∈ ws := fun _ hq => hp.mem_iff.mpr (List.mem_append_right _ hq)
theorem CMi.frame {post : Int32 → va_W → Prop} {post' : Int32 → va_W → Prop} (hM : CMi l y cb yL yr d mc ms κ av wc post) (hp : ws.Perm (wr ++ wc)) (hq : ∀ r w1, post r w1 → post' r (wr ++ w1)) : CMi l y cb yL yr d mc ms κ av ws post' := by
  intro sz
  refine MetFree.mono (hM sz) (fun a s h => fr_pre hp h) (fun _ _ _ _ _ _ => trivial) (fun a st o t hpre h => ?_)
  obtain ⟨⟨⟨r, u, e, h1, h2, h3⟩, h4⟩, L, h5, h6⟩ := h
  obtain ⟨j1, j2⟩ := fr_join hp hpre h4 h2 h3
  exact ⟨⟨⟨r, _, e, hq r u h1, j1, j2⟩, h4.of_sub (pm_sub hp)⟩, L, h5, fun q hq => va_A.of_sub (pm_sub hp) (h6 q hq)⟩
theorem CMv.frame {post : va_W → Prop} {post' : va_W → Prop} (hM : CMv l y cb yL yr d mc ms κ av wc post) (hp : ws.Perm (wr ++ wc)) (hq : ∀ w1, post w1 → post' (wr ++ w1)) : CMv l y cb yL yr d mc ms κ av ws post' := by
  intro sz
  refine MetFree.mono (hM sz) (fun a s h => fr_pre hp h) (fun _ _ _ _ _ _ => trivial) (fun a st o t hpre h => ?_)
  obtain ⟨⟨⟨u, e, h1, h2, h3⟩, h4⟩, L, h5, h6⟩ := h
  obtain ⟨j1, j2⟩ := fr_join hp hpre h4 h2 h3
  exact ⟨⟨⟨_, e, hq u h1, j1, j2⟩, h4.of_sub (pm_sub hp)⟩, L, h5, fun q hq => va_A.of_sub (pm_sub hp) (h6 q hq)⟩
theorem fr_X {sz : Nat} {a : Array Value} {st t : State} {q : Addr} (hp : ws.Perm (wr ++ wc)) (hes : ∀ E, es E → es' E) (hpre : PcX κ av ws sz a st) (h : vx_T (XPw κ wc sz es) st q t mc ms (va_A wc sz)) : vx_T (XPw κ ws sz es') st q t mc ms (va_A ws sz) := by
  obtain ⟨E, ce, L, ⟨u, hu, ⟨h1, h2⟩, h3⟩, h4, h5, h6, h7, h8, h9⟩ := h
  obtain ⟨g1, g2, g3, g4, g5, -⟩ := hpre
  have hj := fr_join (a := a) (av := av) hp ⟨g1, g2, g3, g4, g5⟩ h3 h2 (va_D.self ((g4.perm hp).sub _ (idx_nd wr wc).1 (idx_C wr wc)))
  exact ⟨E, ce, L, ⟨u, hu, ⟨hes E h1, hj.1.perm hp.symm⟩, h3.of_sub (pm_sub hp)⟩, h4, h5, h6, h7, h8, fun q hq => va_A.of_sub (pm_sub hp) (h9 q hq)⟩
theorem CYi.frame {post : Int32 → va_W → Prop} {post' : Int32 → va_W → Prop} (hM : CYi l y cb yL yr d mc ms κ av wc es post) (hp : ws.Perm (wr ++ wc)) (hes : ∀ E, es E → es' E) (hq : ∀ r w1, post r w1 → post' r (wr ++ w1)) : CYi l y cb yL yr d mc ms κ av ws es' post' := by
  intro sz
  refine MetFree.mono (hM sz) (fun a s h => fr_preX hp h) (fun _ _ _ _ _ _ => trivial) (fun a st o t hpre h => ?_)
  rcases h with h | ⟨q, e, h⟩
  · obtain ⟨⟨⟨r, u, e, h1, h2, h3⟩, h4⟩, L, h5, h6⟩ := h
    obtain ⟨j1, j2⟩ := fr_join hp ⟨hpre.1, hpre.2.1, hpre.2.2.1, hpre.2.2.2.1, hpre.2.2.2.2.1⟩ h4 h2 h3
    exact Or.inl ⟨⟨⟨r, _, e, hq r u h1, j1, j2⟩, h4.of_sub (pm_sub hp)⟩, L, h5, fun q hq => va_A.of_sub (pm_sub hp) (h6 q hq)⟩
  · exact Or.inr ⟨q, e, fr_X hp hes hpre h⟩
theorem CYv.frame {post : va_W → Prop} {post' : va_W → Prop} (hM : CYv l y cb yL yr d mc ms κ av wc es post) (hp : ws.Perm (wr ++ wc)) (hes : ∀ E, es E → es' E) (hq : ∀ w1, post w1 → post' (wr ++ w1)) : CYv l y cb yL yr d mc ms κ av ws es' post' := by
  intro sz
  refine MetFree.mono (hM sz) (fun a s h => fr_preX hp h) (fun _ _ _ _ _ _ => trivial) (fun a st o t hpre h => ?_)
  rcases h with h | ⟨q, e, h⟩
  · obtain ⟨⟨⟨u, e, h1, h2, h3⟩, h4⟩, L, h5, h6⟩ := h
    obtain ⟨j1, j2⟩ := fr_join hp ⟨hpre.1, hpre.2.1, hpre.2.2.1, hpre.2.2.2.1, hpre.2.2.2.2.1⟩ h4 h2 h3
    exact Or.inl ⟨⟨⟨_, e, hq u h1, j1, j2⟩, h4.of_sub (pm_sub hp)⟩, L, h5, fun q hq => va_A.of_sub (pm_sub hp) (h6 q hq)⟩
  · exact Or.inr ⟨q, e, fr_X hp hes hpre h⟩
end FRM
section GR
variable {p : Program} {l : Launch} {e : Env} {R : Room} {s : State} {m : MethodId} {args : Array Value} {below : List Frame} {meth : Method} {c : Code} {κ : KK} {own : String} {cc : ByteArray} {nL : Nat} {ret : Option FieldType}
variable {J : JJ} {ws : va_W} {k n : Nat} {Q : State → Prop} {pc pc' : Nat} {lv : List (Nat × Value)} {st : List Value}
theorem g_perm {A : Nat → Prop} {ws' : va_W} (hp : ws.Perm ws') (K : G p l e R s m args below meth c κ nL (JM A s) ws' k n Q pc lv st) : G p l e R s m args below meth c κ nL (JM A s) ws k n Q pc lv st :=
  fun H locs ls hP hJ hl => K H locs ls (hP.perm hp) ⟨hJ.1.perm hp, hJ.2⟩ hl
theorem g_permP {ws' : va_W} (hp : ws.Perm ws') (K : G p l e R s m args below meth c κ nL (JP s) ws' k n Q pc lv st) : G p l e R s m args below meth c κ nL (JP s) ws k n Q pc lv st :=
  fun H locs ls hP hJ hl => K H locs ls (hP.perm hp) hJ hl
section FC
variable {A : Nat → Prop} {idx : Nat} {y : MethodName} {cb : ByteArray} {yL : Nat} {yr : Option FieldType} {nA d mc ms : Nat} {b : Nat} {av : List Value} {wc wr wcC : va_W} {es es' : String → Prop} {mcC msC : Nat} {Qc : Array Value → State → Outcome → State → Prop}
theorem g_fMi (C : Cx p s m meth c κ own cc nL ret) (hA : ∀ q, s.heap.size ≤ q → A q) (L : LV own idx y cb yL yr nA) {post : Int32 → va_W → Prop} (hM : CMi l y cb yL yr d mc ms κ (.ref b :: av) wc post) (hp0 : ws.Perm (wr ++ wc)) (q0 : Nat) {ci : Nat} {fs : List Value} (he : wc[q0]? = some (b, .inr (ci, fs))) (hc : (vwCl[ci]?).map (fun q => q.1) = some y.cls) (hlen : av.length = nA) (hcat : (st.map fun v => v.category).sum ≤ 8) (hR : d + 9 ≤ R.frames ∧ 219 + yL + 40 * d ≤ R.locals) (hf : k + mc ≤ R.cells ∧ n + ms ≤ R.slots) {stk : List Value} (hst : av.reverse ++ .ref b :: st = stk) (hd : decode cc pc = .ok (.invokevirtual idx, 3)) (hp : pc + 3 = pc') (K : ∀ r w1, post r w1 → G p l e R s m args below meth c κ nL (JM A s) (wr ++ w1) (k + mc) (n + ms) Q pc' lv (.int r :: st)) : G p l e R s m args below meth c κ nL (JM A s) ws k n Q pc lv stk :=
  g_perm hp0 (g_callMi (wr := wr) C hA L hM _ (idx_at he) hc _ _ (idx_C wr wc) (idx_R wr wc) (idx_nd wr wc) hlen hcat hR hf hst hd hp K)
theorem g_fMv (C : Cx p s m meth c κ own cc nL ret) (hA : ∀ q, s.heap.size ≤ q → A q) (L : LV own idx y cb yL yr nA) {post : va_W → Prop} (hM : CMv l y cb yL yr d mc ms κ (.ref b :: av) wc post) (hp0 : ws.Perm (wr ++ wc)) (q0 : Nat) {ci : Nat} {fs : List Value} (he : wc[q0]? = some (b, .inr (ci, fs))) (hc : (vwCl[ci]?).map (fun q => q.1) = some y.cls) (hlen : av.length = nA) (hcat : (st.map fun v => v.category).sum ≤ 8) (hR : d + 9 ≤ R.frames ∧ 219 + yL + 40 * d ≤ R.locals) (hf : k + mc ≤ R.cells ∧ n + ms ≤ R.slots) {stk : List Value} (hst : av.reverse ++ .ref b :: st = stk) (hd : decode cc pc = .ok (.invokevirtual idx, 3)) (hp : pc + 3 = pc') (K : ∀ w1, post w1 → G p l e R s m args below meth c κ nL (JM A s) (wr ++ w1) (k + mc) (n + ms) Q pc' lv st) : G p l e R s m args below meth c κ nL (JM A s) ws k n Q pc lv stk :=
  g_perm hp0 (g_callMv (wr := wr) C hA L hM _ (idx_at he) hc _ _ (idx_C wr wc) (idx_R wr wc) (idx_nd wr wc) hlen hcat hR hf hst hd hp K)
theorem g_fYv (C : Cx p s m meth c κ own cc nL ret) (Y : Cy l s c A) (hA : ∀ q, s.heap.size ≤ q → A q) (hAe : A = va_A wcC s.heap.size) (h0 : Cond.methodLink own idx y ∈ T1) (L : LV own idx y cb yL yr nA) {post : va_W → Prop} (hM : CYv l y cb yL yr d mc ms κ (.ref b :: av) wc es post) (hp0 : ws.Perm (wr ++ wc)) (hB : ws.Perm wcC) (q0 : Nat) {ci : Nat} {fs : List Value} (he : wc[q0]? = some (b, .inr (ci, fs))) (hc : (vwCl[ci]?).map (fun q => q.1) = some y.cls) (hes : ∀ E, es E → es' E) (hk9 : k + mc ≤ mcC ∧ n + ms ≤ msC) (hlen : av.length = nA) (hcat : (st.map fun v => v.category).sum ≤ 8) (hR : d + 9 ≤ R.frames ∧ 219 + yL + 40 * d ≤ R.locals) (hf : k + mc ≤ R.cells ∧ n + ms ≤ R.slots) {stk : List Value} (hst : av.reverse ++ .ref b :: st = stk) (hd : decode cc pc = .ok (.invokevirtual idx, 3)) (hp : pc + 3 = pc') (K : ∀ w1, post w1 → G p l e R s m args below meth c κ nL (JM A s) (wr ++ w1) (k + mc) (n + ms) (vx_MQ below Qc (XPw κ wcC s.heap.size es') args s mcC msC A) pc' lv st) : G p l e R s m args below meth c κ nL (JM A s) ws k n (vx_MQ below Qc (XPw κ wcC s.heap.size es') args s mcC msC A) pc lv stk := by
  refine g_perm hp0 ?_
  have hB2 : (wr ++ wc).Perm wcC := hp0.symm.trans hB
  clear hp0 hB
  subst hp
  intro H locs ls hP hJ hl
  have hC := idx_C wr wc
  have hRr := idx_R wr wc
  have hnd := idx_nd wr wc
  have hF := va_free hJ.1 hJ.2 hA _ hC
  refine vx_callv (g_xrunV C h0 L (hM H.size) ⟨PcX.blind, g_recv C hP _ (idx_at he) hc, g_preX C Y.2.2 hP hJ hC hnd.1 hF _⟩ hlen hl.1 hcat hR hf hst hd) hJ.2 (fun q _ h => hF q h) hF (fun q _ h => hF q h) (fun E ce q9 u t H1 locs1 ht hvm hpx hBX hz1 hk1 hS1 hce hv hcl => ?_) (fun u t H1 locs1 ht hvm hw hB9 hz1 hk1 hS1 => ?_)
  · obtain ⟨hP1, -⟩ := va_join hP hJ.1 _ _ hC hRr hnd.2.1 hnd.2.2 hk1 hF (by rw [← ht]; exact hBX.2) ((hJ.1.sub _ hnd.1 hC).self)
    exact g_xout C Y hAe (hes E hBX.1) (hP1.perm hB2) hS1 hce hv hcl hk9.1 hk9.2
  · obtain ⟨hP1, hD1⟩ := va_join hP hJ.1 _ _ hC hRr hnd.2.1 hnd.2.2 hk1 hF (by rw [← ht]; exact hB9.1) hB9.2
    exact K u hw H1 locs1 ls hP1 ⟨hD1, hS1⟩ hl
theorem g_fYSv (C : Cx p s m meth c κ own cc nL ret) (Y : Cy l s c A) (hA : ∀ q, s.heap.size ≤ q → A q) (hAe : A = va_A wcC s.heap.size) (h0 : Cond.methodLink own idx y ∈ T1) (L : LSt own idx y cb yL yr nA) {post : va_W → Prop} (hM : CYv l y cb yL yr d mc ms κ av wc es post) (hp0 : ws.Perm (wr ++ wc)) (hB : ws.Perm wcC) (hes : ∀ E, es E → es' E) (hk9 : k + mc ≤ mcC ∧ n + ms ≤ msC) (hlen : av.length = nA) (hcat : (st.map fun v => v.category).sum ≤ 8) (hR : d + 9 ≤ R.frames ∧ 219 + yL + 40 * d ≤ R.locals) (hf : k + mc ≤ R.cells ∧ n + ms ≤ R.slots) {stk : List Value} (hst : av.reverse ++ st = stk) (hd : decode cc pc = .ok (.invokestatic idx, 3)) (hp : pc + 3 = pc') (K : ∀ w1, post w1 → G p l e R s m args below meth c κ nL (JM A s) (wr ++ w1) (k + mc) (n + ms) (vx_MQ below Qc (XPw κ wcC s.heap.size es') args s mcC msC A) pc' lv st) : G p l e R s m args below meth c κ nL (JM A s) ws k n (vx_MQ below Qc (XPw κ wcC s.heap.size es') args s mcC msC A) pc lv stk := by
  refine g_perm hp0 ?_
  have hB2 : (wr ++ wc).Perm wcC := hp0.symm.trans hB
  clear hp0 hB
  subst hp
  intro H locs ls hP hJ hl
  have hC := idx_C wr wc
  have hRr := idx_R wr wc
  have hnd := idx_nd wr wc
  have hF := va_free hJ.1 hJ.2 hA _ hC
  refine vx_callv (g_xrunS C h0 L (hM H.size) ⟨PcX.blind, g_preX C Y.2.2 hP hJ hC hnd.1 hF _⟩ hlen hl.1 hcat hR hf hst hd) hJ.2 (fun q _ h => hF q h) hF (fun q _ h => hF q h) (fun E ce q9 u t H1 locs1 ht hvm hpx hBX hz1 hk1 hS1 hce hv hcl => ?_) (fun u t H1 locs1 ht hvm hw hB9 hz1 hk1 hS1 => ?_)
  · obtain ⟨hP1, -⟩ := va_join hP hJ.1 _ _ hC hRr hnd.2.1 hnd.2.2 hk1 hF (by rw [← ht]; exact hBX.2) ((hJ.1.sub _ hnd.1 hC).self)
    exact g_xout C Y hAe (hes E hBX.1) (hP1.perm hB2) hS1 hce hv hcl hk9.1 hk9.2
  · obtain ⟨hP1, hD1⟩ := va_join hP hJ.1 _ _ hC hRr hnd.2.1 hnd.2.2 hk1 hF (by rw [← ht]; exact hB9.1) hB9.2
    exact K u hw H1 locs1 ls hP1 ⟨hD1, hS1⟩ hl
end FC
end GR
end
