-- ===== PART A: goes FIRST, ahead of the names: the tables' words, and 'selects' of the private methods out of them =====
/-- a private method of a class that the tables say can be made, by its rows of tables_1 -/
def lw_okq (q : MethodName × Nat) : Prop := (q.1.cls ≠ "java/lang/invoke/MethodHandle" ∧ q.1.cls ≠ "java/lang/invoke/VarHandle") ∧ Cond.instantiable q.1.cls q.2 ∈ tables_1 ∧ Cond.privateMethod q.1 ∈ tables_1 ∧ Cond.instanceMethod q.1 ∈ tables_1
theorem lw_p0 : lw_okq (⟨"MentorPairs", "finish", "(I)Z"⟩, 10) := ⟨⟨by decide +kernel, by decide +kernel⟩, List.mem_of_getElem? (i := 17) (by decide +kernel), List.mem_of_getElem? (i := 275) (by decide +kernel), List.mem_of_getElem? (i := 276) (by decide +kernel)⟩
theorem lw_p1 : lw_okq (⟨"MentorPairs$Tray", "make", "(II)V"⟩, 4) := ⟨⟨by decide +kernel, by decide +kernel⟩, List.mem_of_getElem? (i := 210) (by decide +kernel), List.mem_of_getElem? (i := 279) (by decide +kernel), List.mem_of_getElem? (i := 280) (by decide +kernel)⟩
theorem lw_p2 : lw_okq (⟨"MentorPairs", "placeFault", "(II)I"⟩, 10) := ⟨⟨by decide +kernel, by decide +kernel⟩, List.mem_of_getElem? (i := 17) (by decide +kernel), List.mem_of_getElem? (i := 290) (by decide +kernel), List.mem_of_getElem? (i := 291) (by decide +kernel)⟩
theorem lw_p3 : lw_okq (⟨"MentorPairs", "trayFault", "(I)I"⟩, 10) := ⟨⟨by decide +kernel, by decide +kernel⟩, List.mem_of_getElem? (i := 17) (by decide +kernel), List.mem_of_getElem? (i := 294) (by decide +kernel), List.mem_of_getElem? (i := 295) (by decide +kernel)⟩
theorem lw_p4 : lw_okq (⟨"MentorPairs$Tray", "hasPlaces", "(II)Z"⟩, 4) := ⟨⟨by decide +kernel, by decide +kernel⟩, List.mem_of_getElem? (i := 210) (by decide +kernel), List.mem_of_getElem? (i := 298) (by decide +kernel), List.mem_of_getElem? (i := 299) (by decide +kernel)⟩
theorem lw_p5 : lw_okq (⟨"MentorPairs$Tray", "put", "(IJ)V"⟩, 4) := ⟨⟨by decide +kernel, by decide +kernel⟩, List.mem_of_getElem? (i := 210) (by decide +kernel), List.mem_of_getElem? (i := 302) (by decide +kernel), List.mem_of_getElem? (i := 303) (by decide +kernel)⟩
theorem lw_p6 : lw_okq (⟨"MentorPairs$Tray", "cut", "(J)J"⟩, 4) := ⟨⟨by decide +kernel, by decide +kernel⟩, List.mem_of_getElem? (i := 210) (by decide +kernel), List.mem_of_getElem? (i := 306) (by decide +kernel), List.mem_of_getElem? (i := 307) (by decide +kernel)⟩
theorem lw_p7 : lw_okq (⟨"MentorPairs", "pourFault", "(IIIII)I"⟩, 10) := ⟨⟨by decide +kernel, by decide +kernel⟩, List.mem_of_getElem? (i := 17) (by decide +kernel), List.mem_of_getElem? (i := 319) (by decide +kernel), List.mem_of_getElem? (i := 320) (by decide +kernel)⟩
theorem lw_p8 : lw_okq (⟨"MentorPairs", "refused", "(I)I"⟩, 10) := ⟨⟨by decide +kernel, by decide +kernel⟩, List.mem_of_getElem? (i := 17) (by decide +kernel), List.mem_of_getElem? (i := 333) (by decide +kernel), List.mem_of_getElem? (i := 334) (by decide +kernel)⟩
theorem lw_p9 : lw_okq (⟨"MentorPairs$Circle", "addElder", "(I)I"⟩, 6) := ⟨⟨by decide +kernel, by decide +kernel⟩, List.mem_of_getElem? (i := 27) (by decide +kernel), List.mem_of_getElem? (i := 337) (by decide +kernel), List.mem_of_getElem? (i := 338) (by decide +kernel)⟩
theorem lw_p10 : lw_okq (⟨"MentorPairs", "answered", "(I)I"⟩, 10) := ⟨⟨by decide +kernel, by decide +kernel⟩, List.mem_of_getElem? (i := 17) (by decide +kernel), List.mem_of_getElem? (i := 341) (by decide +kernel), List.mem_of_getElem? (i := 342) (by decide +kernel)⟩
theorem lw_p11 : lw_okq (⟨"MentorPairs$Circle", "addBeginner", "()I"⟩, 6) := ⟨⟨by decide +kernel, by decide +kernel⟩, List.mem_of_getElem? (i := 27) (by decide +kernel), List.mem_of_getElem? (i := 349) (by decide +kernel), List.mem_of_getElem? (i := 350) (by decide +kernel)⟩
theorem lw_p12 : lw_okq (⟨"MentorPairs$Circle", "isElder", "(I)Z"⟩, 6) := ⟨⟨by decide +kernel, by decide +kernel⟩, List.mem_of_getElem? (i := 27) (by decide +kernel), List.mem_of_getElem? (i := 357) (by decide +kernel), List.mem_of_getElem? (i := 358) (by decide +kernel)⟩
theorem lw_p13 : lw_okq (⟨"MentorPairs$Circle", "areTwo", "(II)Z"⟩, 6) := ⟨⟨by decide +kernel, by decide +kernel⟩, List.mem_of_getElem? (i := 27) (by decide +kernel), List.mem_of_getElem? (i := 365) (by decide +kernel), List.mem_of_getElem? (i := 366) (by decide +kernel)⟩
theorem lw_p14 : lw_okq (⟨"MentorPairs$Circle", "isBeginner", "(I)Z"⟩, 6) := ⟨⟨by decide +kernel, by decide +kernel⟩, List.mem_of_getElem? (i := 27) (by decide +kernel), List.mem_of_getElem? (i := 370) (by decide +kernel), List.mem_of_getElem? (i := 371) (by decide +kernel)⟩
theorem lw_p15 : lw_okq (⟨"MentorPairs$Circle", "setLiking", "(IIZI)V"⟩, 6) := ⟨⟨by decide +kernel, by decide +kernel⟩, List.mem_of_getElem? (i := 27) (by decide +kernel), List.mem_of_getElem? (i := 374) (by decide +kernel), List.mem_of_getElem? (i := 375) (by decide +kernel)⟩
def lw_privs_1 : List (MethodName × Nat) := [(⟨"MentorPairs", "finish", "(I)Z"⟩, 10), (⟨"MentorPairs$Tray", "make", "(II)V"⟩, 4), (⟨"MentorPairs", "placeFault", "(II)I"⟩, 10), (⟨"MentorPairs", "trayFault", "(I)I"⟩, 10), (⟨"MentorPairs$Tray", "hasPlaces", "(II)Z"⟩, 4), (⟨"MentorPairs$Tray", "put", "(IJ)V"⟩, 4), (⟨"MentorPairs$Tray", "cut", "(J)J"⟩, 4), (⟨"MentorPairs", "pourFault", "(IIIII)I"⟩, 10), (⟨"MentorPairs", "refused", "(I)I"⟩, 10), (⟨"MentorPairs$Circle", "addElder", "(I)I"⟩, 6), (⟨"MentorPairs", "answered", "(I)I"⟩, 10), (⟨"MentorPairs$Circle", "addBeginner", "()I"⟩, 6), (⟨"MentorPairs$Circle", "isElder", "(I)Z"⟩, 6), (⟨"MentorPairs$Circle", "areTwo", "(II)Z"⟩, 6), (⟨"MentorPairs$Circle", "isBeginner", "(I)Z"⟩, 6), (⟨"MentorPairs$Circle", "setLiking", "(IIZI)V"⟩, 6)]
theorem lw_r1 : ∀ q ∈ lw_privs_1, lw_okq q := List.forall_mem_cons.mpr ⟨lw_p0, List.forall_mem_cons.mpr ⟨lw_p1, List.forall_mem_cons.mpr ⟨lw_p2, List.forall_mem_cons.mpr ⟨lw_p3, List.forall_mem_cons.mpr ⟨lw_p4, List.forall_mem_cons.mpr ⟨lw_p5, List.forall_mem_cons.mpr ⟨lw_p6, List.forall_mem_cons.mpr ⟨lw_p7, List.forall_mem_cons.mpr ⟨lw_p8, List.forall_mem_cons.mpr ⟨lw_p9, List.forall_mem_cons.mpr ⟨lw_p10, List.forall_mem_cons.mpr ⟨lw_p11, List.forall_mem_cons.mpr ⟨lw_p12, List.forall_mem_cons.mpr ⟨lw_p13, List.forall_mem_cons.mpr ⟨lw_p14, List.forall_mem_cons.mpr ⟨lw_p15, fun _ h => absurd h List.not_mem_nil⟩⟩⟩⟩⟩⟩⟩⟩⟩⟩⟩⟩⟩⟩⟩⟩
theorem lw_p16 : lw_okq (⟨"MentorPairs$Circle", "isBarred", "(II)Z"⟩, 6) := ⟨⟨by decide +kernel, by decide +kernel⟩, List.mem_of_getElem? (i := 27) (by decide +kernel), List.mem_of_getElem? (i := 385) (by decide +kernel), List.mem_of_getElem? (i := 386) (by decide +kernel)⟩
theorem lw_p17 : lw_okq (⟨"MentorPairs$Circle", "setBarred", "(IIZ)V"⟩, 6) := ⟨⟨by decide +kernel, by decide +kernel⟩, List.mem_of_getElem? (i := 27) (by decide +kernel), List.mem_of_getElem? (i := 389) (by decide +kernel), List.mem_of_getElem? (i := 390) (by decide +kernel)⟩
theorem lw_p18 : lw_okq (⟨"MentorPairs$Pairing", "makeBest", "(LMentorPairs$Circle;)I"⟩, 3) := ⟨⟨by decide +kernel, by decide +kernel⟩, List.mem_of_getElem? (i := 63) (by decide +kernel), List.mem_of_getElem? (i := 397) (by decide +kernel), List.mem_of_getElem? (i := 398) (by decide +kernel)⟩
theorem lw_p19 : lw_okq (⟨"MentorPairs$Pairing", "seat", "(LMentorPairs$Circle;I)V"⟩, 3) := ⟨⟨by decide +kernel, by decide +kernel⟩, List.mem_of_getElem? (i := 63) (by decide +kernel), List.mem_of_getElem? (i := 401) (by decide +kernel), List.mem_of_getElem? (i := 402) (by decide +kernel)⟩
theorem lw_p20 : lw_okq (⟨"MentorPairs$Pairing", "nextChoice", "(LMentorPairs$Circle;I)I"⟩, 3) := ⟨⟨by decide +kernel, by decide +kernel⟩, List.mem_of_getElem? (i := 63) (by decide +kernel), List.mem_of_getElem? (i := 405) (by decide +kernel), List.mem_of_getElem? (i := 406) (by decide +kernel)⟩
theorem lw_p21 : lw_okq (⟨"MentorPairs$Circle", "canPair", "(II)Z"⟩, 6) := ⟨⟨by decide +kernel, by decide +kernel⟩, List.mem_of_getElem? (i := 27) (by decide +kernel), List.mem_of_getElem? (i := 409) (by decide +kernel), List.mem_of_getElem? (i := 410) (by decide +kernel)⟩
theorem lw_p22 : lw_okq (⟨"MentorPairs$Circle", "beginnerPrefers", "(III)Z"⟩, 6) := ⟨⟨by decide +kernel, by decide +kernel⟩, List.mem_of_getElem? (i := 27) (by decide +kernel), List.mem_of_getElem? (i := 413) (by decide +kernel), List.mem_of_getElem? (i := 414) (by decide +kernel)⟩
theorem lw_p23 : lw_okq (⟨"MentorPairs$Pairing", "askFor", "(LMentorPairs$Circle;II)I"⟩, 3) := ⟨⟨by decide +kernel, by decide +kernel⟩, List.mem_of_getElem? (i := 63) (by decide +kernel), List.mem_of_getElem? (i := 417) (by decide +kernel), List.mem_of_getElem? (i := 418) (by decide +kernel)⟩
theorem lw_p24 : lw_okq (⟨"MentorPairs$Pairing", "hasPlaceLeft", "(LMentorPairs$Circle;I)Z"⟩, 3) := ⟨⟨by decide +kernel, by decide +kernel⟩, List.mem_of_getElem? (i := 63) (by decide +kernel), List.mem_of_getElem? (i := 421) (by decide +kernel), List.mem_of_getElem? (i := 422) (by decide +kernel)⟩
theorem lw_p25 : lw_okq (⟨"MentorPairs$Pairing", "countOf", "(I)I"⟩, 3) := ⟨⟨by decide +kernel, by decide +kernel⟩, List.mem_of_getElem? (i := 63) (by decide +kernel), List.mem_of_getElem? (i := 425) (by decide +kernel), List.mem_of_getElem? (i := 426) (by decide +kernel)⟩
theorem lw_p26 : lw_okq (⟨"MentorPairs$Pairing", "leastOf", "(LMentorPairs$Circle;I)I"⟩, 3) := ⟨⟨by decide +kernel, by decide +kernel⟩, List.mem_of_getElem? (i := 63) (by decide +kernel), List.mem_of_getElem? (i := 429) (by decide +kernel), List.mem_of_getElem? (i := 430) (by decide +kernel)⟩
theorem lw_p27 : lw_okq (⟨"MentorPairs$Circle", "elderPrefers", "(III)Z"⟩, 6) := ⟨⟨by decide +kernel, by decide +kernel⟩, List.mem_of_getElem? (i := 27) (by decide +kernel), List.mem_of_getElem? (i := 433) (by decide +kernel), List.mem_of_getElem? (i := 434) (by decide +kernel)⟩
theorem lw_p28 : lw_okq (⟨"MentorPairs$Pairing", "countPairs", "()I"⟩, 3) := ⟨⟨by decide +kernel, by decide +kernel⟩, List.mem_of_getElem? (i := 63) (by decide +kernel), List.mem_of_getElem? (i := 437) (by decide +kernel), List.mem_of_getElem? (i := 438) (by decide +kernel)⟩
theorem lw_p29 : lw_okq (⟨"MentorPairs", "pairedFault", "(I)I"⟩, 10) := ⟨⟨by decide +kernel, by decide +kernel⟩, List.mem_of_getElem? (i := 17) (by decide +kernel), List.mem_of_getElem? (i := 445) (by decide +kernel), List.mem_of_getElem? (i := 446) (by decide +kernel)⟩
theorem lw_p30 : lw_okq (⟨"MentorPairs$Pairing", "countBlocking", "(LMentorPairs$Circle;)I"⟩, 3) := ⟨⟨by decide +kernel, by decide +kernel⟩, List.mem_of_getElem? (i := 63) (by decide +kernel), List.mem_of_getElem? (i := 459) (by decide +kernel), List.mem_of_getElem? (i := 460) (by decide +kernel)⟩
theorem lw_p31 : lw_okq (⟨"MentorPairs$Pairing", "isBlockedBy", "(LMentorPairs$Circle;II)Z"⟩, 3) := ⟨⟨by decide +kernel, by decide +kernel⟩, List.mem_of_getElem? (i := 63) (by decide +kernel), List.mem_of_getElem? (i := 463) (by decide +kernel), List.mem_of_getElem? (i := 464) (by decide +kernel)⟩
def lw_privs_2 : List (MethodName × Nat) := [(⟨"MentorPairs$Circle", "isBarred", "(II)Z"⟩, 6), (⟨"MentorPairs$Circle", "setBarred", "(IIZ)V"⟩, 6), (⟨"MentorPairs$Pairing", "makeBest", "(LMentorPairs$Circle;)I"⟩, 3), (⟨"MentorPairs$Pairing", "seat", "(LMentorPairs$Circle;I)V"⟩, 3), (⟨"MentorPairs$Pairing", "nextChoice", "(LMentorPairs$Circle;I)I"⟩, 3), (⟨"MentorPairs$Circle", "canPair", "(II)Z"⟩, 6), (⟨"MentorPairs$Circle", "beginnerPrefers", "(III)Z"⟩, 6), (⟨"MentorPairs$Pairing", "askFor", "(LMentorPairs$Circle;II)I"⟩, 3), (⟨"MentorPairs$Pairing", "hasPlaceLeft", "(LMentorPairs$Circle;I)Z"⟩, 3), (⟨"MentorPairs$Pairing", "countOf", "(I)I"⟩, 3), (⟨"MentorPairs$Pairing", "leastOf", "(LMentorPairs$Circle;I)I"⟩, 3), (⟨"MentorPairs$Circle", "elderPrefers", "(III)Z"⟩, 6), (⟨"MentorPairs$Pairing", "countPairs", "()I"⟩, 3), (⟨"MentorPairs", "pairedFault", "(I)I"⟩, 10), (⟨"MentorPairs$Pairing", "countBlocking", "(LMentorPairs$Circle;)I"⟩, 3), (⟨"MentorPairs$Pairing", "isBlockedBy", "(LMentorPairs$Circle;II)Z"⟩, 3)]
theorem lw_r2 : ∀ q ∈ lw_privs_2, lw_okq q := List.forall_mem_cons.mpr ⟨lw_p16, List.forall_mem_cons.mpr ⟨lw_p17, List.forall_mem_cons.mpr ⟨lw_p18, List.forall_mem_cons.mpr ⟨lw_p19, List.forall_mem_cons.mpr ⟨lw_p20, List.forall_mem_cons.mpr ⟨lw_p21, List.forall_mem_cons.mpr ⟨lw_p22, List.forall_mem_cons.mpr ⟨lw_p23, List.forall_mem_cons.mpr ⟨lw_p24, List.forall_mem_cons.mpr ⟨lw_p25, List.forall_mem_cons.mpr ⟨lw_p26, List.forall_mem_cons.mpr ⟨lw_p27, List.forall_mem_cons.mpr ⟨lw_p28, List.forall_mem_cons.mpr ⟨lw_p29, List.forall_mem_cons.mpr ⟨lw_p30, List.forall_mem_cons.mpr ⟨lw_p31, fun _ h => absurd h List.not_mem_nil⟩⟩⟩⟩⟩⟩⟩⟩⟩⟩⟩⟩⟩⟩⟩⟩
theorem lw_p32 : lw_okq (⟨"MentorPairs$Row", "findLast", "(LMentorPairs$Circle;LMentorPairs$Pairing;I)I"⟩, 5) := ⟨⟨by decide +kernel, by decide +kernel⟩, List.mem_of_getElem? (i := 85) (by decide +kernel), List.mem_of_getElem? (i := 476) (by decide +kernel), List.mem_of_getElem? (i := 477) (by decide +kernel)⟩
theorem lw_p33 : lw_okq (⟨"MentorPairs$Row", "freeElderFor", "(LMentorPairs$Circle;LMentorPairs$Pairing;I)I"⟩, 5) := ⟨⟨by decide +kernel, by decide +kernel⟩, List.mem_of_getElem? (i := 85) (by decide +kernel), List.mem_of_getElem? (i := 481) (by decide +kernel), List.mem_of_getElem? (i := 482) (by decide +kernel)⟩
theorem lw_p34 : lw_okq (⟨"MentorPairs$Row", "isFree", "(LMentorPairs$Circle;LMentorPairs$Pairing;I)Z"⟩, 5) := ⟨⟨by decide +kernel, by decide +kernel⟩, List.mem_of_getElem? (i := 85) (by decide +kernel), List.mem_of_getElem? (i := 489) (by decide +kernel), List.mem_of_getElem? (i := 490) (by decide +kernel)⟩
theorem lw_p35 : lw_okq (⟨"MentorPairs$Row", "queueLeavers", "(LMentorPairs$Circle;LMentorPairs$Pairing;I)V"⟩, 5) := ⟨⟨by decide +kernel, by decide +kernel⟩, List.mem_of_getElem? (i := 85) (by decide +kernel), List.mem_of_getElem? (i := 494) (by decide +kernel), List.mem_of_getElem? (i := 495) (by decide +kernel)⟩
theorem lw_p36 : lw_okq (⟨"MentorPairs$Row", "queueLeaversOf", "(LMentorPairs$Circle;LMentorPairs$Pairing;II)V"⟩, 5) := ⟨⟨by decide +kernel, by decide +kernel⟩, List.mem_of_getElem? (i := 85) (by decide +kernel), List.mem_of_getElem? (i := 498) (by decide +kernel), List.mem_of_getElem? (i := 499) (by decide +kernel)⟩
theorem lw_p37 : lw_okq (⟨"MentorPairs$Row", "moveAll", "(LMentorPairs$Pairing;I)I"⟩, 5) := ⟨⟨by decide +kernel, by decide +kernel⟩, List.mem_of_getElem? (i := 85) (by decide +kernel), List.mem_of_getElem? (i := 502) (by decide +kernel), List.mem_of_getElem? (i := 503) (by decide +kernel)⟩
theorem lw_p38 : lw_okq (⟨"MentorPairs$Meetings", "add", "(II)I"⟩, 7) := ⟨⟨by decide +kernel, by decide +kernel⟩, List.mem_of_getElem? (i := 107) (by decide +kernel), List.mem_of_getElem? (i := 513) (by decide +kernel), List.mem_of_getElem? (i := 514) (by decide +kernel)⟩
theorem lw_p39 : lw_okq (⟨"MentorPairs$Meetings", "isMeeting", "(I)Z"⟩, 7) := ⟨⟨by decide +kernel, by decide +kernel⟩, List.mem_of_getElem? (i := 107) (by decide +kernel), List.mem_of_getElem? (i := 521) (by decide +kernel), List.mem_of_getElem? (i := 522) (by decide +kernel)⟩
theorem lw_p40 : lw_okq (⟨"MentorPairs$Meetings", "addTelling", "(IZI)V"⟩, 7) := ⟨⟨by decide +kernel, by decide +kernel⟩, List.mem_of_getElem? (i := 107) (by decide +kernel), List.mem_of_getElem? (i := 525) (by decide +kernel), List.mem_of_getElem? (i := 526) (by decide +kernel)⟩
theorem lw_p41 : lw_okq (⟨"MentorPairs$Meetings", "count", "(III)I"⟩, 7) := ⟨⟨by decide +kernel, by decide +kernel⟩, List.mem_of_getElem? (i := 107) (by decide +kernel), List.mem_of_getElem? (i := 533) (by decide +kernel), List.mem_of_getElem? (i := 534) (by decide +kernel)⟩
theorem lw_p42 : lw_okq (⟨"MentorPairs$Meetings", "knownOn", "(II)I"⟩, 7) := ⟨⟨by decide +kernel, by decide +kernel⟩, List.mem_of_getElem? (i := 107) (by decide +kernel), List.mem_of_getElem? (i := 537) (by decide +kernel), List.mem_of_getElem? (i := 538) (by decide +kernel)⟩
theorem lw_p43 : lw_okq (⟨"MentorPairs$Goals", "isGoalOf", "(II)Z"⟩, 5) := ⟨⟨by decide +kernel, by decide +kernel⟩, List.mem_of_getElem? (i := 138) (by decide +kernel), List.mem_of_getElem? (i := 545) (by decide +kernel), List.mem_of_getElem? (i := 546) (by decide +kernel)⟩
theorem lw_p44 : lw_okq (⟨"MentorPairs$Goals", "isGoal", "(I)Z"⟩, 5) := ⟨⟨by decide +kernel, by decide +kernel⟩, List.mem_of_getElem? (i := 138) (by decide +kernel), List.mem_of_getElem? (i := 549) (by decide +kernel), List.mem_of_getElem? (i := 550) (by decide +kernel)⟩
theorem lw_p45 : lw_okq (⟨"MentorPairs$Goals", "add", "(III)I"⟩, 5) := ⟨⟨by decide +kernel, by decide +kernel⟩, List.mem_of_getElem? (i := 138) (by decide +kernel), List.mem_of_getElem? (i := 553) (by decide +kernel), List.mem_of_getElem? (i := 554) (by decide +kernel)⟩
theorem lw_p46 : lw_okq (⟨"MentorPairs$Goals", "asOf", "(II)I"⟩, 5) := ⟨⟨by decide +kernel, by decide +kernel⟩, List.mem_of_getElem? (i := 138) (by decide +kernel), List.mem_of_getElem? (i := 566) (by decide +kernel), List.mem_of_getElem? (i := 567) (by decide +kernel)⟩
theorem lw_p47 : lw_okq (⟨"MentorPairs$Goals", "isReached", "(II)Z"⟩, 5) := ⟨⟨by decide +kernel, by decide +kernel⟩, List.mem_of_getElem? (i := 138) (by decide +kernel), List.mem_of_getElem? (i := 570) (by decide +kernel), List.mem_of_getElem? (i := 571) (by decide +kernel)⟩
def lw_privs_3 : List (MethodName × Nat) := [(⟨"MentorPairs$Row", "findLast", "(LMentorPairs$Circle;LMentorPairs$Pairing;I)I"⟩, 5), (⟨"MentorPairs$Row", "freeElderFor", "(LMentorPairs$Circle;LMentorPairs$Pairing;I)I"⟩, 5), (⟨"MentorPairs$Row", "isFree", "(LMentorPairs$Circle;LMentorPairs$Pairing;I)Z"⟩, 5), (⟨"MentorPairs$Row", "queueLeavers", "(LMentorPairs$Circle;LMentorPairs$Pairing;I)V"⟩, 5), (⟨"MentorPairs$Row", "queueLeaversOf", "(LMentorPairs$Circle;LMentorPairs$Pairing;II)V"⟩, 5), (⟨"MentorPairs$Row", "moveAll", "(LMentorPairs$Pairing;I)I"⟩, 5), (⟨"MentorPairs$Meetings", "add", "(II)I"⟩, 7), (⟨"MentorPairs$Meetings", "isMeeting", "(I)Z"⟩, 7), (⟨"MentorPairs$Meetings", "addTelling", "(IZI)V"⟩, 7), (⟨"MentorPairs$Meetings", "count", "(III)I"⟩, 7), (⟨"MentorPairs$Meetings", "knownOn", "(II)I"⟩, 7), (⟨"MentorPairs$Goals", "isGoalOf", "(II)Z"⟩, 5), (⟨"MentorPairs$Goals", "isGoal", "(I)Z"⟩, 5), (⟨"MentorPairs$Goals", "add", "(III)I"⟩, 5), (⟨"MentorPairs$Goals", "asOf", "(II)I"⟩, 5), (⟨"MentorPairs$Goals", "isReached", "(II)Z"⟩, 5)]
theorem lw_r3 : ∀ q ∈ lw_privs_3, lw_okq q := List.forall_mem_cons.mpr ⟨lw_p32, List.forall_mem_cons.mpr ⟨lw_p33, List.forall_mem_cons.mpr ⟨lw_p34, List.forall_mem_cons.mpr ⟨lw_p35, List.forall_mem_cons.mpr ⟨lw_p36, List.forall_mem_cons.mpr ⟨lw_p37, List.forall_mem_cons.mpr ⟨lw_p38, List.forall_mem_cons.mpr ⟨lw_p39, List.forall_mem_cons.mpr ⟨lw_p40, List.forall_mem_cons.mpr ⟨lw_p41, List.forall_mem_cons.mpr ⟨lw_p42, List.forall_mem_cons.mpr ⟨lw_p43, List.forall_mem_cons.mpr ⟨lw_p44, List.forall_mem_cons.mpr ⟨lw_p45, List.forall_mem_cons.mpr ⟨lw_p46, List.forall_mem_cons.mpr ⟨lw_p47, fun _ h => absurd h List.not_mem_nil⟩⟩⟩⟩⟩⟩⟩⟩⟩⟩⟩⟩⟩⟩⟩⟩
theorem lw_p48 : lw_okq (⟨"MentorPairs$Runs", "add", "(IZ)V"⟩, 3) := ⟨⟨by decide +kernel, by decide +kernel⟩, List.mem_of_getElem? (i := 162) (by decide +kernel), List.mem_of_getElem? (i := 578) (by decide +kernel), List.mem_of_getElem? (i := 579) (by decide +kernel)⟩
theorem lw_p49 : lw_okq (⟨"MentorPairs$Runs", "shareBeyond", "(ILMentorPairs$Fraction;)V"⟩, 3) := ⟨⟨by decide +kernel, by decide +kernel⟩, List.mem_of_getElem? (i := 162) (by decide +kernel), List.mem_of_getElem? (i := 590) (by decide +kernel), List.mem_of_getElem? (i := 591) (by decide +kernel)⟩
theorem lw_p50 : lw_okq (⟨"MentorPairs$Runs", "countEnded", "(I)I"⟩, 3) := ⟨⟨by decide +kernel, by decide +kernel⟩, List.mem_of_getElem? (i := 162) (by decide +kernel), List.mem_of_getElem? (i := 594) (by decide +kernel), List.mem_of_getElem? (i := 595) (by decide +kernel)⟩
theorem lw_p51 : lw_okq (⟨"MentorPairs$Runs", "countAtRisk", "(I)I"⟩, 3) := ⟨⟨by decide +kernel, by decide +kernel⟩, List.mem_of_getElem? (i := 162) (by decide +kernel), List.mem_of_getElem? (i := 598) (by decide +kernel), List.mem_of_getElem? (i := 599) (by decide +kernel)⟩
theorem lw_p52 : lw_okq (⟨"MentorPairs$Fraction", "become", "(JJ)V"⟩, 2) := ⟨⟨by decide +kernel, by decide +kernel⟩, List.mem_of_getElem? (i := 196) (by decide +kernel), List.mem_of_getElem? (i := 602) (by decide +kernel), List.mem_of_getElem? (i := 603) (by decide +kernel)⟩
theorem lw_p53 : lw_okq (⟨"MentorPairs", "trialFault", "(III)I"⟩, 10) := ⟨⟨by decide +kernel, by decide +kernel⟩, List.mem_of_getElem? (i := 17) (by decide +kernel), List.mem_of_getElem? (i := 624) (by decide +kernel), List.mem_of_getElem? (i := 625) (by decide +kernel)⟩
theorem lw_p54 : lw_okq (⟨"MentorPairs$Tray", "hasOutcomes", "(I)Z"⟩, 4) := ⟨⟨by decide +kernel, by decide +kernel⟩, List.mem_of_getElem? (i := 210) (by decide +kernel), List.mem_of_getElem? (i := 628) (by decide +kernel), List.mem_of_getElem? (i := 629) (by decide +kernel)⟩
theorem lw_p55 : lw_okq (⟨"MentorPairs$Trial", "lay", "(LMentorPairs$Tray;I)V"⟩, 3) := ⟨⟨by decide +kernel, by decide +kernel⟩, List.mem_of_getElem? (i := 179) (by decide +kernel), List.mem_of_getElem? (i := 633) (by decide +kernel), List.mem_of_getElem? (i := 634) (by decide +kernel)⟩
theorem lw_p56 : lw_okq (⟨"MentorPairs$Trial", "laySums", "(LMentorPairs$Tray;I[J)V"⟩, 3) := ⟨⟨by decide +kernel, by decide +kernel⟩, List.mem_of_getElem? (i := 179) (by decide +kernel), List.mem_of_getElem? (i := 637) (by decide +kernel), List.mem_of_getElem? (i := 638) (by decide +kernel)⟩
theorem lw_p57 : lw_okq (⟨"MentorPairs$Trial", "gainOf", "(ILMentorPairs$Fraction;)V"⟩, 3) := ⟨⟨by decide +kernel, by decide +kernel⟩, List.mem_of_getElem? (i := 179) (by decide +kernel), List.mem_of_getElem? (i := 645) (by decide +kernel), List.mem_of_getElem? (i := 646) (by decide +kernel)⟩
theorem lw_p58 : lw_okq (⟨"MentorPairs$Trial", "sumOf", "(I)J"⟩, 3) := ⟨⟨by decide +kernel, by decide +kernel⟩, List.mem_of_getElem? (i := 179) (by decide +kernel), List.mem_of_getElem? (i := 655) (by decide +kernel), List.mem_of_getElem? (i := 656) (by decide +kernel)⟩
theorem lw_p59 : lw_okq (⟨"MentorPairs$Trial", "chanceOf", "(ILMentorPairs$Fraction;)V"⟩, 3) := ⟨⟨by decide +kernel, by decide +kernel⟩, List.mem_of_getElem? (i := 179) (by decide +kernel), List.mem_of_getElem? (i := 664) (by decide +kernel), List.mem_of_getElem? (i := 665) (by decide +kernel)⟩
theorem lw_p60 : lw_okq (⟨"MentorPairsModel", "no", "(I)Z"⟩, 33) := ⟨⟨by decide +kernel, by decide +kernel⟩, List.mem_of_getElem? (i := 684) (by decide +kernel), List.mem_of_getElem? (i := 798) (by decide +kernel), List.mem_of_getElem? (i := 799) (by decide +kernel)⟩
theorem lw_p61 : lw_okq (⟨"MentorPairsModel", "placed", "(II)I"⟩, 33) := ⟨⟨by decide +kernel, by decide +kernel⟩, List.mem_of_getElem? (i := 684) (by decide +kernel), List.mem_of_getElem? (i := 806) (by decide +kernel), List.mem_of_getElem? (i := 807) (by decide +kernel)⟩
theorem lw_p62 : lw_okq (⟨"MentorPairsModel", "trayed", "(I)I"⟩, 33) := ⟨⟨by decide +kernel, by decide +kernel⟩, List.mem_of_getElem? (i := 684) (by decide +kernel), List.mem_of_getElem? (i := 810) (by decide +kernel), List.mem_of_getElem? (i := 811) (by decide +kernel)⟩
theorem lw_p63 : lw_okq (⟨"MentorPairsModel", "refuse", "(I)I"⟩, 33) := ⟨⟨by decide +kernel, by decide +kernel⟩, List.mem_of_getElem? (i := 684) (by decide +kernel), List.mem_of_getElem? (i := 830) (by decide +kernel), List.mem_of_getElem? (i := 831) (by decide +kernel)⟩
def lw_privs_4 : List (MethodName × Nat) := [(⟨"MentorPairs$Runs", "add", "(IZ)V"⟩, 3), (⟨"MentorPairs$Runs", "shareBeyond", "(ILMentorPairs$Fraction;)V"⟩, 3), (⟨"MentorPairs$Runs", "countEnded", "(I)I"⟩, 3), (⟨"MentorPairs$Runs", "countAtRisk", "(I)I"⟩, 3), (⟨"MentorPairs$Fraction", "become", "(JJ)V"⟩, 2), (⟨"MentorPairs", "trialFault", "(III)I"⟩, 10), (⟨"MentorPairs$Tray", "hasOutcomes", "(I)Z"⟩, 4), (⟨"MentorPairs$Trial", "lay", "(LMentorPairs$Tray;I)V"⟩, 3), (⟨"MentorPairs$Trial", "laySums", "(LMentorPairs$Tray;I[J)V"⟩, 3), (⟨"MentorPairs$Trial", "gainOf", "(ILMentorPairs$Fraction;)V"⟩, 3), (⟨"MentorPairs$Trial", "sumOf", "(I)J"⟩, 3), (⟨"MentorPairs$Trial", "chanceOf", "(ILMentorPairs$Fraction;)V"⟩, 3), (⟨"MentorPairsModel", "no", "(I)Z"⟩, 33), (⟨"MentorPairsModel", "placed", "(II)I"⟩, 33), (⟨"MentorPairsModel", "trayed", "(I)I"⟩, 33), (⟨"MentorPairsModel", "refuse", "(I)I"⟩, 33)]
theorem lw_r4 : ∀ q ∈ lw_privs_4, lw_okq q := List.forall_mem_cons.mpr ⟨lw_p48, List.forall_mem_cons.mpr ⟨lw_p49, List.forall_mem_cons.mpr ⟨lw_p50, List.forall_mem_cons.mpr ⟨lw_p51, List.forall_mem_cons.mpr ⟨lw_p52, List.forall_mem_cons.mpr ⟨lw_p53, List.forall_mem_cons.mpr ⟨lw_p54, List.forall_mem_cons.mpr ⟨lw_p55, List.forall_mem_cons.mpr ⟨lw_p56, List.forall_mem_cons.mpr ⟨lw_p57, List.forall_mem_cons.mpr ⟨lw_p58, List.forall_mem_cons.mpr ⟨lw_p59, List.forall_mem_cons.mpr ⟨lw_p60, List.forall_mem_cons.mpr ⟨lw_p61, List.forall_mem_cons.mpr ⟨lw_p62, List.forall_mem_cons.mpr ⟨lw_p63, fun _ h => absurd h List.not_mem_nil⟩⟩⟩⟩⟩⟩⟩⟩⟩⟩⟩⟩⟩⟩⟩⟩
theorem lw_p64 : lw_okq (⟨"MentorPairsModel", "isElder", "(I)Z"⟩, 33) := ⟨⟨by decide +kernel, by decide +kernel⟩, List.mem_of_getElem? (i := 684) (by decide +kernel), List.mem_of_getElem? (i := 842) (by decide +kernel), List.mem_of_getElem? (i := 843) (by decide +kernel)⟩
theorem lw_p65 : lw_okq (⟨"MentorPairsModel", "isBeginner", "(I)Z"⟩, 33) := ⟨⟨by decide +kernel, by decide +kernel⟩, List.mem_of_getElem? (i := 684) (by decide +kernel), List.mem_of_getElem? (i := 850) (by decide +kernel), List.mem_of_getElem? (i := 851) (by decide +kernel)⟩
theorem lw_p66 : lw_okq (⟨"MentorPairsModel", "asked", "(II)I"⟩, 33) := ⟨⟨by decide +kernel, by decide +kernel⟩, List.mem_of_getElem? (i := 684) (by decide +kernel), List.mem_of_getElem? (i := 862) (by decide +kernel), List.mem_of_getElem? (i := 863) (by decide +kernel)⟩
theorem lw_p67 : lw_okq (⟨"MentorPairsModel", "can", "(II)Z"⟩, 33) := ⟨⟨by decide +kernel, by decide +kernel⟩, List.mem_of_getElem? (i := 684) (by decide +kernel), List.mem_of_getElem? (i := 866) (by decide +kernel), List.mem_of_getElem? (i := 867) (by decide +kernel)⟩
theorem lw_p68 : lw_okq (⟨"MentorPairsModel", "rank", "(II)I"⟩, 33) := ⟨⟨by decide +kernel, by decide +kernel⟩, List.mem_of_getElem? (i := 684) (by decide +kernel), List.mem_of_getElem? (i := 870) (by decide +kernel), List.mem_of_getElem? (i := 871) (by decide +kernel)⟩
theorem lw_p69 : lw_okq (⟨"MentorPairsModel", "beginnerPrefers", "(III)Z"⟩, 33) := ⟨⟨by decide +kernel, by decide +kernel⟩, List.mem_of_getElem? (i := 684) (by decide +kernel), List.mem_of_getElem? (i := 874) (by decide +kernel), List.mem_of_getElem? (i := 875) (by decide +kernel)⟩
theorem lw_p70 : lw_okq (⟨"MentorPairsModel", "hasOf", "(I)I"⟩, 33) := ⟨⟨by decide +kernel, by decide +kernel⟩, List.mem_of_getElem? (i := 684) (by decide +kernel), List.mem_of_getElem? (i := 878) (by decide +kernel), List.mem_of_getElem? (i := 879) (by decide +kernel)⟩
theorem lw_p71 : lw_okq (⟨"MentorPairsModel", "worst", "(I)I"⟩, 33) := ⟨⟨by decide +kernel, by decide +kernel⟩, List.mem_of_getElem? (i := 684) (by decide +kernel), List.mem_of_getElem? (i := 882) (by decide +kernel), List.mem_of_getElem? (i := 883) (by decide +kernel)⟩
theorem lw_p72 : lw_okq (⟨"MentorPairsModel", "elderPrefers", "(III)Z"⟩, 33) := ⟨⟨by decide +kernel, by decide +kernel⟩, List.mem_of_getElem? (i := 684) (by decide +kernel), List.mem_of_getElem? (i := 886) (by decide +kernel), List.mem_of_getElem? (i := 887) (by decide +kernel)⟩
theorem lw_p73 : lw_okq (⟨"MentorPairsModel", "isBlock", "(II)Z"⟩, 33) := ⟨⟨by decide +kernel, by decide +kernel⟩, List.mem_of_getElem? (i := 684) (by decide +kernel), List.mem_of_getElem? (i := 902) (by decide +kernel), List.mem_of_getElem? (i := 903) (by decide +kernel)⟩
theorem lw_p74 : lw_okq (⟨"MentorPairsModel", "countSteps", "(I)V"⟩, 33) := ⟨⟨by decide +kernel, by decide +kernel⟩, List.mem_of_getElem? (i := 684) (by decide +kernel), List.mem_of_getElem? (i := 914) (by decide +kernel), List.mem_of_getElem? (i := 915) (by decide +kernel)⟩
theorem lw_p75 : lw_okq (⟨"MentorPairsModel", "isFree", "(II)Z"⟩, 33) := ⟨⟨by decide +kernel, by decide +kernel⟩, List.mem_of_getElem? (i := 684) (by decide +kernel), List.mem_of_getElem? (i := 918) (by decide +kernel), List.mem_of_getElem? (i := 919) (by decide +kernel)⟩
theorem lw_p76 : lw_okq (⟨"MentorPairsModel", "takes", "(III)Z"⟩, 33) := ⟨⟨by decide +kernel, by decide +kernel⟩, List.mem_of_getElem? (i := 684) (by decide +kernel), List.mem_of_getElem? (i := 922) (by decide +kernel), List.mem_of_getElem? (i := 923) (by decide +kernel)⟩
theorem lw_p77 : lw_okq (⟨"MentorPairsModel", "isReached", "(II)Z"⟩, 33) := ⟨⟨by decide +kernel, by decide +kernel⟩, List.mem_of_getElem? (i := 684) (by decide +kernel), List.mem_of_getElem? (i := 953) (by decide +kernel), List.mem_of_getElem? (i := 954) (by decide +kernel)⟩
theorem lw_p78 : lw_okq (⟨"MentorPairsModel", "tells", "(JJ)Z"⟩, 33) := ⟨⟨by decide +kernel, by decide +kernel⟩, List.mem_of_getElem? (i := 684) (by decide +kernel), List.mem_of_getElem? (i := 969) (by decide +kernel), List.mem_of_getElem? (i := 970) (by decide +kernel)⟩
theorem lw_p79 : lw_okq (⟨"MentorPairsModel", "trial", "(III)I"⟩, 33) := ⟨⟨by decide +kernel, by decide +kernel⟩, List.mem_of_getElem? (i := 684) (by decide +kernel), List.mem_of_getElem? (i := 989) (by decide +kernel), List.mem_of_getElem? (i := 990) (by decide +kernel)⟩
def lw_privs_5 : List (MethodName × Nat) := [(⟨"MentorPairsModel", "isElder", "(I)Z"⟩, 33), (⟨"MentorPairsModel", "isBeginner", "(I)Z"⟩, 33), (⟨"MentorPairsModel", "asked", "(II)I"⟩, 33), (⟨"MentorPairsModel", "can", "(II)Z"⟩, 33), (⟨"MentorPairsModel", "rank", "(II)I"⟩, 33), (⟨"MentorPairsModel", "beginnerPrefers", "(III)Z"⟩, 33), (⟨"MentorPairsModel", "hasOf", "(I)I"⟩, 33), (⟨"MentorPairsModel", "worst", "(I)I"⟩, 33), (⟨"MentorPairsModel", "elderPrefers", "(III)Z"⟩, 33), (⟨"MentorPairsModel", "isBlock", "(II)Z"⟩, 33), (⟨"MentorPairsModel", "countSteps", "(I)V"⟩, 33), (⟨"MentorPairsModel", "isFree", "(II)Z"⟩, 33), (⟨"MentorPairsModel", "takes", "(III)Z"⟩, 33), (⟨"MentorPairsModel", "isReached", "(II)Z"⟩, 33), (⟨"MentorPairsModel", "tells", "(JJ)Z"⟩, 33), (⟨"MentorPairsModel", "trial", "(III)I"⟩, 33)]
theorem lw_r5 : ∀ q ∈ lw_privs_5, lw_okq q := List.forall_mem_cons.mpr ⟨lw_p64, List.forall_mem_cons.mpr ⟨lw_p65, List.forall_mem_cons.mpr ⟨lw_p66, List.forall_mem_cons.mpr ⟨lw_p67, List.forall_mem_cons.mpr ⟨lw_p68, List.forall_mem_cons.mpr ⟨lw_p69, List.forall_mem_cons.mpr ⟨lw_p70, List.forall_mem_cons.mpr ⟨lw_p71, List.forall_mem_cons.mpr ⟨lw_p72, List.forall_mem_cons.mpr ⟨lw_p73, List.forall_mem_cons.mpr ⟨lw_p74, List.forall_mem_cons.mpr ⟨lw_p75, List.forall_mem_cons.mpr ⟨lw_p76, List.forall_mem_cons.mpr ⟨lw_p77, List.forall_mem_cons.mpr ⟨lw_p78, List.forall_mem_cons.mpr ⟨lw_p79, fun _ h => absurd h List.not_mem_nil⟩⟩⟩⟩⟩⟩⟩⟩⟩⟩⟩⟩⟩⟩⟩⟩
theorem lw_p80 : lw_okq (⟨"MentorPairsModel", "sumOf", "(III)I"⟩, 33) := ⟨⟨by decide +kernel, by decide +kernel⟩, List.mem_of_getElem? (i := 684) (by decide +kernel), List.mem_of_getElem? (i := 995) (by decide +kernel), List.mem_of_getElem? (i := 996) (by decide +kernel)⟩
def lw_privs_6 : List (MethodName × Nat) := [(⟨"MentorPairsModel", "sumOf", "(III)I"⟩, 33)]
theorem lw_r6 : ∀ q ∈ lw_privs_6, lw_okq q := List.forall_mem_cons.mpr ⟨lw_p80, fun _ h => absurd h List.not_mem_nil⟩
def lw_privs : List (MethodName × Nat) := lw_privs_1 ++ (lw_privs_2 ++ (lw_privs_3 ++ (lw_privs_4 ++ (lw_privs_5 ++ (lw_privs_6)))))
def lw_tbl : List Cond := k2_sels lw_privs ++ tables_1
theorem lw_privs_ok : ∀ q ∈ lw_privs, lw_okq q := by
  show ∀ q ∈ lw_privs_1 ++ (lw_privs_2 ++ (lw_privs_3 ++ (lw_privs_4 ++ (lw_privs_5 ++ (lw_privs_6))))), lw_okq q
  exact List.forall_mem_append.mpr ⟨lw_r1, List.forall_mem_append.mpr ⟨lw_r2, List.forall_mem_append.mpr ⟨lw_r3, List.forall_mem_append.mpr ⟨lw_r4, List.forall_mem_append.mpr ⟨lw_r5, lw_r6⟩⟩⟩⟩⟩
/-! ===== BEGIN words of one list among another's, by their places ===== -/
theorem goodIn_r {big : List Cond} (ws : List Cond) (ps : List Nat) (hp : ws = ps.filterMap (fun i => big[i]?)) (h : ws.all goodWord = true) : GoodIn big ws := by
  intro w hw
  have h1 := List.all_eq_true.mp h w hw
  rw [hp] at hw
  obtain ⟨i, -, hi⟩ := List.mem_filterMap.mp hw
  have hm : w ∈ big := by first | exact List.mem_of_getElem? hi | exact List.getElem?_mem hi
  exact ⟨hm, good_of_word h1⟩
theorem goodIn_app {big a b : List Cond} (ha : GoodIn big a) (hb : GoodIn big b) : GoodIn big (a ++ b) := fun w h => (List.mem_append.mp h).elim (ha w) (hb w)
theorem goodIn_ca {big a b : List Cond} {c : Cond} (ha : GoodIn big (c :: a)) (hb : GoodIn big b) : GoodIn big (c :: (a ++ b)) := fun w h => (List.mem_cons.mp h).elim (fun e => ha w (List.mem_cons.mpr (Or.inl e))) (fun h => (List.mem_append.mp h).elim (fun h => ha w (List.mem_cons.mpr (Or.inr h))) (hb w))
theorem goodIn_sub {big ws : List Cond} (hm : ∀ w ∈ ws, w ∈ big) (h : ws.all goodWord = true) : GoodIn big ws := fun w hw => ⟨hm w hw, good_of_word (List.all_eq_true.mp h w hw)⟩
/-! ===== END ===== -/

/-! ===== BEGIN printed: names, fields, word lists, decode rows ===== -/
def RX0 : String := "MentorPairs$Circle"
def TX0 : u_T := fun k => match k with
  | 0 => ("MentorPairs$Circle", "placesOf", "[I", true)
  | 1 => ("MentorPairs$Circle", "likingByElder", "[I", true)
  | 2 => ("MentorPairs$Circle", "likingByBeginner", "[I", true)
  | 3 => ("MentorPairs$Circle", "barred", "[Z", true)
  | 4 => ("MentorPairs$Circle", "elders", "I", false)
  | _ => ("MentorPairs$Circle", "beginners", "I", false)
def tyX0 : Nat → FieldType := fun k => match k with
  | 0 => .array .int
  | 1 => .array .int
  | 2 => .array .int
  | 3 => .array .boolean
  | 4 => .int
  | _ => .int
abbrev wsX00 : List Cond := u_ws RX0 TX0 6
theorem nmX0 : ∀ a, a < 6 → ∀ b, b < 6 → a ≠ b → (TX0 a).2.1 ≠ (TX0 b).2.1 := by decide +kernel
theorem tyX0_ok : ∀ k, k < 6 → parseFieldDescriptor (TX0 k).2.2.1 = some (tyX0 k) := by decide +kernel
abbrev cX0_init : ByteArray := prog_2_method_1_code
def yX0_init : MethodName := ⟨RX0, "<init>", "()V"⟩
abbrev cX0_spot : ByteArray := prog_2_method_2_code
def yX0_spot : MethodName := ⟨RX0, "spot", "(II)I"⟩
abbrev cX0_isElder : ByteArray := prog_2_method_3_code
def yX0_isElder : MethodName := ⟨RX0, "isElder", "(I)Z"⟩
abbrev cX0_isBeginner : ByteArray := prog_2_method_4_code
def yX0_isBeginner : MethodName := ⟨RX0, "isBeginner", "(I)Z"⟩
abbrev cX0_areTwo : ByteArray := prog_2_method_5_code
def yX0_areTwo : MethodName := ⟨RX0, "areTwo", "(II)Z"⟩
abbrev cX0_addElder : ByteArray := prog_2_method_6_code
def yX0_addElder : MethodName := ⟨RX0, "addElder", "(I)I"⟩
abbrev cX0_addBeginner : ByteArray := prog_2_method_7_code
def yX0_addBeginner : MethodName := ⟨RX0, "addBeginner", "()I"⟩
abbrev cX0_setLiking : ByteArray := prog_2_method_8_code
def yX0_setLiking : MethodName := ⟨RX0, "setLiking", "(IIZI)V"⟩
abbrev cX0_isBarred : ByteArray := prog_2_method_9_code
def yX0_isBarred : MethodName := ⟨RX0, "isBarred", "(II)Z"⟩
abbrev cX0_setBarred : ByteArray := prog_2_method_10_code
def yX0_setBarred : MethodName := ⟨RX0, "setBarred", "(IIZ)V"⟩
abbrev cX0_canPair : ByteArray := prog_2_method_11_code
def yX0_canPair : MethodName := ⟨RX0, "canPair", "(II)Z"⟩
abbrev cX0_beginnerPrefers : ByteArray := prog_2_method_12_code
def yX0_beginnerPrefers : MethodName := ⟨RX0, "beginnerPrefers", "(III)Z"⟩
abbrev cX0_elderPrefers : ByteArray := prog_2_method_13_code
def yX0_elderPrefers : MethodName := ⟨RX0, "elderPrefers", "(III)Z"⟩
def RX1 : String := "MentorPairs$Fraction"
def TX1 : u_T := fun k => match k with
  | 0 => ("MentorPairs$Fraction", "above", "J", false)
  | _ => ("MentorPairs$Fraction", "below", "J", false)
def tyX1 : Nat → FieldType := fun k => match k with
  | 0 => .long
  | _ => .long
abbrev wsX10 : List Cond := u_ws RX1 TX1 2
theorem nmX1 : ∀ a, a < 2 → ∀ b, b < 2 → a ≠ b → (TX1 a).2.1 ≠ (TX1 b).2.1 := by decide +kernel
theorem tyX1_ok : ∀ k, k < 2 → parseFieldDescriptor (TX1 k).2.2.1 = some (tyX1 k) := by decide +kernel
abbrev cX1_init : ByteArray := prog_3_method_1_code
def yX1_init : MethodName := ⟨RX1, "<init>", "()V"⟩
abbrev cX1_become : ByteArray := prog_3_method_2_code
def yX1_become : MethodName := ⟨RX1, "become", "(JJ)V"⟩
abbrev cX1_commonDivisor : ByteArray := prog_3_method_3_code
def yX1_commonDivisor : MethodName := ⟨RX1, "commonDivisor", "(JJ)J"⟩
def RX2 : String := "MentorPairs$Goals"
def TX2 : u_T := fun k => match k with
  | 0 => ("MentorPairs$Goals", "beginnerOf", "[I", true)
  | 1 => ("MentorPairs$Goals", "dueOn", "[I", true)
  | 2 => ("MentorPairs$Goals", "behindGoal", "[I", true)
  | 3 => ("MentorPairs$Goals", "confirmedOn", "[I", true)
  | _ => ("MentorPairs$Goals", "many", "I", false)
def tyX2 : Nat → FieldType := fun k => match k with
  | 0 => .array .int
  | 1 => .array .int
  | 2 => .array .int
  | 3 => .array .int
  | _ => .int
abbrev wsX20 : List Cond := u_ws RX2 TX2 5
theorem nmX2 : ∀ a, a < 5 → ∀ b, b < 5 → a ≠ b → (TX2 a).2.1 ≠ (TX2 b).2.1 := by decide +kernel
theorem tyX2_ok : ∀ k, k < 5 → parseFieldDescriptor (TX2 k).2.2.1 = some (tyX2 k) := by decide +kernel
abbrev cX2_init : ByteArray := prog_4_method_1_code
def yX2_init : MethodName := ⟨RX2, "<init>", "()V"⟩
abbrev cX2_isGoal : ByteArray := prog_4_method_2_code
def yX2_isGoal : MethodName := ⟨RX2, "isGoal", "(I)Z"⟩
abbrev cX2_isGoalOf : ByteArray := prog_4_method_3_code
def yX2_isGoalOf : MethodName := ⟨RX2, "isGoalOf", "(II)Z"⟩
abbrev cX2_add : ByteArray := prog_4_method_4_code
def yX2_add : MethodName := ⟨RX2, "add", "(III)I"⟩
abbrev cX2_asOf : ByteArray := prog_4_method_5_code
def yX2_asOf : MethodName := ⟨RX2, "asOf", "(II)I"⟩
abbrev cX2_isReached : ByteArray := prog_4_method_6_code
def yX2_isReached : MethodName := ⟨RX2, "isReached", "(II)Z"⟩
def RX3 : String := "MentorPairs$Meetings"
def TX3 : u_T := fun k => match k with
  | 0 => ("MentorPairs$Meetings", "beginnerOf", "[I", true)
  | 1 => ("MentorPairs$Meetings", "dueOn", "[I", true)
  | 2 => ("MentorPairs$Meetings", "toldMeeting", "[I", true)
  | 3 => ("MentorPairs$Meetings", "toldDay", "[I", true)
  | 4 => ("MentorPairs$Meetings", "toldKept", "[Z", true)
  | 5 => ("MentorPairs$Meetings", "many", "I", false)
  | _ => ("MentorPairs$Meetings", "tellings", "I", false)
def tyX3 : Nat → FieldType := fun k => match k with
  | 0 => .array .int
  | 1 => .array .int
  | 2 => .array .int
  | 3 => .array .int
  | 4 => .array .boolean
  | 5 => .int
  | _ => .int
abbrev wsX30 : List Cond := u_ws RX3 TX3 7
theorem nmX3 : ∀ a, a < 7 → ∀ b, b < 7 → a ≠ b → (TX3 a).2.1 ≠ (TX3 b).2.1 := by decide +kernel
theorem tyX3_ok : ∀ k, k < 7 → parseFieldDescriptor (TX3 k).2.2.1 = some (tyX3 k) := by decide +kernel
abbrev cX3_init : ByteArray := prog_5_method_1_code
def yX3_init : MethodName := ⟨RX3, "<init>", "()V"⟩
abbrev cX3_isMeeting : ByteArray := prog_5_method_2_code
def yX3_isMeeting : MethodName := ⟨RX3, "isMeeting", "(I)Z"⟩
abbrev cX3_add : ByteArray := prog_5_method_3_code
def yX3_add : MethodName := ⟨RX3, "add", "(II)I"⟩
abbrev cX3_addTelling : ByteArray := prog_5_method_4_code
def yX3_addTelling : MethodName := ⟨RX3, "addTelling", "(IZI)V"⟩
abbrev cX3_count : ByteArray := prog_5_method_5_code
def yX3_count : MethodName := ⟨RX3, "count", "(III)I"⟩
abbrev cX3_knownOn : ByteArray := prog_5_method_6_code
def yX3_knownOn : MethodName := ⟨RX3, "knownOn", "(II)I"⟩
def RX4 : String := "MentorPairs$Pairing"
def TX4 : u_T := fun k => match k with
  | 0 => ("MentorPairs$Pairing", "elderBy", "[I", true)
  | 1 => ("MentorPairs$Pairing", "lastAsked", "[I", true)
  | _ => ("MentorPairs$Pairing", "given", "Z", false)
def tyX4 : Nat → FieldType := fun k => match k with
  | 0 => .array .int
  | 1 => .array .int
  | _ => .boolean
abbrev wsX40 : List Cond := u_ws RX4 TX4 3
theorem nmX4 : ∀ a, a < 3 → ∀ b, b < 3 → a ≠ b → (TX4 a).2.1 ≠ (TX4 b).2.1 := by decide +kernel
theorem tyX4_ok : ∀ k, k < 3 → parseFieldDescriptor (TX4 k).2.2.1 = some (tyX4 k) := by decide +kernel
abbrev cX4_init : ByteArray := prog_6_method_1_code
def yX4_init : MethodName := ⟨RX4, "<init>", "()V"⟩
abbrev cX4_countOf : ByteArray := prog_6_method_2_code
def yX4_countOf : MethodName := ⟨RX4, "countOf", "(I)I"⟩
abbrev cX4_hasPlaceLeft : ByteArray := prog_6_method_3_code
def yX4_hasPlaceLeft : MethodName := ⟨RX4, "hasPlaceLeft", "(LMentorPairs$Circle;I)Z"⟩
abbrev cX4_leastOf : ByteArray := prog_6_method_4_code
def yX4_leastOf : MethodName := ⟨RX4, "leastOf", "(LMentorPairs$Circle;I)I"⟩
abbrev cX4_makeBest : ByteArray := prog_6_method_5_code
def yX4_makeBest : MethodName := ⟨RX4, "makeBest", "(LMentorPairs$Circle;)I"⟩
abbrev cX4_countPairs : ByteArray := prog_6_method_6_code
def yX4_countPairs : MethodName := ⟨RX4, "countPairs", "()I"⟩
abbrev cX4_seat : ByteArray := prog_6_method_7_code
def yX4_seat : MethodName := ⟨RX4, "seat", "(LMentorPairs$Circle;I)V"⟩
abbrev cX4_nextChoice : ByteArray := prog_6_method_8_code
def yX4_nextChoice : MethodName := ⟨RX4, "nextChoice", "(LMentorPairs$Circle;I)I"⟩
abbrev cX4_askFor : ByteArray := prog_6_method_9_code
def yX4_askFor : MethodName := ⟨RX4, "askFor", "(LMentorPairs$Circle;II)I"⟩
abbrev cX4_isBlockedBy : ByteArray := prog_6_method_10_code
def yX4_isBlockedBy : MethodName := ⟨RX4, "isBlockedBy", "(LMentorPairs$Circle;II)Z"⟩
abbrev cX4_countBlocking : ByteArray := prog_6_method_11_code
def yX4_countBlocking : MethodName := ⟨RX4, "countBlocking", "(LMentorPairs$Circle;)I"⟩
def RX5 : String := "MentorPairs$Row"
def TX5 : u_T := fun k => match k with
  | 0 => ("MentorPairs$Row", "queue", "[I", true)
  | 1 => ("MentorPairs$Row", "takerFrom", "[I", true)
  | 2 => ("MentorPairs$Row", "queued", "I", false)
  | 3 => ("MentorPairs$Row", "first", "I", false)
  | _ => ("MentorPairs$Row", "freeElder", "I", false)
def tyX5 : Nat → FieldType := fun k => match k with
  | 0 => .array .int
  | 1 => .array .int
  | 2 => .int
  | 3 => .int
  | _ => .int
abbrev wsX50 : List Cond := u_ws RX5 TX5 5
theorem nmX5 : ∀ a, a < 5 → ∀ b, b < 5 → a ≠ b → (TX5 a).2.1 ≠ (TX5 b).2.1 := by decide +kernel
theorem tyX5_ok : ∀ k, k < 5 → parseFieldDescriptor (TX5 k).2.2.1 = some (tyX5 k) := by decide +kernel
abbrev cX5_init : ByteArray := prog_7_method_1_code
def yX5_init : MethodName := ⟨RX5, "<init>", "()V"⟩
abbrev cX5_findLast : ByteArray := prog_7_method_2_code
def yX5_findLast : MethodName := ⟨RX5, "findLast", "(LMentorPairs$Circle;LMentorPairs$Pairing;I)I"⟩
abbrev cX5_mayMove : ByteArray := prog_7_method_3_code
def yX5_mayMove : MethodName := ⟨RX5, "mayMove", "(LMentorPairs$Circle;LMentorPairs$Pairing;II)Z"⟩
abbrev cX5_freeElderFor : ByteArray := prog_7_method_4_code
def yX5_freeElderFor : MethodName := ⟨RX5, "freeElderFor", "(LMentorPairs$Circle;LMentorPairs$Pairing;I)I"⟩
abbrev cX5_isFree : ByteArray := prog_7_method_5_code
def yX5_isFree : MethodName := ⟨RX5, "isFree", "(LMentorPairs$Circle;LMentorPairs$Pairing;I)Z"⟩
abbrev cX5_queueLeavers : ByteArray := prog_7_method_6_code
def yX5_queueLeavers : MethodName := ⟨RX5, "queueLeavers", "(LMentorPairs$Circle;LMentorPairs$Pairing;I)V"⟩
abbrev cX5_queueLeaversOf : ByteArray := prog_7_method_7_code
def yX5_queueLeaversOf : MethodName := ⟨RX5, "queueLeaversOf", "(LMentorPairs$Circle;LMentorPairs$Pairing;II)V"⟩
abbrev cX5_moveAll : ByteArray := prog_7_method_8_code
def yX5_moveAll : MethodName := ⟨RX5, "moveAll", "(LMentorPairs$Pairing;I)I"⟩
def RX6 : String := "MentorPairs$Runs"
def TX6 : u_T := fun k => match k with
  | 0 => ("MentorPairs$Runs", "monthsOf", "[I", true)
  | 1 => ("MentorPairs$Runs", "hasEnded", "[Z", true)
  | _ => ("MentorPairs$Runs", "many", "I", false)
def tyX6 : Nat → FieldType := fun k => match k with
  | 0 => .array .int
  | 1 => .array .boolean
  | _ => .int
abbrev wsX60 : List Cond := u_ws RX6 TX6 3
theorem nmX6 : ∀ a, a < 3 → ∀ b, b < 3 → a ≠ b → (TX6 a).2.1 ≠ (TX6 b).2.1 := by decide +kernel
theorem tyX6_ok : ∀ k, k < 3 → parseFieldDescriptor (TX6 k).2.2.1 = some (tyX6 k) := by decide +kernel
abbrev cX6_init : ByteArray := prog_8_method_1_code
def yX6_init : MethodName := ⟨RX6, "<init>", "()V"⟩
abbrev cX6_add : ByteArray := prog_8_method_2_code
def yX6_add : MethodName := ⟨RX6, "add", "(IZ)V"⟩
abbrev cX6_shareBeyond : ByteArray := prog_8_method_3_code
def yX6_shareBeyond : MethodName := ⟨RX6, "shareBeyond", "(ILMentorPairs$Fraction;)V"⟩
abbrev cX6_countEnded : ByteArray := prog_8_method_4_code
def yX6_countEnded : MethodName := ⟨RX6, "countEnded", "(I)I"⟩
abbrev cX6_countAtRisk : ByteArray := prog_8_method_5_code
def yX6_countAtRisk : MethodName := ⟨RX6, "countAtRisk", "(I)I"⟩
def RX7 : String := "MentorPairs$Tray"
def TX7 : u_T := fun k => match k with
  | 0 => ("MentorPairs$Tray", "numbers", "[J", true)
  | 1 => ("MentorPairs$Tray", "missing", "Z", false)
  | 2 => ("MentorPairs$Tray", "sort", "I", false)
  | _ => ("MentorPairs$Tray", "length", "I", false)
def tyX7 : Nat → FieldType := fun k => match k with
  | 0 => .array .long
  | 1 => .boolean
  | 2 => .int
  | _ => .int
abbrev wsX70 : List Cond := u_ws RX7 TX7 4
theorem nmX7 : ∀ a, a < 4 → ∀ b, b < 4 → a ≠ b → (TX7 a).2.1 ≠ (TX7 b).2.1 := by decide +kernel
theorem tyX7_ok : ∀ k, k < 4 → parseFieldDescriptor (TX7 k).2.2.1 = some (tyX7 k) := by decide +kernel
abbrev cX7_init : ByteArray := prog_9_method_1_code
def yX7_init : MethodName := ⟨RX7, "<init>", "()V"⟩
abbrev cX7_make : ByteArray := prog_9_method_2_code
def yX7_make : MethodName := ⟨RX7, "make", "(II)V"⟩
abbrev cX7_hasPlaces : ByteArray := prog_9_method_3_code
def yX7_hasPlaces : MethodName := ⟨RX7, "hasPlaces", "(II)Z"⟩
abbrev cX7_put : ByteArray := prog_9_method_4_code
def yX7_put : MethodName := ⟨RX7, "put", "(IJ)V"⟩
abbrev cX7_cut : ByteArray := prog_9_method_5_code
def yX7_cut : MethodName := ⟨RX7, "cut", "(J)J"⟩
abbrev cX7_hasOutcomes : ByteArray := prog_9_method_6_code
def yX7_hasOutcomes : MethodName := ⟨RX7, "hasOutcomes", "(I)Z"⟩
def RX8 : String := "MentorPairs$Trial"
def TX8 : u_T := fun k => match k with
  | 0 => ("MentorPairs$Trial", "sumsOfFirst", "[J", true)
  | 1 => ("MentorPairs$Trial", "sumsOfRest", "[J", true)
  | _ => ("MentorPairs$Trial", "many", "I", false)
def tyX8 : Nat → FieldType := fun k => match k with
  | 0 => .array .long
  | 1 => .array .long
  | _ => .int
abbrev wsX80 : List Cond := u_ws RX8 TX8 3
theorem nmX8 : ∀ a, a < 3 → ∀ b, b < 3 → a ≠ b → (TX8 a).2.1 ≠ (TX8 b).2.1 := by decide +kernel
theorem tyX8_ok : ∀ k, k < 3 → parseFieldDescriptor (TX8 k).2.2.1 = some (tyX8 k) := by decide +kernel
abbrev cX8_init : ByteArray := prog_10_method_1_code
def yX8_init : MethodName := ⟨RX8, "<init>", "()V"⟩
abbrev cX8_lay : ByteArray := prog_10_method_2_code
def yX8_lay : MethodName := ⟨RX8, "lay", "(LMentorPairs$Tray;I)V"⟩
abbrev cX8_laySums : ByteArray := prog_10_method_3_code
def yX8_laySums : MethodName := ⟨RX8, "laySums", "(LMentorPairs$Tray;I[J)V"⟩
abbrev cX8_sumOf : ByteArray := prog_10_method_4_code
def yX8_sumOf : MethodName := ⟨RX8, "sumOf", "(I)J"⟩
abbrev cX8_gainOf : ByteArray := prog_10_method_5_code
def yX8_gainOf : MethodName := ⟨RX8, "gainOf", "(ILMentorPairs$Fraction;)V"⟩
abbrev cX8_chanceOf : ByteArray := prog_10_method_6_code
def yX8_chanceOf : MethodName := ⟨RX8, "chanceOf", "(ILMentorPairs$Fraction;)V"⟩
abbrev cX8_countSets : ByteArray := prog_10_method_7_code
def yX8_countSets : MethodName := ⟨RX8, "countSets", "(II)I"⟩
abbrev cX8_nextOfSameSize : ByteArray := prog_10_method_8_code
def yX8_nextOfSameSize : MethodName := ⟨RX8, "nextOfSameSize", "(I)I"⟩
abbrev cX8_drawnSet : ByteArray := prog_10_method_9_code
def yX8_drawnSet : MethodName := ⟨RX8, "drawnSet", "(III)I"⟩
def RX9 : String := "MentorPairs"
def TX9 : u_T := fun k => match k with
  | 0 => ("MentorPairs", "trays", "[LMentorPairs$Tray;", true)
  | 1 => ("MentorPairs", "circle", "LMentorPairs$Circle;", true)
  | 2 => ("MentorPairs", "pairing", "LMentorPairs$Pairing;", true)
  | 3 => ("MentorPairs", "row", "LMentorPairs$Row;", true)
  | 4 => ("MentorPairs", "meetings", "LMentorPairs$Meetings;", true)
  | 5 => ("MentorPairs", "goals", "LMentorPairs$Goals;", true)
  | 6 => ("MentorPairs", "runs", "LMentorPairs$Runs;", true)
  | 7 => ("MentorPairs", "trial", "LMentorPairs$Trial;", true)
  | 8 => ("MentorPairs", "fraction", "LMentorPairs$Fraction;", true)
  | _ => ("MentorPairs", "latest", "I", false)
def tyX9 : Nat → FieldType := fun k => match k with
  | 0 => .array (.object "MentorPairs$Tray")
  | 1 => .object "MentorPairs$Circle"
  | 2 => .object "MentorPairs$Pairing"
  | 3 => .object "MentorPairs$Row"
  | 4 => .object "MentorPairs$Meetings"
  | 5 => .object "MentorPairs$Goals"
  | 6 => .object "MentorPairs$Runs"
  | 7 => .object "MentorPairs$Trial"
  | 8 => .object "MentorPairs$Fraction"
  | _ => .int
abbrev wsX90 : List Cond := u_ws RX9 TX9 10
theorem nmX9 : ∀ a, a < 10 → ∀ b, b < 10 → a ≠ b → (TX9 a).2.1 ≠ (TX9 b).2.1 := by decide +kernel
theorem tyX9_ok : ∀ k, k < 10 → parseFieldDescriptor (TX9 k).2.2.1 = some (tyX9 k) := by decide +kernel
abbrev cX9_init : ByteArray := prog_1_method_1_code
def yX9_init : MethodName := ⟨RX9, "<init>", "()V"⟩
abbrev cX9_status : ByteArray := prog_1_method_2_code
def yX9_status : MethodName := ⟨RX9, "status", "()I"⟩
abbrev cX9_tray : ByteArray := prog_1_method_3_code
def yX9_tray : MethodName := ⟨RX9, "tray", "(III)Z"⟩
abbrev cX9_write : ByteArray := prog_1_method_4_code
def yX9_write : MethodName := ⟨RX9, "write", "(IIJ)Z"⟩
abbrev cX9_read : ByteArray := prog_1_method_5_code
def yX9_read : MethodName := ⟨RX9, "read", "(II)J"⟩
abbrev cX9_pour : ByteArray := prog_1_method_6_code
def yX9_pour : MethodName := ⟨RX9, "pour", "(IIIII)Z"⟩
abbrev cX9_elder : ByteArray := prog_1_method_7_code
def yX9_elder : MethodName := ⟨RX9, "elder", "(I)I"⟩
abbrev cX9_beginner : ByteArray := prog_1_method_8_code
def yX9_beginner : MethodName := ⟨RX9, "beginner", "()I"⟩
abbrev cX9_places : ByteArray := prog_1_method_9_code
def yX9_places : MethodName := ⟨RX9, "places", "(II)Z"⟩
abbrev cX9_like : ByteArray := prog_1_method_10_code
def yX9_like : MethodName := ⟨RX9, "like", "(IIZI)Z"⟩
abbrev cX9_bar : ByteArray := prog_1_method_11_code
def yX9_bar : MethodName := ⟨RX9, "bar", "(IIZ)Z"⟩
abbrev cX9_pair : ByteArray := prog_1_method_12_code
def yX9_pair : MethodName := ⟨RX9, "pair", "()I"⟩
abbrev cX9_elderOf : ByteArray := prog_1_method_13_code
def yX9_elderOf : MethodName := ⟨RX9, "elderOf", "(I)I"⟩
abbrev cX9_has : ByteArray := prog_1_method_14_code
def yX9_has : MethodName := ⟨RX9, "has", "(I)I"⟩
abbrev cX9_blocks : ByteArray := prog_1_method_15_code
def yX9_blocks : MethodName := ⟨RX9, "blocks", "()I"⟩
abbrev cX9_block : ByteArray := prog_1_method_16_code
def yX9_block : MethodName := ⟨RX9, "block", "(II)I"⟩
abbrev cX9_change : ByteArray := prog_1_method_17_code
def yX9_change : MethodName := ⟨RX9, "change", "(I)I"⟩
abbrev cX9_meeting : ByteArray := prog_1_method_18_code
def yX9_meeting : MethodName := ⟨RX9, "meeting", "(II)I"⟩
abbrev cX9_tell : ByteArray := prog_1_method_19_code
def yX9_tell : MethodName := ⟨RX9, "tell", "(IZI)Z"⟩
abbrev cX9_met : ByteArray := prog_1_method_20_code
def yX9_met : MethodName := ⟨RX9, "met", "(III)I"⟩
abbrev cX9_goal : ByteArray := prog_1_method_21_code
def yX9_goal : MethodName := ⟨RX9, "goal", "(III)I"⟩
abbrev cX9_confirm : ByteArray := prog_1_method_22_code
def yX9_confirm : MethodName := ⟨RX9, "confirm", "(II)Z"⟩
abbrev cX9_goalAt : ByteArray := prog_1_method_23_code
def yX9_goalAt : MethodName := ⟨RX9, "goalAt", "(II)I"⟩
abbrev cX9_run : ByteArray := prog_1_method_24_code
def yX9_run : MethodName := ⟨RX9, "run", "(IZ)Z"⟩
abbrev cX9_clear : ByteArray := prog_1_method_25_code
def yX9_clear : MethodName := ⟨RX9, "clear", "()Z"⟩
abbrev cX9_lasts : ByteArray := prog_1_method_26_code
def yX9_lasts : MethodName := ⟨RX9, "lasts", "(I)Z"⟩
abbrev cX9_upper : ByteArray := prog_1_method_27_code
def yX9_upper : MethodName := ⟨RX9, "upper", "()J"⟩
abbrev cX9_lower : ByteArray := prog_1_method_28_code
def yX9_lower : MethodName := ⟨RX9, "lower", "()J"⟩
abbrev cX9_gain : ByteArray := prog_1_method_29_code
def yX9_gain : MethodName := ⟨RX9, "gain", "(III)Z"⟩
abbrev cX9_chance : ByteArray := prog_1_method_30_code
def yX9_chance : MethodName := ⟨RX9, "chance", "(III)Z"⟩
abbrev cX9_draw : ByteArray := prog_1_method_31_code
def yX9_draw : MethodName := ⟨RX9, "draw", "(III)I"⟩
abbrev cX9_finish : ByteArray := prog_1_method_32_code
def yX9_finish : MethodName := ⟨RX9, "finish", "(I)Z"⟩
abbrev cX9_refused : ByteArray := prog_1_method_33_code
def yX9_refused : MethodName := ⟨RX9, "refused", "(I)I"⟩
abbrev cX9_answered : ByteArray := prog_1_method_34_code
def yX9_answered : MethodName := ⟨RX9, "answered", "(I)I"⟩
abbrev cX9_isTray : ByteArray := prog_1_method_35_code
def yX9_isTray : MethodName := ⟨RX9, "isTray", "(I)Z"⟩
abbrev cX9_isPlaces : ByteArray := prog_1_method_36_code
def yX9_isPlaces : MethodName := ⟨RX9, "isPlaces", "(I)Z"⟩
abbrev cX9_isDay : ByteArray := prog_1_method_37_code
def yX9_isDay : MethodName := ⟨RX9, "isDay", "(I)Z"⟩
abbrev cX9_trayFault : ByteArray := prog_1_method_38_code
def yX9_trayFault : MethodName := ⟨RX9, "trayFault", "(I)I"⟩
abbrev cX9_placeFault : ByteArray := prog_1_method_39_code
def yX9_placeFault : MethodName := ⟨RX9, "placeFault", "(II)I"⟩
abbrev cX9_pourFault : ByteArray := prog_1_method_40_code
def yX9_pourFault : MethodName := ⟨RX9, "pourFault", "(IIIII)I"⟩
abbrev cX9_pairedFault : ByteArray := prog_1_method_41_code
def yX9_pairedFault : MethodName := ⟨RX9, "pairedFault", "(I)I"⟩
abbrev cX9_trialFault : ByteArray := prog_1_method_42_code
def yX9_trialFault : MethodName := ⟨RX9, "trialFault", "(III)I"⟩
def RX10 : String := "MentorPairsModel"
def TX10 : u_T := fun k => match k with
  | 0 => ("MentorPairsModel", "status", "I", false)
  | 1 => ("MentorPairsModel", "thrown", "I", false)
  | 2 => ("MentorPairsModel", "above", "J", false)
  | 3 => ("MentorPairsModel", "under", "J", false)
  | 4 => ("MentorPairsModel", "traySort", "[I", true)
  | 5 => ("MentorPairsModel", "trayMany", "[I", true)
  | 6 => ("MentorPairsModel", "numbers", "[J", true)
  | 7 => ("MentorPairsModel", "elders", "I", false)
  | 8 => ("MentorPairsModel", "beginners", "I", false)
  | 9 => ("MentorPairsModel", "places", "[I", true)
  | 10 => ("MentorPairsModel", "ofElder", "[I", true)
  | 11 => ("MentorPairsModel", "ofBeginner", "[I", true)
  | 12 => ("MentorPairsModel", "isBarred", "[Z", true)
  | 13 => ("MentorPairsModel", "isGiven", "Z", false)
  | 14 => ("MentorPairsModel", "given", "[I", true)
  | 15 => ("MentorPairsModel", "asks", "[I", true)
  | 16 => ("MentorPairsModel", "steps", "[I", true)
  | 17 => ("MentorPairsModel", "meetings", "I", false)
  | 18 => ("MentorPairsModel", "told", "I", false)
  | 19 => ("MentorPairsModel", "meetingOf", "[I", true)
  | 20 => ("MentorPairsModel", "meetingDue", "[I", true)
  | 21 => ("MentorPairsModel", "toldOf", "[I", true)
  | 22 => ("MentorPairsModel", "toldDay", "[I", true)
  | 23 => ("MentorPairsModel", "toldKept", "[Z", true)
  | 24 => ("MentorPairsModel", "goals", "I", false)
  | 25 => ("MentorPairsModel", "goalOf", "[I", true)
  | 26 => ("MentorPairsModel", "goalDue", "[I", true)
  | 27 => ("MentorPairsModel", "goalBehind", "[I", true)
  | 28 => ("MentorPairsModel", "goalConfirmed", "[I", true)
  | 29 => ("MentorPairsModel", "runs", "I", false)
  | 30 => ("MentorPairsModel", "months", "[I", true)
  | 31 => ("MentorPairsModel", "hasEnded", "[Z", true)
  | _ => ("MentorPairsModel", "free", "[Z", true)
def tyX10 : Nat → FieldType := fun k => match k with
  | 0 => .int
  | 1 => .int
  | 2 => .long
  | 3 => .long
  | 4 => .array .int
  | 5 => .array .int
  | 6 => .array .long
  | 7 => .int
  | 8 => .int
  | 9 => .array .int
  | 10 => .array .int
  | 11 => .array .int
  | 12 => .array .boolean
  | 13 => .boolean
  | 14 => .array .int
  | 15 => .array .int
  | 16 => .array .int
  | 17 => .int
  | 18 => .int
  | 19 => .array .int
  | 20 => .array .int
  | 21 => .array .int
  | 22 => .array .int
  | 23 => .array .boolean
  | 24 => .int
  | 25 => .array .int
  | 26 => .array .int
  | 27 => .array .int
  | 28 => .array .int
  | 29 => .int
  | 30 => .array .int
  | 31 => .array .boolean
  | _ => .array .boolean
abbrev wsX100 : List Cond := u_ws RX10 TX10 33
theorem nmX10 : ∀ a, a < 33 → ∀ b, b < 33 → a ≠ b → (TX10 a).2.1 ≠ (TX10 b).2.1 := by decide +kernel
theorem tyX10_ok : ∀ k, k < 33 → parseFieldDescriptor (TX10 k).2.2.1 = some (tyX10 k) := by decide +kernel
abbrev cX10_init : ByteArray := prog_12_method_1_code
def yX10_init : MethodName := ⟨RX10, "<init>", "()V"⟩
abbrev cX10_status : ByteArray := prog_12_method_3_code
def yX10_status : MethodName := ⟨RX10, "status", "()I"⟩
abbrev cX10_refuse : ByteArray := prog_12_method_4_code
def yX10_refuse : MethodName := ⟨RX10, "refuse", "(I)I"⟩
abbrev cX10_no : ByteArray := prog_12_method_5_code
def yX10_no : MethodName := ⟨RX10, "no", "(I)Z"⟩
abbrev cX10_cut : ByteArray := prog_12_method_6_code
def yX10_cut : MethodName := ⟨RX10, "cut", "(IJ)J"⟩
abbrev cX10_tray : ByteArray := prog_12_method_7_code
def yX10_tray : MethodName := ⟨RX10, "tray", "(III)Z"⟩
abbrev cX10_trayed : ByteArray := prog_12_method_8_code
def yX10_trayed : MethodName := ⟨RX10, "trayed", "(I)I"⟩
abbrev cX10_placed : ByteArray := prog_12_method_9_code
def yX10_placed : MethodName := ⟨RX10, "placed", "(II)I"⟩
abbrev cX10_write : ByteArray := prog_12_method_10_code
def yX10_write : MethodName := ⟨RX10, "write", "(IIJ)Z"⟩
abbrev cX10_read : ByteArray := prog_12_method_11_code
def yX10_read : MethodName := ⟨RX10, "read", "(II)J"⟩
abbrev cX10_pour : ByteArray := prog_12_method_12_code
def yX10_pour : MethodName := ⟨RX10, "pour", "(IIIII)Z"⟩
abbrev cX10_isElder : ByteArray := prog_12_method_13_code
def yX10_isElder : MethodName := ⟨RX10, "isElder", "(I)Z"⟩
abbrev cX10_isBeginner : ByteArray := prog_12_method_14_code
def yX10_isBeginner : MethodName := ⟨RX10, "isBeginner", "(I)Z"⟩
abbrev cX10_elder : ByteArray := prog_12_method_15_code
def yX10_elder : MethodName := ⟨RX10, "elder", "(I)I"⟩
abbrev cX10_beginner : ByteArray := prog_12_method_16_code
def yX10_beginner : MethodName := ⟨RX10, "beginner", "()I"⟩
abbrev cX10_places : ByteArray := prog_12_method_17_code
def yX10_places : MethodName := ⟨RX10, "places", "(II)Z"⟩
abbrev cX10_like : ByteArray := prog_12_method_18_code
def yX10_like : MethodName := ⟨RX10, "like", "(IIZI)Z"⟩
abbrev cX10_bar : ByteArray := prog_12_method_19_code
def yX10_bar : MethodName := ⟨RX10, "bar", "(IIZ)Z"⟩
abbrev cX10_can : ByteArray := prog_12_method_20_code
def yX10_can : MethodName := ⟨RX10, "can", "(II)Z"⟩
abbrev cX10_elderPrefers : ByteArray := prog_12_method_21_code
def yX10_elderPrefers : MethodName := ⟨RX10, "elderPrefers", "(III)Z"⟩
abbrev cX10_beginnerPrefers : ByteArray := prog_12_method_22_code
def yX10_beginnerPrefers : MethodName := ⟨RX10, "beginnerPrefers", "(III)Z"⟩
abbrev cX10_hasOf : ByteArray := prog_12_method_23_code
def yX10_hasOf : MethodName := ⟨RX10, "hasOf", "(I)I"⟩
abbrev cX10_worst : ByteArray := prog_12_method_24_code
def yX10_worst : MethodName := ⟨RX10, "worst", "(I)I"⟩
abbrev cX10_rank : ByteArray := prog_12_method_25_code
def yX10_rank : MethodName := ⟨RX10, "rank", "(II)I"⟩
abbrev cX10_asked : ByteArray := prog_12_method_26_code
def yX10_asked : MethodName := ⟨RX10, "asked", "(II)I"⟩
abbrev cX10_pair : ByteArray := prog_12_method_27_code
def yX10_pair : MethodName := ⟨RX10, "pair", "()I"⟩
abbrev cX10_elderOf : ByteArray := prog_12_method_28_code
def yX10_elderOf : MethodName := ⟨RX10, "elderOf", "(I)I"⟩
abbrev cX10_has : ByteArray := prog_12_method_29_code
def yX10_has : MethodName := ⟨RX10, "has", "(I)I"⟩
abbrev cX10_isBlock : ByteArray := prog_12_method_30_code
def yX10_isBlock : MethodName := ⟨RX10, "isBlock", "(II)Z"⟩
abbrev cX10_blocks : ByteArray := prog_12_method_31_code
def yX10_blocks : MethodName := ⟨RX10, "blocks", "()I"⟩
abbrev cX10_block : ByteArray := prog_12_method_32_code
def yX10_block : MethodName := ⟨RX10, "block", "(II)I"⟩
abbrev cX10_isFree : ByteArray := prog_12_method_33_code
def yX10_isFree : MethodName := ⟨RX10, "isFree", "(II)Z"⟩
abbrev cX10_countSteps : ByteArray := prog_12_method_34_code
def yX10_countSteps : MethodName := ⟨RX10, "countSteps", "(I)V"⟩
abbrev cX10_change : ByteArray := prog_12_method_35_code
def yX10_change : MethodName := ⟨RX10, "change", "(I)I"⟩
abbrev cX10_takes : ByteArray := prog_12_method_36_code
def yX10_takes : MethodName := ⟨RX10, "takes", "(III)Z"⟩
abbrev cX10_isDay : ByteArray := prog_12_method_37_code
def yX10_isDay : MethodName := ⟨RX10, "isDay", "(I)Z"⟩
abbrev cX10_meeting : ByteArray := prog_12_method_38_code
def yX10_meeting : MethodName := ⟨RX10, "meeting", "(II)I"⟩
abbrev cX10_tell : ByteArray := prog_12_method_39_code
def yX10_tell : MethodName := ⟨RX10, "tell", "(IZI)Z"⟩
abbrev cX10_met : ByteArray := prog_12_method_40_code
def yX10_met : MethodName := ⟨RX10, "met", "(III)I"⟩
abbrev cX10_goal : ByteArray := prog_12_method_41_code
def yX10_goal : MethodName := ⟨RX10, "goal", "(III)I"⟩
abbrev cX10_confirm : ByteArray := prog_12_method_42_code
def yX10_confirm : MethodName := ⟨RX10, "confirm", "(II)Z"⟩
abbrev cX10_isReached : ByteArray := prog_12_method_43_code
def yX10_isReached : MethodName := ⟨RX10, "isReached", "(II)Z"⟩
abbrev cX10_goalAt : ByteArray := prog_12_method_44_code
def yX10_goalAt : MethodName := ⟨RX10, "goalAt", "(II)I"⟩
abbrev cX10_common : ByteArray := prog_12_method_45_code
def yX10_common : MethodName := ⟨RX10, "common", "(JJ)J"⟩
abbrev cX10_tells : ByteArray := prog_12_method_46_code
def yX10_tells : MethodName := ⟨RX10, "tells", "(JJ)Z"⟩
abbrev cX10_run : ByteArray := prog_12_method_47_code
def yX10_run : MethodName := ⟨RX10, "run", "(IZ)Z"⟩
abbrev cX10_clear : ByteArray := prog_12_method_48_code
def yX10_clear : MethodName := ⟨RX10, "clear", "()Z"⟩
abbrev cX10_lasts : ByteArray := prog_12_method_49_code
def yX10_lasts : MethodName := ⟨RX10, "lasts", "(I)Z"⟩
abbrev cX10_upper : ByteArray := prog_12_method_50_code
def yX10_upper : MethodName := ⟨RX10, "upper", "()J"⟩
abbrev cX10_lower : ByteArray := prog_12_method_51_code
def yX10_lower : MethodName := ⟨RX10, "lower", "()J"⟩
abbrev cX10_trial : ByteArray := prog_12_method_52_code
def yX10_trial : MethodName := ⟨RX10, "trial", "(III)I"⟩
abbrev cX10_sumOf : ByteArray := prog_12_method_53_code
def yX10_sumOf : MethodName := ⟨RX10, "sumOf", "(III)I"⟩
abbrev cX10_gain : ByteArray := prog_12_method_54_code
def yX10_gain : MethodName := ⟨RX10, "gain", "(III)Z"⟩
abbrev cX10_chance : ByteArray := prog_12_method_55_code
def yX10_chance : MethodName := ⟨RX10, "chance", "(III)Z"⟩
abbrev cX10_draw : ByteArray := prog_12_method_56_code
def yX10_draw : MethodName := ⟨RX10, "draw", "(III)I"⟩
def RJ6 : String := "java/lang/Integer"
def TJ6 : u_T := fun k => match k with
  | _ => ("", "", "", false)
def tyJ6 : Nat → FieldType := fun k => match k with
  | _ => .int
abbrev wsJ60 : List Cond := u_ws RJ6 TJ6 0
theorem nmJ6 : ∀ a, a < 0 → ∀ b, b < 0 → a ≠ b → (TJ6 a).2.1 ≠ (TJ6 b).2.1 := by decide +kernel
theorem tyJ6_ok : ∀ k, k < 0 → parseFieldDescriptor (TJ6 k).2.2.1 = some (tyJ6 k) := by decide +kernel
abbrev cJ6_numberOfTrailingZeros_0f7a4 : ByteArray := prog_13_method_48_code
def yJ6_numberOfTrailingZeros_0f7a4 : MethodName := ⟨RJ6, "numberOfTrailingZeros", "(I)I"⟩
abbrev cJ6_bitCount_0f7a4 : ByteArray := prog_13_method_49_code
def yJ6_bitCount_0f7a4 : MethodName := ⟨RJ6, "bitCount", "(I)I"⟩
def RJ9 : String := "java/lang/Math"
def TJ9 : u_T := fun k => match k with
  | _ => ("", "", "", false)
def tyJ9 : Nat → FieldType := fun k => match k with
  | _ => .int
abbrev wsJ90 : List Cond := u_ws RJ9 TJ9 0
theorem nmJ9 : ∀ a, a < 0 → ∀ b, b < 0 → a ≠ b → (TJ9 a).2.1 ≠ (TJ9 b).2.1 := by decide +kernel
theorem tyJ9_ok : ∀ k, k < 0 → parseFieldDescriptor (TJ9 k).2.2.1 = some (tyJ9 k) := by decide +kernel
abbrev cJ9_abs_067f4 : ByteArray := prog_14_method_61_code
def yJ9_abs_067f4 : MethodName := ⟨RJ9, "abs", "(J)J"⟩
def RJ10 : String := "java/lang/System"
def TJ10 : u_T := fun k => match k with
  | _ => ("", "", "", false)
def tyJ10 : Nat → FieldType := fun k => match k with
  | _ => .int
abbrev wsJ100 : List Cond := u_ws RJ10 TJ10 0
theorem nmJ10 : ∀ a, a < 0 → ∀ b, b < 0 → a ≠ b → (TJ10 a).2.1 ≠ (TJ10 b).2.1 := by decide +kernel
theorem tyJ10_ok : ∀ k, k < 0 → parseFieldDescriptor (TJ10 k).2.2.1 = some (tyJ10 k) := by decide +kernel
def RJ7 : String := "java/util/Arrays"
def TJ7 : u_T := fun k => match k with
  | _ => ("", "", "", false)
def tyJ7 : Nat → FieldType := fun k => match k with
  | _ => .int
abbrev wsJ70 : List Cond := u_ws RJ7 TJ7 0
theorem nmJ7 : ∀ a, a < 0 → ∀ b, b < 0 → a ≠ b → (TJ7 a).2.1 ≠ (TJ7 b).2.1 := by decide +kernel
theorem tyJ7_ok : ∀ k, k < 0 → parseFieldDescriptor (TJ7 k).2.2.1 = some (tyJ7 k) := by decide +kernel
abbrev cJ7_fill_d0a16 : ByteArray := prog_16_method_101_code
def yJ7_fill_d0a16 : MethodName := ⟨RJ7, "fill", "([JJ)V"⟩
abbrev cJ7_fill_53178 : ByteArray := prog_16_method_103_code
def yJ7_fill_53178 : MethodName := ⟨RJ7, "fill", "([II)V"⟩
def RL : String := "MentorPairsLaw"
def wsX0_init : List Cond := .code yX0_init cX0_init 1 none :: ([.methodLink RX0 3 objectInit, .instanceMethod objectInit, .code objectInit ⟨#[0xb1]⟩ 1 none, .arrayClass .int, .fieldLink RX0 9 "MentorPairs$Circle" "placesOf" "[I", .fieldLink RX0 15 "MentorPairs$Circle" "likingByElder" "[I", .fieldLink RX0 18 "MentorPairs$Circle" "likingByBeginner" "[I", .arrayClass .boolean, .fieldLink RX0 21 "MentorPairs$Circle" "barred" "[Z", .fieldLink RX0 25 "MentorPairs$Circle" "elders" "I", .fieldLink RX0 29 "MentorPairs$Circle" "beginners" "I"] ++ wsX00)
def wsX0_spot : List Cond := .code yX0_spot cX0_spot 2 (some .int) :: ([])
def wsX0_isElder : List Cond := .code yX0_isElder cX0_isElder 2 (some .boolean) :: ([.fieldLink RX0 25 "MentorPairs$Circle" "elders" "I"] ++ wsX00)
def wsX0_isBeginner : List Cond := .code yX0_isBeginner cX0_isBeginner 2 (some .boolean) :: ([.fieldLink RX0 29 "MentorPairs$Circle" "beginners" "I"] ++ wsX00)
def wsX0_areTwo : List Cond := .code yX0_areTwo cX0_areTwo 3 (some .boolean) :: ([.methodLink RX0 32 yX0_isElder, .instanceMethod yX0_isElder, .selects RX0 yX0_isElder yX0_isElder, .initialized RX0, .code yX0_isElder cX0_isElder 2 (some .boolean), .fieldLink RX0 25 "MentorPairs$Circle" "elders" "I", .methodLink RX0 36 yX0_isBeginner, .instanceMethod yX0_isBeginner, .selects RX0 yX0_isBeginner yX0_isBeginner, .code yX0_isBeginner cX0_isBeginner 2 (some .boolean), .fieldLink RX0 29 "MentorPairs$Circle" "beginners" "I"] ++ wsX00)
def wsX0_addElder : List Cond := .code yX0_addElder cX0_addElder 2 (some .int) :: ([.fieldLink RX0 9 "MentorPairs$Circle" "placesOf" "[I", .fieldLink RX0 25 "MentorPairs$Circle" "elders" "I"] ++ wsX00)
def wsX0_addBeginner : List Cond := .code yX0_addBeginner cX0_addBeginner 1 (some .int) :: ([.fieldLink RX0 29 "MentorPairs$Circle" "beginners" "I"] ++ wsX00)
def wsX0_setLiking : List Cond := .code yX0_setLiking cX0_setLiking 6 none :: ([.fieldLink RX0 15 "MentorPairs$Circle" "likingByElder" "[I", .fieldLink RX0 18 "MentorPairs$Circle" "likingByBeginner" "[I", .methodLink RX0 39 yX0_spot, .static yX0_spot, .initialized RX0, .code yX0_spot cX0_spot 2 (some .int)] ++ wsX00)
def wsX0_isBarred : List Cond := .code yX0_isBarred cX0_isBarred 3 (some .boolean) :: ([.fieldLink RX0 21 "MentorPairs$Circle" "barred" "[Z", .methodLink RX0 39 yX0_spot, .static yX0_spot, .initialized RX0, .code yX0_spot cX0_spot 2 (some .int)] ++ wsX00)
def wsX0_setBarred : List Cond := .code yX0_setBarred cX0_setBarred 4 none :: ([.fieldLink RX0 21 "MentorPairs$Circle" "barred" "[Z", .methodLink RX0 39 yX0_spot, .static yX0_spot, .initialized RX0, .code yX0_spot cX0_spot 2 (some .int)] ++ wsX00)
def wsX0_canPair : List Cond := .code yX0_canPair cX0_canPair 4 (some .boolean) :: ([.fieldLink RX0 15 "MentorPairs$Circle" "likingByElder" "[I", .fieldLink RX0 18 "MentorPairs$Circle" "likingByBeginner" "[I", .fieldLink RX0 21 "MentorPairs$Circle" "barred" "[Z", .methodLink RX0 39 yX0_spot, .static yX0_spot, .initialized RX0, .code yX0_spot cX0_spot 2 (some .int)] ++ wsX00)
def wsX0_beginnerPrefers : List Cond := .code yX0_beginnerPrefers cX0_beginnerPrefers 6 (some .boolean) :: ([.fieldLink RX0 18 "MentorPairs$Circle" "likingByBeginner" "[I", .methodLink RX0 39 yX0_spot, .static yX0_spot, .initialized RX0, .code yX0_spot cX0_spot 2 (some .int)] ++ wsX00)
def wsX0_elderPrefers : List Cond := .code yX0_elderPrefers cX0_elderPrefers 6 (some .boolean) :: ([.fieldLink RX0 15 "MentorPairs$Circle" "likingByElder" "[I", .methodLink RX0 39 yX0_spot, .static yX0_spot, .initialized RX0, .code yX0_spot cX0_spot 2 (some .int)] ++ wsX00)
def wsX1_init : List Cond := .code yX1_init cX1_init 1 none :: ([.methodLink RX1 1 objectInit, .instanceMethod objectInit, .code objectInit ⟨#[0xb1]⟩ 1 none, .fieldLink RX1 7 "MentorPairs$Fraction" "above" "J", .fieldLink RX1 13 "MentorPairs$Fraction" "below" "J"] ++ wsX10)
def wsX1_commonDivisor : List Cond := .code yX1_commonDivisor cX1_commonDivisor 11 (some .long) :: ([])
def wsX1_become : List Cond := .code yX1_become cX1_become 7 none :: ([.methodLink RX1 16 Lib.MathLoose.abs_long.x, .static Lib.MathLoose.abs_long.x, .initialized "java/lang/Math", .code Lib.MathLoose.abs_long.x Lib.MathLoose.abs_long.code 2 (some .long), .fieldLink RX1 7 "MentorPairs$Fraction" "above" "J", .fieldLink RX1 13 "MentorPairs$Fraction" "below" "J", .methodLink RX1 22 yX1_commonDivisor, .static yX1_commonDivisor, .initialized RX1, .code yX1_commonDivisor cX1_commonDivisor 11 (some .long)] ++ wsX10)
def wsX2_init : List Cond := .code yX2_init cX2_init 1 none :: ([.methodLink RX2 3 objectInit, .instanceMethod objectInit, .code objectInit ⟨#[0xb1]⟩ 1 none, .arrayClass .int, .fieldLink RX2 9 "MentorPairs$Goals" "beginnerOf" "[I", .fieldLink RX2 15 "MentorPairs$Goals" "dueOn" "[I", .fieldLink RX2 18 "MentorPairs$Goals" "behindGoal" "[I", .fieldLink RX2 21 "MentorPairs$Goals" "confirmedOn" "[I", .fieldLink RX2 24 "MentorPairs$Goals" "many" "I"] ++ wsX20)
def wsX2_isGoal : List Cond := .code yX2_isGoal cX2_isGoal 2 (some .boolean) :: ([.fieldLink RX2 24 "MentorPairs$Goals" "many" "I"] ++ wsX20)
def wsX2_isGoalOf : List Cond := .code yX2_isGoalOf cX2_isGoalOf 3 (some .boolean) :: ([.fieldLink RX2 9 "MentorPairs$Goals" "beginnerOf" "[I", .methodLink RX2 28 yX2_isGoal, .instanceMethod yX2_isGoal, .selects RX2 yX2_isGoal yX2_isGoal, .initialized RX2, .code yX2_isGoal cX2_isGoal 2 (some .boolean), .fieldLink RX2 24 "MentorPairs$Goals" "many" "I"] ++ wsX20)
def wsX2_add : List Cond := .code yX2_add cX2_add 4 (some .int) :: ([.fieldLink RX2 9 "MentorPairs$Goals" "beginnerOf" "[I", .fieldLink RX2 24 "MentorPairs$Goals" "many" "I", .fieldLink RX2 15 "MentorPairs$Goals" "dueOn" "[I", .fieldLink RX2 18 "MentorPairs$Goals" "behindGoal" "[I", .fieldLink RX2 21 "MentorPairs$Goals" "confirmedOn" "[I"] ++ wsX20)
def wsX2_isReached : List Cond := .code yX2_isReached cX2_isReached 7 (some .boolean) :: ([.fieldLink RX2 21 "MentorPairs$Goals" "confirmedOn" "[I", .fieldLink RX2 15 "MentorPairs$Goals" "dueOn" "[I", .fieldLink RX2 18 "MentorPairs$Goals" "behindGoal" "[I"] ++ wsX20)
def wsX2_asOf : List Cond := .code yX2_asOf cX2_asOf 3 (some .int) :: ([.fieldLink RX2 15 "MentorPairs$Goals" "dueOn" "[I", .methodLink RX2 32 yX2_isReached, .instanceMethod yX2_isReached, .selects RX2 yX2_isReached yX2_isReached, .initialized RX2, .code yX2_isReached cX2_isReached 7 (some .boolean), .fieldLink RX2 21 "MentorPairs$Goals" "confirmedOn" "[I", .fieldLink RX2 18 "MentorPairs$Goals" "behindGoal" "[I"] ++ wsX20)
def wsX3_init : List Cond := .code yX3_init cX3_init 1 none :: ([.methodLink RX3 3 objectInit, .instanceMethod objectInit, .code objectInit ⟨#[0xb1]⟩ 1 none, .arrayClass .int, .fieldLink RX3 9 "MentorPairs$Meetings" "beginnerOf" "[I", .fieldLink RX3 15 "MentorPairs$Meetings" "dueOn" "[I", .fieldLink RX3 18 "MentorPairs$Meetings" "toldMeeting" "[I", .fieldLink RX3 21 "MentorPairs$Meetings" "toldDay" "[I", .arrayClass .boolean, .fieldLink RX3 24 "MentorPairs$Meetings" "toldKept" "[Z", .fieldLink RX3 28 "MentorPairs$Meetings" "many" "I", .fieldLink RX3 32 "MentorPairs$Meetings" "tellings" "I"] ++ wsX30)
def wsX3_isMeeting : List Cond := .code yX3_isMeeting cX3_isMeeting 2 (some .boolean) :: ([.fieldLink RX3 28 "MentorPairs$Meetings" "many" "I"] ++ wsX30)
def wsX3_add : List Cond := .code yX3_add cX3_add 3 (some .int) :: ([.fieldLink RX3 9 "MentorPairs$Meetings" "beginnerOf" "[I", .fieldLink RX3 28 "MentorPairs$Meetings" "many" "I", .fieldLink RX3 15 "MentorPairs$Meetings" "dueOn" "[I"] ++ wsX30)
def wsX3_addTelling : List Cond := .code yX3_addTelling cX3_addTelling 4 none :: ([.fieldLink RX3 18 "MentorPairs$Meetings" "toldMeeting" "[I", .fieldLink RX3 32 "MentorPairs$Meetings" "tellings" "I", .fieldLink RX3 24 "MentorPairs$Meetings" "toldKept" "[Z", .fieldLink RX3 21 "MentorPairs$Meetings" "toldDay" "[I"] ++ wsX30)
def wsX3_knownOn : List Cond := .code yX3_knownOn cX3_knownOn 6 (some .int) :: ([.fieldLink RX3 32 "MentorPairs$Meetings" "tellings" "I", .fieldLink RX3 18 "MentorPairs$Meetings" "toldMeeting" "[I", .fieldLink RX3 21 "MentorPairs$Meetings" "toldDay" "[I", .fieldLink RX3 24 "MentorPairs$Meetings" "toldKept" "[Z"] ++ wsX30)
def wsX3_count : List Cond := .code yX3_count cX3_count 6 (some .int) :: ([.fieldLink RX3 28 "MentorPairs$Meetings" "many" "I", .fieldLink RX3 9 "MentorPairs$Meetings" "beginnerOf" "[I", .fieldLink RX3 15 "MentorPairs$Meetings" "dueOn" "[I", .methodLink RX3 35 yX3_knownOn, .instanceMethod yX3_knownOn, .selects RX3 yX3_knownOn yX3_knownOn, .initialized RX3, .code yX3_knownOn cX3_knownOn 6 (some .int), .fieldLink RX3 32 "MentorPairs$Meetings" "tellings" "I", .fieldLink RX3 18 "MentorPairs$Meetings" "toldMeeting" "[I", .fieldLink RX3 21 "MentorPairs$Meetings" "toldDay" "[I", .fieldLink RX3 24 "MentorPairs$Meetings" "toldKept" "[Z"] ++ wsX30)
def wsJ7_fill_53178 : List Cond := .code yJ7_fill_53178 cJ7_fill_53178 4 none :: ([])
def wsX4_init : List Cond := .code yX4_init cX4_init 1 none :: ([.methodLink RX4 3 objectInit, .instanceMethod objectInit, .code objectInit ⟨#[0xb1]⟩ 1 none, .arrayClass .int, .fieldLink RX4 9 "MentorPairs$Pairing" "elderBy" "[I", .fieldLink RX4 15 "MentorPairs$Pairing" "lastAsked" "[I", .fieldLink RX4 18 "MentorPairs$Pairing" "given" "Z", .methodLink RX4 22 yJ7_fill_53178, .static yJ7_fill_53178, .initialized RJ7, .code yJ7_fill_53178 cJ7_fill_53178 4 none] ++ wsX40)
def wsX4_countOf : List Cond := .code yX4_countOf cX4_countOf 4 (some .int) :: ([.fieldLink RX4 9 "MentorPairs$Pairing" "elderBy" "[I"] ++ wsX40)
def wsX4_hasPlaceLeft : List Cond := .code yX4_hasPlaceLeft cX4_hasPlaceLeft 3 (some .boolean) :: ([.methodLink RX4 28 yX4_countOf, .instanceMethod yX4_countOf, .selects RX4 yX4_countOf yX4_countOf, .initialized RX4, .code yX4_countOf cX4_countOf 4 (some .int), .fieldLink RX4 9 "MentorPairs$Pairing" "elderBy" "[I"] ++ wsX00 ++ wsX40)
def wsX4_leastOf : List Cond := .code yX4_leastOf cX4_leastOf 5 (some .int) :: ([.fieldLink RX4 9 "MentorPairs$Pairing" "elderBy" "[I", .instanceMethod yX0_elderPrefers, .initialized RX0, .selects RX0 yX0_elderPrefers yX0_elderPrefers, .code yX0_elderPrefers cX0_elderPrefers 6 (some .boolean), .fieldLink RX0 15 "MentorPairs$Circle" "likingByElder" "[I", .methodLink RX0 39 yX0_spot, .static yX0_spot, .code yX0_spot cX0_spot 2 (some .int)] ++ wsX00 ++ wsX40)
def wsX4_nextChoice : List Cond := .code yX4_nextChoice cX4_nextChoice 7 (some .int) :: ([.fieldLink RX4 15 "MentorPairs$Pairing" "lastAsked" "[I", .instanceMethod yX0_canPair, .initialized RX0, .selects RX0 yX0_canPair yX0_canPair, .code yX0_canPair cX0_canPair 4 (some .boolean), .fieldLink RX0 15 "MentorPairs$Circle" "likingByElder" "[I", .fieldLink RX0 18 "MentorPairs$Circle" "likingByBeginner" "[I", .fieldLink RX0 21 "MentorPairs$Circle" "barred" "[Z", .methodLink RX0 39 yX0_spot, .static yX0_spot, .code yX0_spot cX0_spot 2 (some .int), .instanceMethod yX0_beginnerPrefers, .selects RX0 yX0_beginnerPrefers yX0_beginnerPrefers, .code yX0_beginnerPrefers cX0_beginnerPrefers 6 (some .boolean)] ++ wsX40 ++ wsX00)
def wsX4_askFor : List Cond := .code yX4_askFor cX4_askFor 5 (some .int) :: ([.fieldLink RX4 9 "MentorPairs$Pairing" "elderBy" "[I", .methodLink RX4 71 yX4_hasPlaceLeft, .instanceMethod yX4_hasPlaceLeft, .selects RX4 yX4_hasPlaceLeft yX4_hasPlaceLeft, .initialized RX4, .code yX4_hasPlaceLeft cX4_hasPlaceLeft 3 (some .boolean), .methodLink RX4 28 yX4_countOf, .instanceMethod yX4_countOf, .selects RX4 yX4_countOf yX4_countOf, .code yX4_countOf cX4_countOf 4 (some .int), .methodLink RX4 75 yX4_leastOf, .instanceMethod yX4_leastOf, .selects RX4 yX4_leastOf yX4_leastOf, .code yX4_leastOf cX4_leastOf 5 (some .int), .instanceMethod yX0_elderPrefers, .initialized RX0, .selects RX0 yX0_elderPrefers yX0_elderPrefers, .code yX0_elderPrefers cX0_elderPrefers 6 (some .boolean), .fieldLink RX0 15 "MentorPairs$Circle" "likingByElder" "[I", .methodLink RX0 39 yX0_spot, .static yX0_spot, .code yX0_spot cX0_spot 2 (some .int)] ++ wsX40 ++ wsX00)
def wsX4_seat_r1 : List Cond := [Cond.fieldLink RX4 15 "MentorPairs$Pairing" "lastAsked" "[I", Cond.methodLink RX4 53 yX4_nextChoice, Cond.instanceMethod yX4_nextChoice, Cond.selects RX4 yX4_nextChoice yX4_nextChoice, Cond.initialized RX4, Cond.code yX4_nextChoice cX4_nextChoice 7 (some .int), Cond.instanceMethod yX0_canPair, Cond.initialized RX0, Cond.selects RX0 yX0_canPair yX0_canPair, Cond.code yX0_canPair cX0_canPair 4 (some .boolean), Cond.fieldLink RX0 15 "MentorPairs$Circle" "likingByElder" "[I", Cond.fieldLink RX0 18 "MentorPairs$Circle" "likingByBeginner" "[I", Cond.fieldLink RX0 21 "MentorPairs$Circle" "barred" "[Z", Cond.methodLink RX0 39 yX0_spot, Cond.static yX0_spot, Cond.code yX0_spot cX0_spot 2 (some .int), Cond.instanceMethod yX0_beginnerPrefers, Cond.selects RX0 yX0_beginnerPrefers yX0_beginnerPrefers, Cond.code yX0_beginnerPrefers cX0_beginnerPrefers 6 (some .boolean), Cond.methodLink RX4 57 yX4_askFor, Cond.instanceMethod yX4_askFor, Cond.selects RX4 yX4_askFor yX4_askFor, Cond.code yX4_askFor cX4_askFor 5 (some .int), Cond.fieldLink RX4 9 "MentorPairs$Pairing" "elderBy" "[I"]
def wsX4_seat_r2 : List Cond := [Cond.methodLink RX4 71 yX4_hasPlaceLeft, Cond.instanceMethod yX4_hasPlaceLeft, Cond.selects RX4 yX4_hasPlaceLeft yX4_hasPlaceLeft, Cond.code yX4_hasPlaceLeft cX4_hasPlaceLeft 3 (some .boolean), Cond.methodLink RX4 28 yX4_countOf, Cond.instanceMethod yX4_countOf, Cond.selects RX4 yX4_countOf yX4_countOf, Cond.code yX4_countOf cX4_countOf 4 (some .int), Cond.methodLink RX4 75 yX4_leastOf, Cond.instanceMethod yX4_leastOf, Cond.selects RX4 yX4_leastOf yX4_leastOf, Cond.code yX4_leastOf cX4_leastOf 5 (some .int), Cond.instanceMethod yX0_elderPrefers, Cond.selects RX0 yX0_elderPrefers yX0_elderPrefers, Cond.code yX0_elderPrefers cX0_elderPrefers 6 (some .boolean)]
def wsX4_seat : List Cond := .code yX4_seat cX4_seat 6 none :: ((wsX4_seat_r1 ++ wsX4_seat_r2) ++ wsX40 ++ wsX00)
def wsX4_countPairs : List Cond := .code yX4_countPairs cX4_countPairs 3 (some .int) :: ([.fieldLink RX4 9 "MentorPairs$Pairing" "elderBy" "[I"] ++ wsX40)
def wsX4_makeBest_r1 : List Cond := [Cond.fieldLink RX4 18 "MentorPairs$Pairing" "given" "Z", Cond.fieldLink RX4 9 "MentorPairs$Pairing" "elderBy" "[I", Cond.fieldLink RX4 15 "MentorPairs$Pairing" "lastAsked" "[I", Cond.methodLink RX4 22 yJ7_fill_53178, Cond.static yJ7_fill_53178, Cond.initialized RJ7, Cond.code yJ7_fill_53178 cJ7_fill_53178 4 none, Cond.methodLink RX4 45 yX4_seat, Cond.instanceMethod yX4_seat, Cond.selects RX4 yX4_seat yX4_seat, Cond.initialized RX4, Cond.code yX4_seat cX4_seat 6 none, Cond.methodLink RX4 53 yX4_nextChoice, Cond.instanceMethod yX4_nextChoice, Cond.selects RX4 yX4_nextChoice yX4_nextChoice, Cond.code yX4_nextChoice cX4_nextChoice 7 (some .int), Cond.instanceMethod yX0_canPair, Cond.initialized RX0, Cond.selects RX0 yX0_canPair yX0_canPair, Cond.code yX0_canPair cX0_canPair 4 (some .boolean), Cond.fieldLink RX0 15 "MentorPairs$Circle" "likingByElder" "[I", Cond.fieldLink RX0 18 "MentorPairs$Circle" "likingByBeginner" "[I", Cond.fieldLink RX0 21 "MentorPairs$Circle" "barred" "[Z", Cond.methodLink RX0 39 yX0_spot]
def wsX4_makeBest_r2 : List Cond := [Cond.static yX0_spot, Cond.code yX0_spot cX0_spot 2 (some .int), Cond.instanceMethod yX0_beginnerPrefers, Cond.selects RX0 yX0_beginnerPrefers yX0_beginnerPrefers, Cond.code yX0_beginnerPrefers cX0_beginnerPrefers 6 (some .boolean), Cond.methodLink RX4 57 yX4_askFor, Cond.instanceMethod yX4_askFor, Cond.selects RX4 yX4_askFor yX4_askFor, Cond.code yX4_askFor cX4_askFor 5 (some .int), Cond.methodLink RX4 71 yX4_hasPlaceLeft, Cond.instanceMethod yX4_hasPlaceLeft, Cond.selects RX4 yX4_hasPlaceLeft yX4_hasPlaceLeft, Cond.code yX4_hasPlaceLeft cX4_hasPlaceLeft 3 (some .boolean), Cond.methodLink RX4 28 yX4_countOf, Cond.instanceMethod yX4_countOf, Cond.selects RX4 yX4_countOf yX4_countOf, Cond.code yX4_countOf cX4_countOf 4 (some .int), Cond.methodLink RX4 75 yX4_leastOf, Cond.instanceMethod yX4_leastOf, Cond.selects RX4 yX4_leastOf yX4_leastOf, Cond.code yX4_leastOf cX4_leastOf 5 (some .int), Cond.instanceMethod yX0_elderPrefers, Cond.selects RX0 yX0_elderPrefers yX0_elderPrefers, Cond.code yX0_elderPrefers cX0_elderPrefers 6 (some .boolean)]
def wsX4_makeBest_r3 : List Cond := [Cond.methodLink RX4 49 yX4_countPairs, Cond.instanceMethod yX4_countPairs, Cond.selects RX4 yX4_countPairs yX4_countPairs, Cond.code yX4_countPairs cX4_countPairs 3 (some .int)]
def wsX4_makeBest : List Cond := .code yX4_makeBest cX4_makeBest 3 (some .int) :: ((wsX4_makeBest_r1 ++ (wsX4_makeBest_r2 ++ wsX4_makeBest_r3)) ++ wsX40 ++ wsX00)
def wsX4_isBlockedBy_r1 : List Cond := [Cond.fieldLink RX4 9 "MentorPairs$Pairing" "elderBy" "[I", Cond.instanceMethod yX0_canPair, Cond.initialized RX0, Cond.selects RX0 yX0_canPair yX0_canPair, Cond.code yX0_canPair cX0_canPair 4 (some .boolean), Cond.fieldLink RX0 15 "MentorPairs$Circle" "likingByElder" "[I", Cond.fieldLink RX0 18 "MentorPairs$Circle" "likingByBeginner" "[I", Cond.fieldLink RX0 21 "MentorPairs$Circle" "barred" "[Z", Cond.methodLink RX0 39 yX0_spot, Cond.static yX0_spot, Cond.code yX0_spot cX0_spot 2 (some .int), Cond.instanceMethod yX0_beginnerPrefers, Cond.selects RX0 yX0_beginnerPrefers yX0_beginnerPrefers, Cond.code yX0_beginnerPrefers cX0_beginnerPrefers 6 (some .boolean), Cond.methodLink RX4 71 yX4_hasPlaceLeft, Cond.instanceMethod yX4_hasPlaceLeft, Cond.selects RX4 yX4_hasPlaceLeft yX4_hasPlaceLeft, Cond.initialized RX4, Cond.code yX4_hasPlaceLeft cX4_hasPlaceLeft 3 (some .boolean), Cond.methodLink RX4 28 yX4_countOf, Cond.instanceMethod yX4_countOf, Cond.selects RX4 yX4_countOf yX4_countOf, Cond.code yX4_countOf cX4_countOf 4 (some .int), Cond.methodLink RX4 75 yX4_leastOf]
def wsX4_isBlockedBy_r2 : List Cond := [Cond.instanceMethod yX4_leastOf, Cond.selects RX4 yX4_leastOf yX4_leastOf, Cond.code yX4_leastOf cX4_leastOf 5 (some .int), Cond.instanceMethod yX0_elderPrefers, Cond.selects RX0 yX0_elderPrefers yX0_elderPrefers, Cond.code yX0_elderPrefers cX0_elderPrefers 6 (some .boolean)]
def wsX4_isBlockedBy : List Cond := .code yX4_isBlockedBy cX4_isBlockedBy 6 (some .boolean) :: ((wsX4_isBlockedBy_r1 ++ wsX4_isBlockedBy_r2) ++ wsX40 ++ wsX00)
def wsX4_countBlocking_r1 : List Cond := [Cond.methodLink RX4 78 yX4_isBlockedBy, Cond.instanceMethod yX4_isBlockedBy, Cond.selects RX4 yX4_isBlockedBy yX4_isBlockedBy, Cond.initialized RX4, Cond.code yX4_isBlockedBy cX4_isBlockedBy 6 (some .boolean), Cond.fieldLink RX4 9 "MentorPairs$Pairing" "elderBy" "[I", Cond.instanceMethod yX0_canPair, Cond.initialized RX0, Cond.selects RX0 yX0_canPair yX0_canPair, Cond.code yX0_canPair cX0_canPair 4 (some .boolean), Cond.fieldLink RX0 15 "MentorPairs$Circle" "likingByElder" "[I", Cond.fieldLink RX0 18 "MentorPairs$Circle" "likingByBeginner" "[I", Cond.fieldLink RX0 21 "MentorPairs$Circle" "barred" "[Z", Cond.methodLink RX0 39 yX0_spot, Cond.static yX0_spot, Cond.code yX0_spot cX0_spot 2 (some .int), Cond.instanceMethod yX0_beginnerPrefers, Cond.selects RX0 yX0_beginnerPrefers yX0_beginnerPrefers, Cond.code yX0_beginnerPrefers cX0_beginnerPrefers 6 (some .boolean), Cond.methodLink RX4 71 yX4_hasPlaceLeft, Cond.instanceMethod yX4_hasPlaceLeft, Cond.selects RX4 yX4_hasPlaceLeft yX4_hasPlaceLeft, Cond.code yX4_hasPlaceLeft cX4_hasPlaceLeft 3 (some .boolean), Cond.methodLink RX4 28 yX4_countOf]
def wsX4_countBlocking_r2 : List Cond := [Cond.instanceMethod yX4_countOf, Cond.selects RX4 yX4_countOf yX4_countOf, Cond.code yX4_countOf cX4_countOf 4 (some .int), Cond.methodLink RX4 75 yX4_leastOf, Cond.instanceMethod yX4_leastOf, Cond.selects RX4 yX4_leastOf yX4_leastOf, Cond.code yX4_leastOf cX4_leastOf 5 (some .int), Cond.instanceMethod yX0_elderPrefers, Cond.selects RX0 yX0_elderPrefers yX0_elderPrefers, Cond.code yX0_elderPrefers cX0_elderPrefers 6 (some .boolean)]
def wsX4_countBlocking : List Cond := .code yX4_countBlocking cX4_countBlocking 5 (some .int) :: ((wsX4_countBlocking_r1 ++ wsX4_countBlocking_r2) ++ wsX00 ++ wsX40)
def wsX5_init : List Cond := .code yX5_init cX5_init 1 none :: ([.methodLink RX5 3 objectInit, .instanceMethod objectInit, .code objectInit ⟨#[0xb1]⟩ 1 none, .arrayClass .int, .fieldLink RX5 9 "MentorPairs$Row" "queue" "[I", .fieldLink RX5 15 "MentorPairs$Row" "takerFrom" "[I", .fieldLink RX5 18 "MentorPairs$Row" "queued" "I", .fieldLink RX5 22 "MentorPairs$Row" "first" "I", .fieldLink RX5 25 "MentorPairs$Row" "freeElder" "I"] ++ wsX50)
def wsX5_mayMove : List Cond := .code yX5_mayMove cX5_mayMove 4 (some .boolean) :: ([.instanceMethod yX0_canPair, .initialized RX0, .selects RX0 yX0_canPair yX0_canPair, .code yX0_canPair cX0_canPair 4 (some .boolean), .fieldLink RX0 15 "MentorPairs$Circle" "likingByElder" "[I", .fieldLink RX0 18 "MentorPairs$Circle" "likingByBeginner" "[I", .fieldLink RX0 21 "MentorPairs$Circle" "barred" "[Z", .methodLink RX0 39 yX0_spot, .static yX0_spot, .code yX0_spot cX0_spot 2 (some .int)] ++ wsX40 ++ wsX00)
def wsX5_isFree : List Cond := .code yX5_isFree cX5_isFree 5 (some .boolean) :: ([.fieldLink RX5 22 "MentorPairs$Row" "first" "I", .instanceMethod yX4_countOf, .initialized RX4, .selects RX4 yX4_countOf yX4_countOf, .code yX4_countOf cX4_countOf 4 (some .int), .fieldLink RX4 9 "MentorPairs$Pairing" "elderBy" "[I"] ++ wsX40 ++ wsX50 ++ wsX00)
def wsX5_freeElderFor : List Cond := .code yX5_freeElderFor cX5_freeElderFor 5 (some .int) :: ([.methodLink RX5 56 yX5_mayMove, .static yX5_mayMove, .initialized RX5, .code yX5_mayMove cX5_mayMove 4 (some .boolean), .instanceMethod yX0_canPair, .initialized RX0, .selects RX0 yX0_canPair yX0_canPair, .code yX0_canPair cX0_canPair 4 (some .boolean), .fieldLink RX0 15 "MentorPairs$Circle" "likingByElder" "[I", .fieldLink RX0 18 "MentorPairs$Circle" "likingByBeginner" "[I", .fieldLink RX0 21 "MentorPairs$Circle" "barred" "[Z", .methodLink RX0 39 yX0_spot, .static yX0_spot, .code yX0_spot cX0_spot 2 (some .int), .methodLink RX5 60 yX5_isFree, .instanceMethod yX5_isFree, .selects RX5 yX5_isFree yX5_isFree, .code yX5_isFree cX5_isFree 5 (some .boolean), .fieldLink RX5 22 "MentorPairs$Row" "first" "I", .instanceMethod yX4_countOf, .initialized RX4, .selects RX4 yX4_countOf yX4_countOf, .code yX4_countOf cX4_countOf 4 (some .int), .fieldLink RX4 9 "MentorPairs$Pairing" "elderBy" "[I"] ++ wsX00 ++ wsX40 ++ wsX50)
def wsX5_queueLeaversOf : List Cond := .code yX5_queueLeaversOf cX5_queueLeaversOf 7 none :: ([.fieldLink RX5 22 "MentorPairs$Row" "first" "I", .fieldLink RX5 15 "MentorPairs$Row" "takerFrom" "[I", .fieldLink RX5 18 "MentorPairs$Row" "queued" "I", .fieldLink RX5 9 "MentorPairs$Row" "queue" "[I"] ++ wsX00 ++ wsX50 ++ wsX40)
def wsX5_queueLeavers : List Cond := .code yX5_queueLeavers cX5_queueLeavers 5 none :: ([.methodLink RX5 56 yX5_mayMove, .static yX5_mayMove, .initialized RX5, .code yX5_mayMove cX5_mayMove 4 (some .boolean), .instanceMethod yX0_canPair, .initialized RX0, .selects RX0 yX0_canPair yX0_canPair, .code yX0_canPair cX0_canPair 4 (some .boolean), .fieldLink RX0 15 "MentorPairs$Circle" "likingByElder" "[I", .fieldLink RX0 18 "MentorPairs$Circle" "likingByBeginner" "[I", .fieldLink RX0 21 "MentorPairs$Circle" "barred" "[Z", .methodLink RX0 39 yX0_spot, .static yX0_spot, .code yX0_spot cX0_spot 2 (some .int), .methodLink RX5 71 yX5_queueLeaversOf, .instanceMethod yX5_queueLeaversOf, .selects RX5 yX5_queueLeaversOf yX5_queueLeaversOf, .code yX5_queueLeaversOf cX5_queueLeaversOf 7 none, .fieldLink RX5 22 "MentorPairs$Row" "first" "I", .fieldLink RX5 15 "MentorPairs$Row" "takerFrom" "[I", .fieldLink RX5 18 "MentorPairs$Row" "queued" "I", .fieldLink RX5 9 "MentorPairs$Row" "queue" "[I"] ++ wsX00 ++ wsX40 ++ wsX50)
def wsX5_findLast_r1 : List Cond := [Cond.fieldLink RX5 15 "MentorPairs$Row" "takerFrom" "[I", Cond.fieldLink RX5 22 "MentorPairs$Row" "first" "I", Cond.fieldLink RX5 9 "MentorPairs$Row" "queue" "[I", Cond.fieldLink RX5 18 "MentorPairs$Row" "queued" "I", Cond.fieldLink RX5 25 "MentorPairs$Row" "freeElder" "I", Cond.methodLink RX5 28 yJ7_fill_53178, Cond.static yJ7_fill_53178, Cond.initialized RJ7, Cond.code yJ7_fill_53178 cJ7_fill_53178 4 none, Cond.methodLink RX5 34 yX5_freeElderFor, Cond.instanceMethod yX5_freeElderFor, Cond.selects RX5 yX5_freeElderFor yX5_freeElderFor, Cond.initialized RX5, Cond.code yX5_freeElderFor cX5_freeElderFor 5 (some .int), Cond.methodLink RX5 56 yX5_mayMove, Cond.static yX5_mayMove, Cond.code yX5_mayMove cX5_mayMove 4 (some .boolean), Cond.instanceMethod yX0_canPair, Cond.initialized RX0, Cond.selects RX0 yX0_canPair yX0_canPair, Cond.code yX0_canPair cX0_canPair 4 (some .boolean), Cond.fieldLink RX0 15 "MentorPairs$Circle" "likingByElder" "[I", Cond.fieldLink RX0 18 "MentorPairs$Circle" "likingByBeginner" "[I", Cond.fieldLink RX0 21 "MentorPairs$Circle" "barred" "[Z"]
def wsX5_findLast_r2 : List Cond := [Cond.methodLink RX0 39 yX0_spot, Cond.static yX0_spot, Cond.code yX0_spot cX0_spot 2 (some .int), Cond.methodLink RX5 60 yX5_isFree, Cond.instanceMethod yX5_isFree, Cond.selects RX5 yX5_isFree yX5_isFree, Cond.code yX5_isFree cX5_isFree 5 (some .boolean), Cond.instanceMethod yX4_countOf, Cond.initialized RX4, Cond.selects RX4 yX4_countOf yX4_countOf, Cond.code yX4_countOf cX4_countOf 4 (some .int), Cond.fieldLink RX4 9 "MentorPairs$Pairing" "elderBy" "[I", Cond.methodLink RX5 38 yX5_queueLeavers, Cond.instanceMethod yX5_queueLeavers, Cond.selects RX5 yX5_queueLeavers yX5_queueLeavers, Cond.code yX5_queueLeavers cX5_queueLeavers 5 none, Cond.methodLink RX5 71 yX5_queueLeaversOf, Cond.instanceMethod yX5_queueLeaversOf, Cond.selects RX5 yX5_queueLeaversOf yX5_queueLeaversOf, Cond.code yX5_queueLeaversOf cX5_queueLeaversOf 7 none]
def wsX5_findLast : List Cond := .code yX5_findLast cX5_findLast 6 (some .int) :: ((wsX5_findLast_r1 ++ wsX5_findLast_r2) ++ wsX50 ++ wsX00 ++ wsX40)
def wsX5_moveAll : List Cond := .code yX5_moveAll cX5_moveAll 7 (some .int) :: ([.fieldLink RX5 25 "MentorPairs$Row" "freeElder" "I", .fieldLink RX5 15 "MentorPairs$Row" "takerFrom" "[I"] ++ wsX50 ++ wsX40)
def wsX6_init : List Cond := .code yX6_init cX6_init 1 none :: ([.methodLink RX6 3 objectInit, .instanceMethod objectInit, .code objectInit ⟨#[0xb1]⟩ 1 none, .arrayClass .int, .fieldLink RX6 9 "MentorPairs$Runs" "monthsOf" "[I", .arrayClass .boolean, .fieldLink RX6 15 "MentorPairs$Runs" "hasEnded" "[Z", .fieldLink RX6 19 "MentorPairs$Runs" "many" "I"] ++ wsX60)
def wsX6_add : List Cond := .code yX6_add cX6_add 3 none :: ([.fieldLink RX6 9 "MentorPairs$Runs" "monthsOf" "[I", .fieldLink RX6 19 "MentorPairs$Runs" "many" "I", .fieldLink RX6 15 "MentorPairs$Runs" "hasEnded" "[Z"] ++ wsX60)
def wsX6_countEnded : List Cond := .code yX6_countEnded cX6_countEnded 4 (some .int) :: ([.fieldLink RX6 19 "MentorPairs$Runs" "many" "I", .fieldLink RX6 15 "MentorPairs$Runs" "hasEnded" "[Z", .fieldLink RX6 9 "MentorPairs$Runs" "monthsOf" "[I"] ++ wsX60)
def wsX6_countAtRisk : List Cond := .code yX6_countAtRisk cX6_countAtRisk 4 (some .int) :: ([.fieldLink RX6 19 "MentorPairs$Runs" "many" "I", .fieldLink RX6 9 "MentorPairs$Runs" "monthsOf" "[I"] ++ wsX60)
def wsX6_shareBeyond_r1 : List Cond := [Cond.methodLink RX6 23 yX6_countEnded, Cond.instanceMethod yX6_countEnded, Cond.selects RX6 yX6_countEnded yX6_countEnded, Cond.initialized RX6, Cond.code yX6_countEnded cX6_countEnded 4 (some .int), Cond.fieldLink RX6 19 "MentorPairs$Runs" "many" "I", Cond.fieldLink RX6 15 "MentorPairs$Runs" "hasEnded" "[Z", Cond.fieldLink RX6 9 "MentorPairs$Runs" "monthsOf" "[I", Cond.methodLink RX6 27 yX6_countAtRisk, Cond.instanceMethod yX6_countAtRisk, Cond.selects RX6 yX6_countAtRisk yX6_countAtRisk, Cond.code yX6_countAtRisk cX6_countAtRisk 4 (some .int), Cond.instanceMethod yX1_become, Cond.initialized RX1, Cond.selects RX1 yX1_become yX1_become, Cond.code yX1_become cX1_become 7 none, Cond.methodLink RX1 16 Lib.MathLoose.abs_long.x, Cond.static Lib.MathLoose.abs_long.x, Cond.initialized "java/lang/Math", Cond.code Lib.MathLoose.abs_long.x Lib.MathLoose.abs_long.code 2 (some .long), Cond.fieldLink RX1 7 "MentorPairs$Fraction" "above" "J", Cond.fieldLink RX1 13 "MentorPairs$Fraction" "below" "J", Cond.methodLink RX1 22 yX1_commonDivisor, Cond.static yX1_commonDivisor]
def wsX6_shareBeyond_r2 : List Cond := [Cond.code yX1_commonDivisor cX1_commonDivisor 11 (some .long)]
def wsX6_shareBeyond : List Cond := .code yX6_shareBeyond cX6_shareBeyond 10 none :: ((wsX6_shareBeyond_r1 ++ wsX6_shareBeyond_r2) ++ wsX60 ++ wsX10)
def wsX7_init : List Cond := .code yX7_init cX7_init 1 none :: ([.methodLink RX7 3 objectInit, .instanceMethod objectInit, .code objectInit ⟨#[0xb1]⟩ 1 none, .arrayClass .long, .fieldLink RX7 9 "MentorPairs$Tray" "numbers" "[J", .fieldLink RX7 15 "MentorPairs$Tray" "missing" "Z", .fieldLink RX7 19 "MentorPairs$Tray" "sort" "I", .fieldLink RX7 23 "MentorPairs$Tray" "length" "I"] ++ wsX70)
def wsJ7_fill_d0a16 : List Cond := .code yJ7_fill_d0a16 cJ7_fill_d0a16 5 none :: ([])
def wsX7_make : List Cond := .code yX7_make cX7_make 3 none :: ([.fieldLink RX7 15 "MentorPairs$Tray" "missing" "Z", .fieldLink RX7 19 "MentorPairs$Tray" "sort" "I", .fieldLink RX7 23 "MentorPairs$Tray" "length" "I", .fieldLink RX7 9 "MentorPairs$Tray" "numbers" "[J", .methodLink RX7 26 yJ7_fill_d0a16, .static yJ7_fill_d0a16, .initialized RJ7, .code yJ7_fill_d0a16 cJ7_fill_d0a16 5 none] ++ wsX70)
def wsX7_hasPlaces : List Cond := .code yX7_hasPlaces cX7_hasPlaces 3 (some .boolean) :: ([.fieldLink RX7 23 "MentorPairs$Tray" "length" "I"] ++ wsX70)
def wsX7_cut : List Cond := .code yX7_cut cX7_cut 3 (some .long) :: ([.fieldLink RX7 19 "MentorPairs$Tray" "sort" "I"] ++ wsX70)
def wsX7_put : List Cond := .code yX7_put cX7_put 4 none :: ([.fieldLink RX7 9 "MentorPairs$Tray" "numbers" "[J", .methodLink RX7 32 yX7_cut, .instanceMethod yX7_cut, .selects RX7 yX7_cut yX7_cut, .initialized RX7, .code yX7_cut cX7_cut 3 (some .long), .fieldLink RX7 19 "MentorPairs$Tray" "sort" "I"] ++ wsX70)
def wsX7_hasOutcomes : List Cond := .code yX7_hasOutcomes cX7_hasOutcomes 3 (some .boolean) :: ([.fieldLink RX7 9 "MentorPairs$Tray" "numbers" "[J", .constantLong RX7 36 (100)] ++ wsX70)
def wsX8_init : List Cond := .code yX8_init cX8_init 1 none :: ([.methodLink RX8 1 objectInit, .instanceMethod objectInit, .code objectInit ⟨#[0xb1]⟩ 1 none, .arrayClass .long, .fieldLink RX8 9 "MentorPairs$Trial" "sumsOfFirst" "[J", .fieldLink RX8 13 "MentorPairs$Trial" "sumsOfRest" "[J", .fieldLink RX8 16 "MentorPairs$Trial" "many" "I"] ++ wsX80)
def wsJ6_numberOfTrailingZeros_0f7a4 : List Cond := .code yJ6_numberOfTrailingZeros_0f7a4 cJ6_numberOfTrailingZeros_0f7a4 2 (some .int) :: ([.constant RJ6 264 (65536)])
def wsX8_laySums : List Cond := .code yX8_laySums cX8_laySums 8 none :: ([.fieldLink RX8 16 "MentorPairs$Trial" "many" "I", .methodLink RX8 24 yJ6_numberOfTrailingZeros_0f7a4, .static yJ6_numberOfTrailingZeros_0f7a4, .initialized RJ6, .code yJ6_numberOfTrailingZeros_0f7a4 cJ6_numberOfTrailingZeros_0f7a4 2 (some .int), .constant RJ6 264 (65536)] ++ wsX80 ++ wsX70)
def wsX8_lay : List Cond := .code yX8_lay cX8_lay 3 none :: ([.fieldLink RX8 16 "MentorPairs$Trial" "many" "I", .fieldLink RX8 9 "MentorPairs$Trial" "sumsOfFirst" "[J", .fieldLink RX8 13 "MentorPairs$Trial" "sumsOfRest" "[J", .methodLink RX8 20 yX8_laySums, .instanceMethod yX8_laySums, .selects RX8 yX8_laySums yX8_laySums, .initialized RX8, .code yX8_laySums cX8_laySums 8 none, .methodLink RX8 24 yJ6_numberOfTrailingZeros_0f7a4, .static yJ6_numberOfTrailingZeros_0f7a4, .initialized RJ6, .code yJ6_numberOfTrailingZeros_0f7a4 cJ6_numberOfTrailingZeros_0f7a4 2 (some .int), .constant RJ6 264 (65536)] ++ wsX80 ++ wsX70)
def wsX8_sumOf : List Cond := .code yX8_sumOf cX8_sumOf 2 (some .long) :: ([.fieldLink RX8 9 "MentorPairs$Trial" "sumsOfFirst" "[J", .fieldLink RX8 13 "MentorPairs$Trial" "sumsOfRest" "[J"] ++ wsX80)
def wsJ6_bitCount_0f7a4 : List Cond := .code yJ6_bitCount_0f7a4 cJ6_bitCount_0f7a4 1 (some .int) :: ([.constant RJ6 265 (1431655765), .constant RJ6 266 (858993459), .constant RJ6 267 (252645135)])
def wsX8_gainOf_r1 : List Cond := [Cond.fieldLink RX8 16 "MentorPairs$Trial" "many" "I", Cond.methodLink RX8 35 yJ6_bitCount_0f7a4, Cond.static yJ6_bitCount_0f7a4, Cond.initialized RJ6, Cond.code yJ6_bitCount_0f7a4 cJ6_bitCount_0f7a4 1 (some .int), Cond.constant RJ6 265 (1431655765), Cond.constant RJ6 266 (858993459), Cond.constant RJ6 267 (252645135), Cond.methodLink RX8 38 yX8_sumOf, Cond.instanceMethod yX8_sumOf, Cond.selects RX8 yX8_sumOf yX8_sumOf, Cond.initialized RX8, Cond.code yX8_sumOf cX8_sumOf 2 (some .long), Cond.fieldLink RX8 9 "MentorPairs$Trial" "sumsOfFirst" "[J", Cond.fieldLink RX8 13 "MentorPairs$Trial" "sumsOfRest" "[J", Cond.instanceMethod yX1_become, Cond.initialized RX1, Cond.selects RX1 yX1_become yX1_become, Cond.code yX1_become cX1_become 7 none, Cond.methodLink RX1 16 Lib.MathLoose.abs_long.x, Cond.static Lib.MathLoose.abs_long.x, Cond.initialized "java/lang/Math", Cond.code Lib.MathLoose.abs_long.x Lib.MathLoose.abs_long.code 2 (some .long), Cond.fieldLink RX1 7 "MentorPairs$Fraction" "above" "J"]
def wsX8_gainOf_r2 : List Cond := [Cond.fieldLink RX1 13 "MentorPairs$Fraction" "below" "J", Cond.methodLink RX1 22 yX1_commonDivisor, Cond.static yX1_commonDivisor, Cond.code yX1_commonDivisor cX1_commonDivisor 11 (some .long)]
def wsX8_gainOf : List Cond := .code yX8_gainOf cX8_gainOf 11 none :: ((wsX8_gainOf_r1 ++ wsX8_gainOf_r2) ++ wsX80 ++ wsX10)
def wsX8_countSets : List Cond := .code yX8_countSets cX8_countSets 4 (some .int) :: ([])
def wsX8_nextOfSameSize : List Cond := .code yX8_nextOfSameSize cX8_nextOfSameSize 4 (some .int) :: ([.methodLink RX8 24 yJ6_numberOfTrailingZeros_0f7a4, .static yJ6_numberOfTrailingZeros_0f7a4, .initialized RJ6, .code yJ6_numberOfTrailingZeros_0f7a4 cJ6_numberOfTrailingZeros_0f7a4 2 (some .int), .constant RJ6 264 (65536)])
def wsX8_chanceOf_r1 : List Cond := [Cond.fieldLink RX8 16 "MentorPairs$Trial" "many" "I", Cond.methodLink RX8 35 yJ6_bitCount_0f7a4, Cond.static yJ6_bitCount_0f7a4, Cond.initialized RJ6, Cond.code yJ6_bitCount_0f7a4 cJ6_bitCount_0f7a4 1 (some .int), Cond.constant RJ6 265 (1431655765), Cond.constant RJ6 266 (858993459), Cond.constant RJ6 267 (252645135), Cond.methodLink RX8 48 yX8_countSets, Cond.static yX8_countSets, Cond.initialized RX8, Cond.code yX8_countSets cX8_countSets 4 (some .int), Cond.methodLink RX8 38 yX8_sumOf, Cond.instanceMethod yX8_sumOf, Cond.selects RX8 yX8_sumOf yX8_sumOf, Cond.code yX8_sumOf cX8_sumOf 2 (some .long), Cond.fieldLink RX8 9 "MentorPairs$Trial" "sumsOfFirst" "[J", Cond.fieldLink RX8 13 "MentorPairs$Trial" "sumsOfRest" "[J", Cond.methodLink RX8 52 yX8_nextOfSameSize, Cond.static yX8_nextOfSameSize, Cond.code yX8_nextOfSameSize cX8_nextOfSameSize 4 (some .int), Cond.methodLink RX8 24 yJ6_numberOfTrailingZeros_0f7a4, Cond.static yJ6_numberOfTrailingZeros_0f7a4, Cond.code yJ6_numberOfTrailingZeros_0f7a4 cJ6_numberOfTrailingZeros_0f7a4 2 (some .int)]
def wsX8_chanceOf_r2 : List Cond := [Cond.constant RJ6 264 (65536), Cond.instanceMethod yX1_become, Cond.initialized RX1, Cond.selects RX1 yX1_become yX1_become, Cond.code yX1_become cX1_become 7 none, Cond.methodLink RX1 16 Lib.MathLoose.abs_long.x, Cond.static Lib.MathLoose.abs_long.x, Cond.initialized "java/lang/Math", Cond.code Lib.MathLoose.abs_long.x Lib.MathLoose.abs_long.code 2 (some .long), Cond.fieldLink RX1 7 "MentorPairs$Fraction" "above" "J", Cond.fieldLink RX1 13 "MentorPairs$Fraction" "below" "J", Cond.methodLink RX1 22 yX1_commonDivisor, Cond.static yX1_commonDivisor, Cond.code yX1_commonDivisor cX1_commonDivisor 11 (some .long)]
def wsX8_chanceOf : List Cond := .code yX8_chanceOf cX8_chanceOf 10 none :: ((wsX8_chanceOf_r1 ++ wsX8_chanceOf_r2) ++ wsX80 ++ wsX10)
def wsX8_drawnSet : List Cond := .code yX8_drawnSet cX8_drawnSet 8 (some .int) :: ([.constantLong RX8 55 (1103515245), .constantLong RX8 57 (12345), .constantLong RX8 59 (2147483647)])
def wsX9_init_r1 : List Cond := [Cond.methodLink RX9 1 objectInit, Cond.instanceMethod objectInit, Cond.code objectInit ⟨#[0xb1]⟩ 1 none, Cond.classLink RX9 9 RX7, Cond.fieldLink RX9 11 "MentorPairs" "trays" "[LMentorPairs$Tray;", Cond.classLink RX9 15 RX0, Cond.instantiable RX0 6, Cond.initialized RX0, Cond.fieldLink RX9 18 "MentorPairs" "circle" "LMentorPairs$Circle;", Cond.classLink RX9 22 RX4, Cond.instantiable RX4 3, Cond.initialized RX4, Cond.fieldLink RX9 25 "MentorPairs" "pairing" "LMentorPairs$Pairing;", Cond.classLink RX9 29 RX5, Cond.instantiable RX5 5, Cond.initialized RX5, Cond.fieldLink RX9 32 "MentorPairs" "row" "LMentorPairs$Row;", Cond.classLink RX9 36 RX3, Cond.instantiable RX3 7, Cond.initialized RX3, Cond.fieldLink RX9 39 "MentorPairs" "meetings" "LMentorPairs$Meetings;", Cond.classLink RX9 43 RX2, Cond.instantiable RX2 5, Cond.initialized RX2]
def wsX9_init_r2 : List Cond := [Cond.fieldLink RX9 46 "MentorPairs" "goals" "LMentorPairs$Goals;", Cond.classLink RX9 50 RX6, Cond.instantiable RX6 3, Cond.initialized RX6, Cond.fieldLink RX9 53 "MentorPairs" "runs" "LMentorPairs$Runs;", Cond.classLink RX9 57 RX8, Cond.instantiable RX8 3, Cond.initialized RX8, Cond.fieldLink RX9 60 "MentorPairs" "trial" "LMentorPairs$Trial;", Cond.classLink RX9 64 RX1, Cond.instantiable RX1 2, Cond.initialized RX1, Cond.fieldLink RX9 67 "MentorPairs" "fraction" "LMentorPairs$Fraction;", Cond.fieldLink RX9 71 "MentorPairs" "latest" "I", Cond.instantiable RX7 4, Cond.initialized RX7, Cond.instanceMethod yX0_init, Cond.code yX0_init cX0_init 1 none, Cond.methodLink RX0 3 objectInit, Cond.arrayClass .int, Cond.fieldLink RX0 9 "MentorPairs$Circle" "placesOf" "[I", Cond.fieldLink RX0 15 "MentorPairs$Circle" "likingByElder" "[I", Cond.fieldLink RX0 18 "MentorPairs$Circle" "likingByBeginner" "[I", Cond.arrayClass .boolean]
def wsX9_init_r3 : List Cond := [Cond.fieldLink RX0 21 "MentorPairs$Circle" "barred" "[Z", Cond.fieldLink RX0 25 "MentorPairs$Circle" "elders" "I", Cond.fieldLink RX0 29 "MentorPairs$Circle" "beginners" "I", Cond.instanceMethod yX4_init, Cond.code yX4_init cX4_init 1 none, Cond.methodLink RX4 3 objectInit, Cond.fieldLink RX4 9 "MentorPairs$Pairing" "elderBy" "[I", Cond.fieldLink RX4 15 "MentorPairs$Pairing" "lastAsked" "[I", Cond.fieldLink RX4 18 "MentorPairs$Pairing" "given" "Z", Cond.methodLink RX4 22 yJ7_fill_53178, Cond.static yJ7_fill_53178, Cond.initialized RJ7, Cond.code yJ7_fill_53178 cJ7_fill_53178 4 none, Cond.instanceMethod yX5_init, Cond.code yX5_init cX5_init 1 none, Cond.methodLink RX5 3 objectInit, Cond.fieldLink RX5 9 "MentorPairs$Row" "queue" "[I", Cond.fieldLink RX5 15 "MentorPairs$Row" "takerFrom" "[I", Cond.fieldLink RX5 18 "MentorPairs$Row" "queued" "I", Cond.fieldLink RX5 22 "MentorPairs$Row" "first" "I", Cond.fieldLink RX5 25 "MentorPairs$Row" "freeElder" "I", Cond.instanceMethod yX3_init, Cond.code yX3_init cX3_init 1 none, Cond.methodLink RX3 3 objectInit]
def wsX9_init_r4 : List Cond := [Cond.fieldLink RX3 9 "MentorPairs$Meetings" "beginnerOf" "[I", Cond.fieldLink RX3 15 "MentorPairs$Meetings" "dueOn" "[I", Cond.fieldLink RX3 18 "MentorPairs$Meetings" "toldMeeting" "[I", Cond.fieldLink RX3 21 "MentorPairs$Meetings" "toldDay" "[I", Cond.fieldLink RX3 24 "MentorPairs$Meetings" "toldKept" "[Z", Cond.fieldLink RX3 28 "MentorPairs$Meetings" "many" "I", Cond.fieldLink RX3 32 "MentorPairs$Meetings" "tellings" "I", Cond.instanceMethod yX2_init, Cond.code yX2_init cX2_init 1 none, Cond.methodLink RX2 3 objectInit, Cond.fieldLink RX2 9 "MentorPairs$Goals" "beginnerOf" "[I", Cond.fieldLink RX2 15 "MentorPairs$Goals" "dueOn" "[I", Cond.fieldLink RX2 18 "MentorPairs$Goals" "behindGoal" "[I", Cond.fieldLink RX2 21 "MentorPairs$Goals" "confirmedOn" "[I", Cond.fieldLink RX2 24 "MentorPairs$Goals" "many" "I", Cond.instanceMethod yX6_init, Cond.code yX6_init cX6_init 1 none, Cond.methodLink RX6 3 objectInit, Cond.fieldLink RX6 9 "MentorPairs$Runs" "monthsOf" "[I", Cond.fieldLink RX6 15 "MentorPairs$Runs" "hasEnded" "[Z", Cond.fieldLink RX6 19 "MentorPairs$Runs" "many" "I", Cond.instanceMethod yX8_init, Cond.code yX8_init cX8_init 1 none, Cond.methodLink RX8 1 objectInit]
def wsX9_init_r5 : List Cond := [Cond.arrayClass .long, Cond.fieldLink RX8 9 "MentorPairs$Trial" "sumsOfFirst" "[J", Cond.fieldLink RX8 13 "MentorPairs$Trial" "sumsOfRest" "[J", Cond.fieldLink RX8 16 "MentorPairs$Trial" "many" "I", Cond.instanceMethod yX1_init, Cond.code yX1_init cX1_init 1 none, Cond.methodLink RX1 1 objectInit, Cond.fieldLink RX1 7 "MentorPairs$Fraction" "above" "J", Cond.fieldLink RX1 13 "MentorPairs$Fraction" "below" "J", Cond.instanceMethod yX7_init, Cond.code yX7_init cX7_init 1 none, Cond.methodLink RX7 3 objectInit, Cond.fieldLink RX7 9 "MentorPairs$Tray" "numbers" "[J", Cond.fieldLink RX7 15 "MentorPairs$Tray" "missing" "Z", Cond.fieldLink RX7 19 "MentorPairs$Tray" "sort" "I", Cond.fieldLink RX7 23 "MentorPairs$Tray" "length" "I"]
def wsX9_init : List Cond := .code yX9_init cX9_init 2 none :: ((wsX9_init_r1 ++ (wsX9_init_r2 ++ (wsX9_init_r3 ++ (wsX9_init_r4 ++ wsX9_init_r5)))) ++ wsX90 ++ wsX00 ++ wsX40 ++ wsX50 ++ wsX30 ++ wsX20 ++ wsX60 ++ wsX80 ++ wsX10 ++ wsX70)
def wsX9_status : List Cond := .code yX9_status cX9_status 1 (some .int) :: ([.fieldLink RX9 71 "MentorPairs" "latest" "I"] ++ wsX90)
def wsX9_isTray : List Cond := .code yX9_isTray cX9_isTray 1 (some .boolean) :: ([])
def wsX9_finish : List Cond := .code yX9_finish cX9_finish 2 (some .boolean) :: ([.fieldLink RX9 71 "MentorPairs" "latest" "I"] ++ wsX90)
def wsX9_tray : List Cond := .code yX9_tray cX9_tray 4 (some .boolean) :: ([.fieldLink RX9 11 "MentorPairs" "trays" "[LMentorPairs$Tray;", .methodLink RX9 76 yX9_isTray, .static yX9_isTray, .initialized RX9, .code yX9_isTray cX9_isTray 1 (some .boolean), .methodLink RX9 80 yX9_finish, .instanceMethod yX9_finish, .selects RX9 yX9_finish yX9_finish, .code yX9_finish cX9_finish 2 (some .boolean), .fieldLink RX9 71 "MentorPairs" "latest" "I", .instanceMethod yX7_make, .initialized RX7, .selects RX7 yX7_make yX7_make, .code yX7_make cX7_make 3 none, .fieldLink RX7 15 "MentorPairs$Tray" "missing" "Z", .fieldLink RX7 19 "MentorPairs$Tray" "sort" "I", .fieldLink RX7 23 "MentorPairs$Tray" "length" "I", .fieldLink RX7 9 "MentorPairs$Tray" "numbers" "[J", .methodLink RX7 26 yJ7_fill_d0a16, .static yJ7_fill_d0a16, .initialized RJ7, .code yJ7_fill_d0a16 cJ7_fill_d0a16 5 none] ++ wsX90 ++ wsX70)
def wsX9_trayFault : List Cond := .code yX9_trayFault cX9_trayFault 2 (some .int) :: ([.fieldLink RX9 11 "MentorPairs" "trays" "[LMentorPairs$Tray;", .methodLink RX9 76 yX9_isTray, .static yX9_isTray, .initialized RX9, .code yX9_isTray cX9_isTray 1 (some .boolean)] ++ wsX90 ++ wsX70)
def wsX9_placeFault : List Cond := .code yX9_placeFault cX9_placeFault 4 (some .int) :: ([.fieldLink RX9 11 "MentorPairs" "trays" "[LMentorPairs$Tray;", .methodLink RX9 266 yX9_trayFault, .instanceMethod yX9_trayFault, .selects RX9 yX9_trayFault yX9_trayFault, .initialized RX9, .code yX9_trayFault cX9_trayFault 2 (some .int), .methodLink RX9 76 yX9_isTray, .static yX9_isTray, .code yX9_isTray cX9_isTray 1 (some .boolean), .instanceMethod yX7_hasPlaces, .initialized RX7, .selects RX7 yX7_hasPlaces yX7_hasPlaces, .code yX7_hasPlaces cX7_hasPlaces 3 (some .boolean), .fieldLink RX7 23 "MentorPairs$Tray" "length" "I"] ++ wsX90 ++ wsX70)
def wsX9_write_r1 : List Cond := [Cond.fieldLink RX9 11 "MentorPairs" "trays" "[LMentorPairs$Tray;", Cond.methodLink RX9 87 yX9_placeFault, Cond.instanceMethod yX9_placeFault, Cond.selects RX9 yX9_placeFault yX9_placeFault, Cond.initialized RX9, Cond.code yX9_placeFault cX9_placeFault 4 (some .int), Cond.methodLink RX9 266 yX9_trayFault, Cond.instanceMethod yX9_trayFault, Cond.selects RX9 yX9_trayFault yX9_trayFault, Cond.code yX9_trayFault cX9_trayFault 2 (some .int), Cond.methodLink RX9 76 yX9_isTray, Cond.static yX9_isTray, Cond.code yX9_isTray cX9_isTray 1 (some .boolean), Cond.instanceMethod yX7_hasPlaces, Cond.initialized RX7, Cond.selects RX7 yX7_hasPlaces yX7_hasPlaces, Cond.code yX7_hasPlaces cX7_hasPlaces 3 (some .boolean), Cond.fieldLink RX7 23 "MentorPairs$Tray" "length" "I", Cond.instanceMethod yX7_put, Cond.selects RX7 yX7_put yX7_put, Cond.code yX7_put cX7_put 4 none, Cond.fieldLink RX7 9 "MentorPairs$Tray" "numbers" "[J", Cond.methodLink RX7 32 yX7_cut, Cond.instanceMethod yX7_cut]
def wsX9_write_r2 : List Cond := [Cond.selects RX7 yX7_cut yX7_cut, Cond.code yX7_cut cX7_cut 3 (some .long), Cond.fieldLink RX7 19 "MentorPairs$Tray" "sort" "I", Cond.methodLink RX9 80 yX9_finish, Cond.instanceMethod yX9_finish, Cond.selects RX9 yX9_finish yX9_finish, Cond.code yX9_finish cX9_finish 2 (some .boolean), Cond.fieldLink RX9 71 "MentorPairs" "latest" "I"]
def wsX9_write : List Cond := .code yX9_write cX9_write 6 (some .boolean) :: ((wsX9_write_r1 ++ wsX9_write_r2) ++ wsX90 ++ wsX70)
def wsX9_read : List Cond := .code yX9_read cX9_read 4 (some .long) :: ([.fieldLink RX9 11 "MentorPairs" "trays" "[LMentorPairs$Tray;", .constantLong RX9 99 (-1), .methodLink RX9 87 yX9_placeFault, .instanceMethod yX9_placeFault, .selects RX9 yX9_placeFault yX9_placeFault, .initialized RX9, .code yX9_placeFault cX9_placeFault 4 (some .int), .methodLink RX9 266 yX9_trayFault, .instanceMethod yX9_trayFault, .selects RX9 yX9_trayFault yX9_trayFault, .code yX9_trayFault cX9_trayFault 2 (some .int), .methodLink RX9 76 yX9_isTray, .static yX9_isTray, .code yX9_isTray cX9_isTray 1 (some .boolean), .instanceMethod yX7_hasPlaces, .initialized RX7, .selects RX7 yX7_hasPlaces yX7_hasPlaces, .code yX7_hasPlaces cX7_hasPlaces 3 (some .boolean), .fieldLink RX7 23 "MentorPairs$Tray" "length" "I", .methodLink RX9 80 yX9_finish, .instanceMethod yX9_finish, .selects RX9 yX9_finish yX9_finish, .code yX9_finish cX9_finish 2 (some .boolean), .fieldLink RX9 71 "MentorPairs" "latest" "I"] ++ wsX90 ++ wsX70)
def wsX9_pourFault : List Cond := .code yX9_pourFault cX9_pourFault 7 (some .int) :: ([.fieldLink RX9 11 "MentorPairs" "trays" "[LMentorPairs$Tray;", .methodLink RX9 76 yX9_isTray, .static yX9_isTray, .initialized RX9, .code yX9_isTray cX9_isTray 1 (some .boolean), .instanceMethod yX7_hasPlaces, .initialized RX7, .selects RX7 yX7_hasPlaces yX7_hasPlaces, .code yX7_hasPlaces cX7_hasPlaces 3 (some .boolean), .fieldLink RX7 23 "MentorPairs$Tray" "length" "I"] ++ wsX90 ++ wsX70)
def wsX9_pour : List Cond := .code yX9_pour cX9_pour 7 (some .boolean) :: ([.fieldLink RX9 11 "MentorPairs" "trays" "[LMentorPairs$Tray;", .methodLink RX9 105 arraycopyName, .native arraycopyName, .static arraycopyName, .initialized "java/lang/System", .methodLink RX9 101 yX9_pourFault, .instanceMethod yX9_pourFault, .selects RX9 yX9_pourFault yX9_pourFault, .initialized RX9, .code yX9_pourFault cX9_pourFault 7 (some .int), .methodLink RX9 76 yX9_isTray, .static yX9_isTray, .code yX9_isTray cX9_isTray 1 (some .boolean), .instanceMethod yX7_hasPlaces, .initialized RX7, .selects RX7 yX7_hasPlaces yX7_hasPlaces, .code yX7_hasPlaces cX7_hasPlaces 3 (some .boolean), .fieldLink RX7 23 "MentorPairs$Tray" "length" "I", .methodLink RX9 80 yX9_finish, .instanceMethod yX9_finish, .selects RX9 yX9_finish yX9_finish, .code yX9_finish cX9_finish 2 (some .boolean), .fieldLink RX9 71 "MentorPairs" "latest" "I"] ++ wsX90 ++ wsX70)
def wsX9_isPlaces : List Cond := .code yX9_isPlaces cX9_isPlaces 1 (some .boolean) :: ([])
def wsX9_refused : List Cond := .code yX9_refused cX9_refused 2 (some .int) :: ([.fieldLink RX9 71 "MentorPairs" "latest" "I"] ++ wsX90)
def wsX9_answered : List Cond := .code yX9_answered cX9_answered 2 (some .int) :: ([.fieldLink RX9 71 "MentorPairs" "latest" "I"] ++ wsX90)
def wsX9_elder : List Cond := .code yX9_elder cX9_elder 2 (some .int) :: ([.fieldLink RX9 18 "MentorPairs" "circle" "LMentorPairs$Circle;", .methodLink RX9 111 yX9_isPlaces, .static yX9_isPlaces, .initialized RX9, .code yX9_isPlaces cX9_isPlaces 1 (some .boolean), .methodLink RX9 114 yX9_refused, .instanceMethod yX9_refused, .selects RX9 yX9_refused yX9_refused, .code yX9_refused cX9_refused 2 (some .int), .fieldLink RX9 71 "MentorPairs" "latest" "I", .instanceMethod yX0_addElder, .initialized RX0, .selects RX0 yX0_addElder yX0_addElder, .code yX0_addElder cX0_addElder 2 (some .int), .fieldLink RX0 9 "MentorPairs$Circle" "placesOf" "[I", .fieldLink RX0 25 "MentorPairs$Circle" "elders" "I", .methodLink RX9 124 yX9_answered, .instanceMethod yX9_answered, .selects RX9 yX9_answered yX9_answered, .code yX9_answered cX9_answered 2 (some .int)] ++ wsX90 ++ wsX00)
def wsX9_beginner : List Cond := .code yX9_beginner cX9_beginner 1 (some .int) :: ([.fieldLink RX9 18 "MentorPairs" "circle" "LMentorPairs$Circle;", .methodLink RX9 114 yX9_refused, .instanceMethod yX9_refused, .selects RX9 yX9_refused yX9_refused, .initialized RX9, .code yX9_refused cX9_refused 2 (some .int), .fieldLink RX9 71 "MentorPairs" "latest" "I", .instanceMethod yX0_addBeginner, .initialized RX0, .selects RX0 yX0_addBeginner yX0_addBeginner, .code yX0_addBeginner cX0_addBeginner 1 (some .int), .fieldLink RX0 29 "MentorPairs$Circle" "beginners" "I", .methodLink RX9 124 yX9_answered, .instanceMethod yX9_answered, .selects RX9 yX9_answered yX9_answered, .code yX9_answered cX9_answered 2 (some .int)] ++ wsX90 ++ wsX00)
def wsX9_places : List Cond := .code yX9_places cX9_places 3 (some .boolean) :: ([.fieldLink RX9 18 "MentorPairs" "circle" "LMentorPairs$Circle;", .instanceMethod yX0_isElder, .initialized RX0, .selects RX0 yX0_isElder yX0_isElder, .code yX0_isElder cX0_isElder 2 (some .boolean), .fieldLink RX0 25 "MentorPairs$Circle" "elders" "I", .methodLink RX9 80 yX9_finish, .instanceMethod yX9_finish, .selects RX9 yX9_finish yX9_finish, .initialized RX9, .code yX9_finish cX9_finish 2 (some .boolean), .fieldLink RX9 71 "MentorPairs" "latest" "I", .methodLink RX9 111 yX9_isPlaces, .static yX9_isPlaces, .code yX9_isPlaces cX9_isPlaces 1 (some .boolean)] ++ wsX90 ++ wsX00)
def wsX9_like_r1 : List Cond := [Cond.fieldLink RX9 18 "MentorPairs" "circle" "LMentorPairs$Circle;", Cond.instanceMethod yX0_areTwo, Cond.initialized RX0, Cond.selects RX0 yX0_areTwo yX0_areTwo, Cond.code yX0_areTwo cX0_areTwo 3 (some .boolean), Cond.methodLink RX0 32 yX0_isElder, Cond.instanceMethod yX0_isElder, Cond.selects RX0 yX0_isElder yX0_isElder, Cond.code yX0_isElder cX0_isElder 2 (some .boolean), Cond.fieldLink RX0 25 "MentorPairs$Circle" "elders" "I", Cond.methodLink RX0 36 yX0_isBeginner, Cond.instanceMethod yX0_isBeginner, Cond.selects RX0 yX0_isBeginner yX0_isBeginner, Cond.code yX0_isBeginner cX0_isBeginner 2 (some .boolean), Cond.fieldLink RX0 29 "MentorPairs$Circle" "beginners" "I", Cond.methodLink RX9 80 yX9_finish, Cond.instanceMethod yX9_finish, Cond.selects RX9 yX9_finish yX9_finish, Cond.initialized RX9, Cond.code yX9_finish cX9_finish 2 (some .boolean), Cond.fieldLink RX9 71 "MentorPairs" "latest" "I", Cond.instanceMethod yX0_setLiking, Cond.selects RX0 yX0_setLiking yX0_setLiking, Cond.code yX0_setLiking cX0_setLiking 6 none]
def wsX9_like_r2 : List Cond := [Cond.fieldLink RX0 15 "MentorPairs$Circle" "likingByElder" "[I", Cond.fieldLink RX0 18 "MentorPairs$Circle" "likingByBeginner" "[I", Cond.methodLink RX0 39 yX0_spot, Cond.static yX0_spot, Cond.code yX0_spot cX0_spot 2 (some .int)]
def wsX9_like : List Cond := .code yX9_like cX9_like 5 (some .boolean) :: ((wsX9_like_r1 ++ wsX9_like_r2) ++ wsX90 ++ wsX00)
def wsX9_bar_r1 : List Cond := [Cond.fieldLink RX9 18 "MentorPairs" "circle" "LMentorPairs$Circle;", Cond.instanceMethod yX0_areTwo, Cond.initialized RX0, Cond.selects RX0 yX0_areTwo yX0_areTwo, Cond.code yX0_areTwo cX0_areTwo 3 (some .boolean), Cond.methodLink RX0 32 yX0_isElder, Cond.instanceMethod yX0_isElder, Cond.selects RX0 yX0_isElder yX0_isElder, Cond.code yX0_isElder cX0_isElder 2 (some .boolean), Cond.fieldLink RX0 25 "MentorPairs$Circle" "elders" "I", Cond.methodLink RX0 36 yX0_isBeginner, Cond.instanceMethod yX0_isBeginner, Cond.selects RX0 yX0_isBeginner yX0_isBeginner, Cond.code yX0_isBeginner cX0_isBeginner 2 (some .boolean), Cond.fieldLink RX0 29 "MentorPairs$Circle" "beginners" "I", Cond.methodLink RX9 80 yX9_finish, Cond.instanceMethod yX9_finish, Cond.selects RX9 yX9_finish yX9_finish, Cond.initialized RX9, Cond.code yX9_finish cX9_finish 2 (some .boolean), Cond.fieldLink RX9 71 "MentorPairs" "latest" "I", Cond.instanceMethod yX0_isBarred, Cond.selects RX0 yX0_isBarred yX0_isBarred, Cond.code yX0_isBarred cX0_isBarred 3 (some .boolean)]
def wsX9_bar_r2 : List Cond := [Cond.fieldLink RX0 21 "MentorPairs$Circle" "barred" "[Z", Cond.methodLink RX0 39 yX0_spot, Cond.static yX0_spot, Cond.code yX0_spot cX0_spot 2 (some .int), Cond.instanceMethod yX0_setBarred, Cond.selects RX0 yX0_setBarred yX0_setBarred, Cond.code yX0_setBarred cX0_setBarred 4 none]
def wsX9_bar : List Cond := .code yX9_bar cX9_bar 4 (some .boolean) :: ((wsX9_bar_r1 ++ wsX9_bar_r2) ++ wsX90 ++ wsX00)
def wsX9_pair_r1 : List Cond := [Cond.fieldLink RX9 25 "MentorPairs" "pairing" "LMentorPairs$Pairing;", Cond.fieldLink RX9 18 "MentorPairs" "circle" "LMentorPairs$Circle;", Cond.instanceMethod yX4_makeBest, Cond.initialized RX4, Cond.selects RX4 yX4_makeBest yX4_makeBest, Cond.code yX4_makeBest cX4_makeBest 3 (some .int), Cond.fieldLink RX4 18 "MentorPairs$Pairing" "given" "Z", Cond.fieldLink RX4 9 "MentorPairs$Pairing" "elderBy" "[I", Cond.fieldLink RX4 15 "MentorPairs$Pairing" "lastAsked" "[I", Cond.methodLink RX4 22 yJ7_fill_53178, Cond.static yJ7_fill_53178, Cond.initialized RJ7, Cond.code yJ7_fill_53178 cJ7_fill_53178 4 none, Cond.methodLink RX4 45 yX4_seat, Cond.instanceMethod yX4_seat, Cond.selects RX4 yX4_seat yX4_seat, Cond.code yX4_seat cX4_seat 6 none, Cond.methodLink RX4 53 yX4_nextChoice, Cond.instanceMethod yX4_nextChoice, Cond.selects RX4 yX4_nextChoice yX4_nextChoice, Cond.code yX4_nextChoice cX4_nextChoice 7 (some .int), Cond.instanceMethod yX0_canPair, Cond.initialized RX0, Cond.selects RX0 yX0_canPair yX0_canPair]
def wsX9_pair_r2 : List Cond := [Cond.code yX0_canPair cX0_canPair 4 (some .boolean), Cond.fieldLink RX0 15 "MentorPairs$Circle" "likingByElder" "[I", Cond.fieldLink RX0 18 "MentorPairs$Circle" "likingByBeginner" "[I", Cond.fieldLink RX0 21 "MentorPairs$Circle" "barred" "[Z", Cond.methodLink RX0 39 yX0_spot, Cond.static yX0_spot, Cond.code yX0_spot cX0_spot 2 (some .int), Cond.instanceMethod yX0_beginnerPrefers, Cond.selects RX0 yX0_beginnerPrefers yX0_beginnerPrefers, Cond.code yX0_beginnerPrefers cX0_beginnerPrefers 6 (some .boolean), Cond.methodLink RX4 57 yX4_askFor, Cond.instanceMethod yX4_askFor, Cond.selects RX4 yX4_askFor yX4_askFor, Cond.code yX4_askFor cX4_askFor 5 (some .int), Cond.methodLink RX4 71 yX4_hasPlaceLeft, Cond.instanceMethod yX4_hasPlaceLeft, Cond.selects RX4 yX4_hasPlaceLeft yX4_hasPlaceLeft, Cond.code yX4_hasPlaceLeft cX4_hasPlaceLeft 3 (some .boolean), Cond.methodLink RX4 28 yX4_countOf, Cond.instanceMethod yX4_countOf, Cond.selects RX4 yX4_countOf yX4_countOf, Cond.code yX4_countOf cX4_countOf 4 (some .int), Cond.methodLink RX4 75 yX4_leastOf, Cond.instanceMethod yX4_leastOf]
def wsX9_pair_r3 : List Cond := [Cond.selects RX4 yX4_leastOf yX4_leastOf, Cond.code yX4_leastOf cX4_leastOf 5 (some .int), Cond.instanceMethod yX0_elderPrefers, Cond.selects RX0 yX0_elderPrefers yX0_elderPrefers, Cond.code yX0_elderPrefers cX0_elderPrefers 6 (some .boolean), Cond.methodLink RX4 49 yX4_countPairs, Cond.instanceMethod yX4_countPairs, Cond.selects RX4 yX4_countPairs yX4_countPairs, Cond.code yX4_countPairs cX4_countPairs 3 (some .int), Cond.methodLink RX9 124 yX9_answered, Cond.instanceMethod yX9_answered, Cond.selects RX9 yX9_answered yX9_answered, Cond.initialized RX9, Cond.code yX9_answered cX9_answered 2 (some .int), Cond.fieldLink RX9 71 "MentorPairs" "latest" "I"]
def wsX9_pair : List Cond := .code yX9_pair cX9_pair 1 (some .int) :: ((wsX9_pair_r1 ++ (wsX9_pair_r2 ++ wsX9_pair_r3)) ++ wsX90 ++ wsX40 ++ wsX00)
def wsX9_pairedFault : List Cond := .code yX9_pairedFault cX9_pairedFault 2 (some .int) :: ([.fieldLink RX9 18 "MentorPairs" "circle" "LMentorPairs$Circle;", .fieldLink RX9 25 "MentorPairs" "pairing" "LMentorPairs$Pairing;", .instanceMethod yX0_isBeginner, .initialized RX0, .selects RX0 yX0_isBeginner yX0_isBeginner, .code yX0_isBeginner cX0_isBeginner 2 (some .boolean), .fieldLink RX0 29 "MentorPairs$Circle" "beginners" "I"] ++ wsX90 ++ wsX40 ++ wsX00)
def wsX9_elderOf : List Cond := .code yX9_elderOf cX9_elderOf 3 (some .int) :: ([.fieldLink RX9 25 "MentorPairs" "pairing" "LMentorPairs$Pairing;", .methodLink RX9 160 yX9_pairedFault, .instanceMethod yX9_pairedFault, .selects RX9 yX9_pairedFault yX9_pairedFault, .initialized RX9, .code yX9_pairedFault cX9_pairedFault 2 (some .int), .fieldLink RX9 18 "MentorPairs" "circle" "LMentorPairs$Circle;", .instanceMethod yX0_isBeginner, .initialized RX0, .selects RX0 yX0_isBeginner yX0_isBeginner, .code yX0_isBeginner cX0_isBeginner 2 (some .boolean), .fieldLink RX0 29 "MentorPairs$Circle" "beginners" "I", .methodLink RX9 124 yX9_answered, .instanceMethod yX9_answered, .selects RX9 yX9_answered yX9_answered, .code yX9_answered cX9_answered 2 (some .int), .fieldLink RX9 71 "MentorPairs" "latest" "I", .methodLink RX9 114 yX9_refused, .instanceMethod yX9_refused, .selects RX9 yX9_refused yX9_refused, .code yX9_refused cX9_refused 2 (some .int)] ++ wsX90 ++ wsX40 ++ wsX00)
def wsX9_has : List Cond := .code yX9_has cX9_has 2 (some .int) :: ([.fieldLink RX9 18 "MentorPairs" "circle" "LMentorPairs$Circle;", .fieldLink RX9 25 "MentorPairs" "pairing" "LMentorPairs$Pairing;", .instanceMethod yX0_isElder, .initialized RX0, .selects RX0 yX0_isElder yX0_isElder, .code yX0_isElder cX0_isElder 2 (some .boolean), .fieldLink RX0 25 "MentorPairs$Circle" "elders" "I", .methodLink RX9 114 yX9_refused, .instanceMethod yX9_refused, .selects RX9 yX9_refused yX9_refused, .initialized RX9, .code yX9_refused cX9_refused 2 (some .int), .fieldLink RX9 71 "MentorPairs" "latest" "I", .instanceMethod yX4_countOf, .initialized RX4, .selects RX4 yX4_countOf yX4_countOf, .code yX4_countOf cX4_countOf 4 (some .int), .fieldLink RX4 9 "MentorPairs$Pairing" "elderBy" "[I", .methodLink RX9 124 yX9_answered, .instanceMethod yX9_answered, .selects RX9 yX9_answered yX9_answered, .code yX9_answered cX9_answered 2 (some .int)] ++ wsX90 ++ wsX40 ++ wsX00)
def wsX9_blocks_r1 : List Cond := [Cond.fieldLink RX9 25 "MentorPairs" "pairing" "LMentorPairs$Pairing;", Cond.fieldLink RX9 18 "MentorPairs" "circle" "LMentorPairs$Circle;", Cond.methodLink RX9 114 yX9_refused, Cond.instanceMethod yX9_refused, Cond.selects RX9 yX9_refused yX9_refused, Cond.initialized RX9, Cond.code yX9_refused cX9_refused 2 (some .int), Cond.fieldLink RX9 71 "MentorPairs" "latest" "I", Cond.instanceMethod yX4_countBlocking, Cond.initialized RX4, Cond.selects RX4 yX4_countBlocking yX4_countBlocking, Cond.code yX4_countBlocking cX4_countBlocking 5 (some .int), Cond.methodLink RX4 78 yX4_isBlockedBy, Cond.instanceMethod yX4_isBlockedBy, Cond.selects RX4 yX4_isBlockedBy yX4_isBlockedBy, Cond.code yX4_isBlockedBy cX4_isBlockedBy 6 (some .boolean), Cond.fieldLink RX4 9 "MentorPairs$Pairing" "elderBy" "[I", Cond.instanceMethod yX0_canPair, Cond.initialized RX0, Cond.selects RX0 yX0_canPair yX0_canPair, Cond.code yX0_canPair cX0_canPair 4 (some .boolean), Cond.fieldLink RX0 15 "MentorPairs$Circle" "likingByElder" "[I", Cond.fieldLink RX0 18 "MentorPairs$Circle" "likingByBeginner" "[I", Cond.fieldLink RX0 21 "MentorPairs$Circle" "barred" "[Z"]
def wsX9_blocks_r2 : List Cond := [Cond.methodLink RX0 39 yX0_spot, Cond.static yX0_spot, Cond.code yX0_spot cX0_spot 2 (some .int), Cond.instanceMethod yX0_beginnerPrefers, Cond.selects RX0 yX0_beginnerPrefers yX0_beginnerPrefers, Cond.code yX0_beginnerPrefers cX0_beginnerPrefers 6 (some .boolean), Cond.methodLink RX4 71 yX4_hasPlaceLeft, Cond.instanceMethod yX4_hasPlaceLeft, Cond.selects RX4 yX4_hasPlaceLeft yX4_hasPlaceLeft, Cond.code yX4_hasPlaceLeft cX4_hasPlaceLeft 3 (some .boolean), Cond.methodLink RX4 28 yX4_countOf, Cond.instanceMethod yX4_countOf, Cond.selects RX4 yX4_countOf yX4_countOf, Cond.code yX4_countOf cX4_countOf 4 (some .int), Cond.methodLink RX4 75 yX4_leastOf, Cond.instanceMethod yX4_leastOf, Cond.selects RX4 yX4_leastOf yX4_leastOf, Cond.code yX4_leastOf cX4_leastOf 5 (some .int), Cond.instanceMethod yX0_elderPrefers, Cond.selects RX0 yX0_elderPrefers yX0_elderPrefers, Cond.code yX0_elderPrefers cX0_elderPrefers 6 (some .boolean), Cond.methodLink RX9 124 yX9_answered, Cond.instanceMethod yX9_answered, Cond.selects RX9 yX9_answered yX9_answered]
def wsX9_blocks_r3 : List Cond := [Cond.code yX9_answered cX9_answered 2 (some .int)]
def wsX9_blocks : List Cond := .code yX9_blocks cX9_blocks 1 (some .int) :: ((wsX9_blocks_r1 ++ (wsX9_blocks_r2 ++ wsX9_blocks_r3)) ++ wsX90 ++ wsX40 ++ wsX00)
def wsX9_block_r1 : List Cond := [Cond.fieldLink RX9 18 "MentorPairs" "circle" "LMentorPairs$Circle;", Cond.fieldLink RX9 25 "MentorPairs" "pairing" "LMentorPairs$Pairing;", Cond.instanceMethod yX0_areTwo, Cond.initialized RX0, Cond.selects RX0 yX0_areTwo yX0_areTwo, Cond.code yX0_areTwo cX0_areTwo 3 (some .boolean), Cond.methodLink RX0 32 yX0_isElder, Cond.instanceMethod yX0_isElder, Cond.selects RX0 yX0_isElder yX0_isElder, Cond.code yX0_isElder cX0_isElder 2 (some .boolean), Cond.fieldLink RX0 25 "MentorPairs$Circle" "elders" "I", Cond.methodLink RX0 36 yX0_isBeginner, Cond.instanceMethod yX0_isBeginner, Cond.selects RX0 yX0_isBeginner yX0_isBeginner, Cond.code yX0_isBeginner cX0_isBeginner 2 (some .boolean), Cond.fieldLink RX0 29 "MentorPairs$Circle" "beginners" "I", Cond.methodLink RX9 114 yX9_refused, Cond.instanceMethod yX9_refused, Cond.selects RX9 yX9_refused yX9_refused, Cond.initialized RX9, Cond.code yX9_refused cX9_refused 2 (some .int), Cond.fieldLink RX9 71 "MentorPairs" "latest" "I", Cond.instanceMethod yX4_isBlockedBy, Cond.initialized RX4]
def wsX9_block_r2 : List Cond := [Cond.selects RX4 yX4_isBlockedBy yX4_isBlockedBy, Cond.code yX4_isBlockedBy cX4_isBlockedBy 6 (some .boolean), Cond.fieldLink RX4 9 "MentorPairs$Pairing" "elderBy" "[I", Cond.instanceMethod yX0_canPair, Cond.selects RX0 yX0_canPair yX0_canPair, Cond.code yX0_canPair cX0_canPair 4 (some .boolean), Cond.fieldLink RX0 15 "MentorPairs$Circle" "likingByElder" "[I", Cond.fieldLink RX0 18 "MentorPairs$Circle" "likingByBeginner" "[I", Cond.fieldLink RX0 21 "MentorPairs$Circle" "barred" "[Z", Cond.methodLink RX0 39 yX0_spot, Cond.static yX0_spot, Cond.code yX0_spot cX0_spot 2 (some .int), Cond.instanceMethod yX0_beginnerPrefers, Cond.selects RX0 yX0_beginnerPrefers yX0_beginnerPrefers, Cond.code yX0_beginnerPrefers cX0_beginnerPrefers 6 (some .boolean), Cond.methodLink RX4 71 yX4_hasPlaceLeft, Cond.instanceMethod yX4_hasPlaceLeft, Cond.selects RX4 yX4_hasPlaceLeft yX4_hasPlaceLeft, Cond.code yX4_hasPlaceLeft cX4_hasPlaceLeft 3 (some .boolean), Cond.methodLink RX4 28 yX4_countOf, Cond.instanceMethod yX4_countOf, Cond.selects RX4 yX4_countOf yX4_countOf, Cond.code yX4_countOf cX4_countOf 4 (some .int), Cond.methodLink RX4 75 yX4_leastOf]
def wsX9_block_r3 : List Cond := [Cond.instanceMethod yX4_leastOf, Cond.selects RX4 yX4_leastOf yX4_leastOf, Cond.code yX4_leastOf cX4_leastOf 5 (some .int), Cond.instanceMethod yX0_elderPrefers, Cond.selects RX0 yX0_elderPrefers yX0_elderPrefers, Cond.code yX0_elderPrefers cX0_elderPrefers 6 (some .boolean), Cond.methodLink RX9 124 yX9_answered, Cond.instanceMethod yX9_answered, Cond.selects RX9 yX9_answered yX9_answered, Cond.code yX9_answered cX9_answered 2 (some .int)]
def wsX9_block : List Cond := .code yX9_block cX9_block 3 (some .int) :: ((wsX9_block_r1 ++ (wsX9_block_r2 ++ wsX9_block_r3)) ++ wsX90 ++ wsX40 ++ wsX00)
def wsX9_change_r1 : List Cond := [Cond.fieldLink RX9 25 "MentorPairs" "pairing" "LMentorPairs$Pairing;", Cond.fieldLink RX9 32 "MentorPairs" "row" "LMentorPairs$Row;", Cond.fieldLink RX9 18 "MentorPairs" "circle" "LMentorPairs$Circle;", Cond.methodLink RX9 160 yX9_pairedFault, Cond.instanceMethod yX9_pairedFault, Cond.selects RX9 yX9_pairedFault yX9_pairedFault, Cond.initialized RX9, Cond.code yX9_pairedFault cX9_pairedFault 2 (some .int), Cond.instanceMethod yX0_isBeginner, Cond.initialized RX0, Cond.selects RX0 yX0_isBeginner yX0_isBeginner, Cond.code yX0_isBeginner cX0_isBeginner 2 (some .boolean), Cond.fieldLink RX0 29 "MentorPairs$Circle" "beginners" "I", Cond.methodLink RX9 114 yX9_refused, Cond.instanceMethod yX9_refused, Cond.selects RX9 yX9_refused yX9_refused, Cond.code yX9_refused cX9_refused 2 (some .int), Cond.fieldLink RX9 71 "MentorPairs" "latest" "I", Cond.instanceMethod yX5_findLast, Cond.initialized RX5, Cond.selects RX5 yX5_findLast yX5_findLast, Cond.code yX5_findLast cX5_findLast 6 (some .int), Cond.fieldLink RX5 15 "MentorPairs$Row" "takerFrom" "[I", Cond.fieldLink RX5 22 "MentorPairs$Row" "first" "I"]
def wsX9_change_r2 : List Cond := [Cond.fieldLink RX5 9 "MentorPairs$Row" "queue" "[I", Cond.fieldLink RX5 18 "MentorPairs$Row" "queued" "I", Cond.fieldLink RX5 25 "MentorPairs$Row" "freeElder" "I", Cond.methodLink RX5 28 yJ7_fill_53178, Cond.static yJ7_fill_53178, Cond.initialized RJ7, Cond.code yJ7_fill_53178 cJ7_fill_53178 4 none, Cond.methodLink RX5 34 yX5_freeElderFor, Cond.instanceMethod yX5_freeElderFor, Cond.selects RX5 yX5_freeElderFor yX5_freeElderFor, Cond.code yX5_freeElderFor cX5_freeElderFor 5 (some .int), Cond.methodLink RX5 56 yX5_mayMove, Cond.static yX5_mayMove, Cond.code yX5_mayMove cX5_mayMove 4 (some .boolean), Cond.instanceMethod yX0_canPair, Cond.selects RX0 yX0_canPair yX0_canPair, Cond.code yX0_canPair cX0_canPair 4 (some .boolean), Cond.fieldLink RX0 15 "MentorPairs$Circle" "likingByElder" "[I", Cond.fieldLink RX0 18 "MentorPairs$Circle" "likingByBeginner" "[I", Cond.fieldLink RX0 21 "MentorPairs$Circle" "barred" "[Z", Cond.methodLink RX0 39 yX0_spot, Cond.static yX0_spot, Cond.code yX0_spot cX0_spot 2 (some .int), Cond.methodLink RX5 60 yX5_isFree]
def wsX9_change_r3 : List Cond := [Cond.instanceMethod yX5_isFree, Cond.selects RX5 yX5_isFree yX5_isFree, Cond.code yX5_isFree cX5_isFree 5 (some .boolean), Cond.instanceMethod yX4_countOf, Cond.initialized RX4, Cond.selects RX4 yX4_countOf yX4_countOf, Cond.code yX4_countOf cX4_countOf 4 (some .int), Cond.fieldLink RX4 9 "MentorPairs$Pairing" "elderBy" "[I", Cond.methodLink RX5 38 yX5_queueLeavers, Cond.instanceMethod yX5_queueLeavers, Cond.selects RX5 yX5_queueLeavers yX5_queueLeavers, Cond.code yX5_queueLeavers cX5_queueLeavers 5 none, Cond.methodLink RX5 71 yX5_queueLeaversOf, Cond.instanceMethod yX5_queueLeaversOf, Cond.selects RX5 yX5_queueLeaversOf yX5_queueLeaversOf, Cond.code yX5_queueLeaversOf cX5_queueLeaversOf 7 none, Cond.instanceMethod yX0_setBarred, Cond.selects RX0 yX0_setBarred yX0_setBarred, Cond.code yX0_setBarred cX0_setBarred 4 none, Cond.instanceMethod yX5_moveAll, Cond.selects RX5 yX5_moveAll yX5_moveAll, Cond.code yX5_moveAll cX5_moveAll 7 (some .int), Cond.methodLink RX9 124 yX9_answered, Cond.instanceMethod yX9_answered]
def wsX9_change_r4 : List Cond := [Cond.selects RX9 yX9_answered yX9_answered, Cond.code yX9_answered cX9_answered 2 (some .int)]
def wsX9_change : List Cond := .code yX9_change cX9_change 5 (some .int) :: ((wsX9_change_r1 ++ (wsX9_change_r2 ++ (wsX9_change_r3 ++ wsX9_change_r4))) ++ wsX90 ++ wsX40 ++ wsX00 ++ wsX50)
def wsX9_isDay : List Cond := .code yX9_isDay cX9_isDay 1 (some .boolean) :: ([])
def wsX9_meeting_r1 : List Cond := [Cond.fieldLink RX9 18 "MentorPairs" "circle" "LMentorPairs$Circle;", Cond.fieldLink RX9 39 "MentorPairs" "meetings" "LMentorPairs$Meetings;", Cond.instanceMethod yX0_isBeginner, Cond.initialized RX0, Cond.selects RX0 yX0_isBeginner yX0_isBeginner, Cond.code yX0_isBeginner cX0_isBeginner 2 (some .boolean), Cond.fieldLink RX0 29 "MentorPairs$Circle" "beginners" "I", Cond.methodLink RX9 114 yX9_refused, Cond.instanceMethod yX9_refused, Cond.selects RX9 yX9_refused yX9_refused, Cond.initialized RX9, Cond.code yX9_refused cX9_refused 2 (some .int), Cond.fieldLink RX9 71 "MentorPairs" "latest" "I", Cond.methodLink RX9 191 yX9_isDay, Cond.static yX9_isDay, Cond.code yX9_isDay cX9_isDay 1 (some .boolean), Cond.instanceMethod yX3_add, Cond.initialized RX3, Cond.selects RX3 yX3_add yX3_add, Cond.code yX3_add cX3_add 3 (some .int), Cond.fieldLink RX3 9 "MentorPairs$Meetings" "beginnerOf" "[I", Cond.fieldLink RX3 28 "MentorPairs$Meetings" "many" "I", Cond.fieldLink RX3 15 "MentorPairs$Meetings" "dueOn" "[I", Cond.methodLink RX9 124 yX9_answered]
def wsX9_meeting_r2 : List Cond := [Cond.instanceMethod yX9_answered, Cond.selects RX9 yX9_answered yX9_answered, Cond.code yX9_answered cX9_answered 2 (some .int)]
def wsX9_meeting : List Cond := .code yX9_meeting cX9_meeting 3 (some .int) :: ((wsX9_meeting_r1 ++ wsX9_meeting_r2) ++ wsX90 ++ wsX30 ++ wsX00)
def wsX9_tell : List Cond := .code yX9_tell cX9_tell 4 (some .boolean) :: ([.fieldLink RX9 39 "MentorPairs" "meetings" "LMentorPairs$Meetings;", .instanceMethod yX3_isMeeting, .initialized RX3, .selects RX3 yX3_isMeeting yX3_isMeeting, .code yX3_isMeeting cX3_isMeeting 2 (some .boolean), .fieldLink RX3 28 "MentorPairs$Meetings" "many" "I", .methodLink RX9 80 yX9_finish, .instanceMethod yX9_finish, .selects RX9 yX9_finish yX9_finish, .initialized RX9, .code yX9_finish cX9_finish 2 (some .boolean), .fieldLink RX9 71 "MentorPairs" "latest" "I", .methodLink RX9 191 yX9_isDay, .static yX9_isDay, .code yX9_isDay cX9_isDay 1 (some .boolean), .instanceMethod yX3_addTelling, .selects RX3 yX3_addTelling yX3_addTelling, .code yX3_addTelling cX3_addTelling 4 none, .fieldLink RX3 18 "MentorPairs$Meetings" "toldMeeting" "[I", .fieldLink RX3 32 "MentorPairs$Meetings" "tellings" "I", .fieldLink RX3 24 "MentorPairs$Meetings" "toldKept" "[Z", .fieldLink RX3 21 "MentorPairs$Meetings" "toldDay" "[I"] ++ wsX90 ++ wsX30)
def wsX9_met_r1 : List Cond := [Cond.fieldLink RX9 18 "MentorPairs" "circle" "LMentorPairs$Circle;", Cond.fieldLink RX9 39 "MentorPairs" "meetings" "LMentorPairs$Meetings;", Cond.instanceMethod yX0_isBeginner, Cond.initialized RX0, Cond.selects RX0 yX0_isBeginner yX0_isBeginner, Cond.code yX0_isBeginner cX0_isBeginner 2 (some .boolean), Cond.fieldLink RX0 29 "MentorPairs$Circle" "beginners" "I", Cond.methodLink RX9 114 yX9_refused, Cond.instanceMethod yX9_refused, Cond.selects RX9 yX9_refused yX9_refused, Cond.initialized RX9, Cond.code yX9_refused cX9_refused 2 (some .int), Cond.fieldLink RX9 71 "MentorPairs" "latest" "I", Cond.methodLink RX9 191 yX9_isDay, Cond.static yX9_isDay, Cond.code yX9_isDay cX9_isDay 1 (some .boolean), Cond.instanceMethod yX3_count, Cond.initialized RX3, Cond.selects RX3 yX3_count yX3_count, Cond.code yX3_count cX3_count 6 (some .int), Cond.fieldLink RX3 28 "MentorPairs$Meetings" "many" "I", Cond.fieldLink RX3 9 "MentorPairs$Meetings" "beginnerOf" "[I", Cond.fieldLink RX3 15 "MentorPairs$Meetings" "dueOn" "[I", Cond.methodLink RX3 35 yX3_knownOn]
def wsX9_met_r2 : List Cond := [Cond.instanceMethod yX3_knownOn, Cond.selects RX3 yX3_knownOn yX3_knownOn, Cond.code yX3_knownOn cX3_knownOn 6 (some .int), Cond.fieldLink RX3 32 "MentorPairs$Meetings" "tellings" "I", Cond.fieldLink RX3 18 "MentorPairs$Meetings" "toldMeeting" "[I", Cond.fieldLink RX3 21 "MentorPairs$Meetings" "toldDay" "[I", Cond.fieldLink RX3 24 "MentorPairs$Meetings" "toldKept" "[Z", Cond.methodLink RX9 124 yX9_answered, Cond.instanceMethod yX9_answered, Cond.selects RX9 yX9_answered yX9_answered, Cond.code yX9_answered cX9_answered 2 (some .int)]
def wsX9_met : List Cond := .code yX9_met cX9_met 4 (some .int) :: ((wsX9_met_r1 ++ wsX9_met_r2) ++ wsX90 ++ wsX00 ++ wsX30)
def wsX9_goal_r1 : List Cond := [Cond.fieldLink RX9 18 "MentorPairs" "circle" "LMentorPairs$Circle;", Cond.fieldLink RX9 46 "MentorPairs" "goals" "LMentorPairs$Goals;", Cond.instanceMethod yX0_isBeginner, Cond.initialized RX0, Cond.selects RX0 yX0_isBeginner yX0_isBeginner, Cond.code yX0_isBeginner cX0_isBeginner 2 (some .boolean), Cond.fieldLink RX0 29 "MentorPairs$Circle" "beginners" "I", Cond.methodLink RX9 114 yX9_refused, Cond.instanceMethod yX9_refused, Cond.selects RX9 yX9_refused yX9_refused, Cond.initialized RX9, Cond.code yX9_refused cX9_refused 2 (some .int), Cond.fieldLink RX9 71 "MentorPairs" "latest" "I", Cond.instanceMethod yX2_isGoalOf, Cond.initialized RX2, Cond.selects RX2 yX2_isGoalOf yX2_isGoalOf, Cond.code yX2_isGoalOf cX2_isGoalOf 3 (some .boolean), Cond.fieldLink RX2 9 "MentorPairs$Goals" "beginnerOf" "[I", Cond.methodLink RX2 28 yX2_isGoal, Cond.instanceMethod yX2_isGoal, Cond.selects RX2 yX2_isGoal yX2_isGoal, Cond.code yX2_isGoal cX2_isGoal 2 (some .boolean), Cond.fieldLink RX2 24 "MentorPairs$Goals" "many" "I", Cond.methodLink RX9 191 yX9_isDay]
def wsX9_goal_r2 : List Cond := [Cond.static yX9_isDay, Cond.code yX9_isDay cX9_isDay 1 (some .boolean), Cond.instanceMethod yX2_add, Cond.selects RX2 yX2_add yX2_add, Cond.code yX2_add cX2_add 4 (some .int), Cond.fieldLink RX2 15 "MentorPairs$Goals" "dueOn" "[I", Cond.fieldLink RX2 18 "MentorPairs$Goals" "behindGoal" "[I", Cond.fieldLink RX2 21 "MentorPairs$Goals" "confirmedOn" "[I", Cond.methodLink RX9 124 yX9_answered, Cond.instanceMethod yX9_answered, Cond.selects RX9 yX9_answered yX9_answered, Cond.code yX9_answered cX9_answered 2 (some .int)]
def wsX9_goal : List Cond := .code yX9_goal cX9_goal 4 (some .int) :: ((wsX9_goal_r1 ++ wsX9_goal_r2) ++ wsX90 ++ wsX20 ++ wsX00)
def wsX9_confirm : List Cond := .code yX9_confirm cX9_confirm 3 (some .boolean) :: ([.fieldLink RX9 46 "MentorPairs" "goals" "LMentorPairs$Goals;", .instanceMethod yX2_isGoal, .initialized RX2, .selects RX2 yX2_isGoal yX2_isGoal, .code yX2_isGoal cX2_isGoal 2 (some .boolean), .fieldLink RX2 24 "MentorPairs$Goals" "many" "I", .methodLink RX9 80 yX9_finish, .instanceMethod yX9_finish, .selects RX9 yX9_finish yX9_finish, .initialized RX9, .code yX9_finish cX9_finish 2 (some .boolean), .fieldLink RX9 71 "MentorPairs" "latest" "I", .methodLink RX9 191 yX9_isDay, .static yX9_isDay, .code yX9_isDay cX9_isDay 1 (some .boolean)] ++ wsX90 ++ wsX20)
def wsX9_goalAt_r1 : List Cond := [Cond.fieldLink RX9 46 "MentorPairs" "goals" "LMentorPairs$Goals;", Cond.instanceMethod yX2_isGoal, Cond.initialized RX2, Cond.selects RX2 yX2_isGoal yX2_isGoal, Cond.code yX2_isGoal cX2_isGoal 2 (some .boolean), Cond.fieldLink RX2 24 "MentorPairs$Goals" "many" "I", Cond.methodLink RX9 114 yX9_refused, Cond.instanceMethod yX9_refused, Cond.selects RX9 yX9_refused yX9_refused, Cond.initialized RX9, Cond.code yX9_refused cX9_refused 2 (some .int), Cond.fieldLink RX9 71 "MentorPairs" "latest" "I", Cond.methodLink RX9 191 yX9_isDay, Cond.static yX9_isDay, Cond.code yX9_isDay cX9_isDay 1 (some .boolean), Cond.instanceMethod yX2_asOf, Cond.selects RX2 yX2_asOf yX2_asOf, Cond.code yX2_asOf cX2_asOf 3 (some .int), Cond.fieldLink RX2 15 "MentorPairs$Goals" "dueOn" "[I", Cond.methodLink RX2 32 yX2_isReached, Cond.instanceMethod yX2_isReached, Cond.selects RX2 yX2_isReached yX2_isReached, Cond.code yX2_isReached cX2_isReached 7 (some .boolean), Cond.fieldLink RX2 21 "MentorPairs$Goals" "confirmedOn" "[I"]
def wsX9_goalAt_r2 : List Cond := [Cond.fieldLink RX2 18 "MentorPairs$Goals" "behindGoal" "[I", Cond.methodLink RX9 124 yX9_answered, Cond.instanceMethod yX9_answered, Cond.selects RX9 yX9_answered yX9_answered, Cond.code yX9_answered cX9_answered 2 (some .int)]
def wsX9_goalAt : List Cond := .code yX9_goalAt cX9_goalAt 3 (some .int) :: ((wsX9_goalAt_r1 ++ wsX9_goalAt_r2) ++ wsX90 ++ wsX20)
def wsX9_run : List Cond := .code yX9_run cX9_run 3 (some .boolean) :: ([.fieldLink RX9 53 "MentorPairs" "runs" "LMentorPairs$Runs;", .methodLink RX9 80 yX9_finish, .instanceMethod yX9_finish, .selects RX9 yX9_finish yX9_finish, .initialized RX9, .code yX9_finish cX9_finish 2 (some .boolean), .fieldLink RX9 71 "MentorPairs" "latest" "I", .instanceMethod yX6_add, .initialized RX6, .selects RX6 yX6_add yX6_add, .code yX6_add cX6_add 3 none, .fieldLink RX6 9 "MentorPairs$Runs" "monthsOf" "[I", .fieldLink RX6 19 "MentorPairs$Runs" "many" "I", .fieldLink RX6 15 "MentorPairs$Runs" "hasEnded" "[Z"] ++ wsX90 ++ wsX60)
def wsX9_clear : List Cond := .code yX9_clear cX9_clear 1 (some .boolean) :: ([.fieldLink RX9 53 "MentorPairs" "runs" "LMentorPairs$Runs;", .methodLink RX9 80 yX9_finish, .instanceMethod yX9_finish, .selects RX9 yX9_finish yX9_finish, .initialized RX9, .code yX9_finish cX9_finish 2 (some .boolean), .fieldLink RX9 71 "MentorPairs" "latest" "I"] ++ wsX90 ++ wsX60)
def wsX9_lasts_r1 : List Cond := [Cond.fieldLink RX9 53 "MentorPairs" "runs" "LMentorPairs$Runs;", Cond.fieldLink RX9 67 "MentorPairs" "fraction" "LMentorPairs$Fraction;", Cond.methodLink RX9 80 yX9_finish, Cond.instanceMethod yX9_finish, Cond.selects RX9 yX9_finish yX9_finish, Cond.initialized RX9, Cond.code yX9_finish cX9_finish 2 (some .boolean), Cond.fieldLink RX9 71 "MentorPairs" "latest" "I", Cond.instanceMethod yX6_shareBeyond, Cond.initialized RX6, Cond.selects RX6 yX6_shareBeyond yX6_shareBeyond, Cond.code yX6_shareBeyond cX6_shareBeyond 10 none, Cond.methodLink RX6 23 yX6_countEnded, Cond.instanceMethod yX6_countEnded, Cond.selects RX6 yX6_countEnded yX6_countEnded, Cond.code yX6_countEnded cX6_countEnded 4 (some .int), Cond.fieldLink RX6 19 "MentorPairs$Runs" "many" "I", Cond.fieldLink RX6 15 "MentorPairs$Runs" "hasEnded" "[Z", Cond.fieldLink RX6 9 "MentorPairs$Runs" "monthsOf" "[I", Cond.methodLink RX6 27 yX6_countAtRisk, Cond.instanceMethod yX6_countAtRisk, Cond.selects RX6 yX6_countAtRisk yX6_countAtRisk, Cond.code yX6_countAtRisk cX6_countAtRisk 4 (some .int), Cond.instanceMethod yX1_become]
def wsX9_lasts_r2 : List Cond := [Cond.initialized RX1, Cond.selects RX1 yX1_become yX1_become, Cond.code yX1_become cX1_become 7 none, Cond.methodLink RX1 16 Lib.MathLoose.abs_long.x, Cond.static Lib.MathLoose.abs_long.x, Cond.initialized "java/lang/Math", Cond.code Lib.MathLoose.abs_long.x Lib.MathLoose.abs_long.code 2 (some .long), Cond.fieldLink RX1 7 "MentorPairs$Fraction" "above" "J", Cond.fieldLink RX1 13 "MentorPairs$Fraction" "below" "J", Cond.methodLink RX1 22 yX1_commonDivisor, Cond.static yX1_commonDivisor, Cond.code yX1_commonDivisor cX1_commonDivisor 11 (some .long)]
def wsX9_lasts : List Cond := .code yX9_lasts cX9_lasts 2 (some .boolean) :: ((wsX9_lasts_r1 ++ wsX9_lasts_r2) ++ wsX90 ++ wsX60 ++ wsX10)
def wsX9_upper : List Cond := .code yX9_upper cX9_upper 1 (some .long) :: ([.fieldLink RX9 67 "MentorPairs" "fraction" "LMentorPairs$Fraction;"] ++ wsX90 ++ wsX10)
def wsX9_lower : List Cond := .code yX9_lower cX9_lower 1 (some .long) :: ([.fieldLink RX9 67 "MentorPairs" "fraction" "LMentorPairs$Fraction;"] ++ wsX90 ++ wsX10)
def wsX9_trialFault : List Cond := .code yX9_trialFault cX9_trialFault 7 (some .int) :: ([.fieldLink RX9 11 "MentorPairs" "trays" "[LMentorPairs$Tray;", .methodLink RX9 266 yX9_trayFault, .instanceMethod yX9_trayFault, .selects RX9 yX9_trayFault yX9_trayFault, .initialized RX9, .code yX9_trayFault cX9_trayFault 2 (some .int), .methodLink RX9 76 yX9_isTray, .static yX9_isTray, .code yX9_isTray cX9_isTray 1 (some .boolean), .instanceMethod yX7_hasPlaces, .initialized RX7, .selects RX7 yX7_hasPlaces yX7_hasPlaces, .code yX7_hasPlaces cX7_hasPlaces 3 (some .boolean), .fieldLink RX7 23 "MentorPairs$Tray" "length" "I", .instanceMethod yX7_hasOutcomes, .selects RX7 yX7_hasOutcomes yX7_hasOutcomes, .code yX7_hasOutcomes cX7_hasOutcomes 3 (some .boolean), .fieldLink RX7 9 "MentorPairs$Tray" "numbers" "[J", .constantLong RX7 36 (100)] ++ wsX90 ++ wsX70)
def wsX9_gain_r1 : List Cond := [Cond.fieldLink RX9 60 "MentorPairs" "trial" "LMentorPairs$Trial;", Cond.fieldLink RX9 11 "MentorPairs" "trays" "[LMentorPairs$Tray;", Cond.fieldLink RX9 67 "MentorPairs" "fraction" "LMentorPairs$Fraction;", Cond.methodLink RX9 247 yX9_trialFault, Cond.instanceMethod yX9_trialFault, Cond.selects RX9 yX9_trialFault yX9_trialFault, Cond.initialized RX9, Cond.code yX9_trialFault cX9_trialFault 7 (some .int), Cond.methodLink RX9 266 yX9_trayFault, Cond.instanceMethod yX9_trayFault, Cond.selects RX9 yX9_trayFault yX9_trayFault, Cond.code yX9_trayFault cX9_trayFault 2 (some .int), Cond.methodLink RX9 76 yX9_isTray, Cond.static yX9_isTray, Cond.code yX9_isTray cX9_isTray 1 (some .boolean), Cond.instanceMethod yX7_hasPlaces, Cond.initialized RX7, Cond.selects RX7 yX7_hasPlaces yX7_hasPlaces, Cond.code yX7_hasPlaces cX7_hasPlaces 3 (some .boolean), Cond.fieldLink RX7 23 "MentorPairs$Tray" "length" "I", Cond.instanceMethod yX7_hasOutcomes, Cond.selects RX7 yX7_hasOutcomes yX7_hasOutcomes, Cond.code yX7_hasOutcomes cX7_hasOutcomes 3 (some .boolean), Cond.fieldLink RX7 9 "MentorPairs$Tray" "numbers" "[J"]
def wsX9_gain_r2 : List Cond := [Cond.constantLong RX7 36 (100), Cond.instanceMethod yX8_lay, Cond.initialized RX8, Cond.selects RX8 yX8_lay yX8_lay, Cond.code yX8_lay cX8_lay 3 none, Cond.fieldLink RX8 16 "MentorPairs$Trial" "many" "I", Cond.fieldLink RX8 9 "MentorPairs$Trial" "sumsOfFirst" "[J", Cond.fieldLink RX8 13 "MentorPairs$Trial" "sumsOfRest" "[J", Cond.methodLink RX8 20 yX8_laySums, Cond.instanceMethod yX8_laySums, Cond.selects RX8 yX8_laySums yX8_laySums, Cond.code yX8_laySums cX8_laySums 8 none, Cond.methodLink RX8 24 yJ6_numberOfTrailingZeros_0f7a4, Cond.static yJ6_numberOfTrailingZeros_0f7a4, Cond.initialized RJ6, Cond.code yJ6_numberOfTrailingZeros_0f7a4 cJ6_numberOfTrailingZeros_0f7a4 2 (some .int), Cond.constant RJ6 264 (65536), Cond.instanceMethod yX8_gainOf, Cond.selects RX8 yX8_gainOf yX8_gainOf, Cond.code yX8_gainOf cX8_gainOf 11 none, Cond.methodLink RX8 35 yJ6_bitCount_0f7a4, Cond.static yJ6_bitCount_0f7a4, Cond.code yJ6_bitCount_0f7a4 cJ6_bitCount_0f7a4 1 (some .int), Cond.constant RJ6 265 (1431655765)]
def wsX9_gain_r3 : List Cond := [Cond.constant RJ6 266 (858993459), Cond.constant RJ6 267 (252645135), Cond.methodLink RX8 38 yX8_sumOf, Cond.instanceMethod yX8_sumOf, Cond.selects RX8 yX8_sumOf yX8_sumOf, Cond.code yX8_sumOf cX8_sumOf 2 (some .long), Cond.instanceMethod yX1_become, Cond.initialized RX1, Cond.selects RX1 yX1_become yX1_become, Cond.code yX1_become cX1_become 7 none, Cond.methodLink RX1 16 Lib.MathLoose.abs_long.x, Cond.static Lib.MathLoose.abs_long.x, Cond.initialized "java/lang/Math", Cond.code Lib.MathLoose.abs_long.x Lib.MathLoose.abs_long.code 2 (some .long), Cond.fieldLink RX1 7 "MentorPairs$Fraction" "above" "J", Cond.fieldLink RX1 13 "MentorPairs$Fraction" "below" "J", Cond.methodLink RX1 22 yX1_commonDivisor, Cond.static yX1_commonDivisor, Cond.code yX1_commonDivisor cX1_commonDivisor 11 (some .long), Cond.methodLink RX9 80 yX9_finish, Cond.instanceMethod yX9_finish, Cond.selects RX9 yX9_finish yX9_finish, Cond.code yX9_finish cX9_finish 2 (some .boolean), Cond.fieldLink RX9 71 "MentorPairs" "latest" "I"]
def wsX9_gain : List Cond := .code yX9_gain cX9_gain 5 (some .boolean) :: ((wsX9_gain_r1 ++ (wsX9_gain_r2 ++ wsX9_gain_r3)) ++ wsX90 ++ wsX70 ++ wsX80 ++ wsX10)
def wsX9_chance_r1 : List Cond := [Cond.fieldLink RX9 60 "MentorPairs" "trial" "LMentorPairs$Trial;", Cond.fieldLink RX9 11 "MentorPairs" "trays" "[LMentorPairs$Tray;", Cond.fieldLink RX9 67 "MentorPairs" "fraction" "LMentorPairs$Fraction;", Cond.methodLink RX9 247 yX9_trialFault, Cond.instanceMethod yX9_trialFault, Cond.selects RX9 yX9_trialFault yX9_trialFault, Cond.initialized RX9, Cond.code yX9_trialFault cX9_trialFault 7 (some .int), Cond.methodLink RX9 266 yX9_trayFault, Cond.instanceMethod yX9_trayFault, Cond.selects RX9 yX9_trayFault yX9_trayFault, Cond.code yX9_trayFault cX9_trayFault 2 (some .int), Cond.methodLink RX9 76 yX9_isTray, Cond.static yX9_isTray, Cond.code yX9_isTray cX9_isTray 1 (some .boolean), Cond.instanceMethod yX7_hasPlaces, Cond.initialized RX7, Cond.selects RX7 yX7_hasPlaces yX7_hasPlaces, Cond.code yX7_hasPlaces cX7_hasPlaces 3 (some .boolean), Cond.fieldLink RX7 23 "MentorPairs$Tray" "length" "I", Cond.instanceMethod yX7_hasOutcomes, Cond.selects RX7 yX7_hasOutcomes yX7_hasOutcomes, Cond.code yX7_hasOutcomes cX7_hasOutcomes 3 (some .boolean), Cond.fieldLink RX7 9 "MentorPairs$Tray" "numbers" "[J"]
def wsX9_chance_r2 : List Cond := [Cond.constantLong RX7 36 (100), Cond.instanceMethod yX8_lay, Cond.initialized RX8, Cond.selects RX8 yX8_lay yX8_lay, Cond.code yX8_lay cX8_lay 3 none, Cond.fieldLink RX8 16 "MentorPairs$Trial" "many" "I", Cond.fieldLink RX8 9 "MentorPairs$Trial" "sumsOfFirst" "[J", Cond.fieldLink RX8 13 "MentorPairs$Trial" "sumsOfRest" "[J", Cond.methodLink RX8 20 yX8_laySums, Cond.instanceMethod yX8_laySums, Cond.selects RX8 yX8_laySums yX8_laySums, Cond.code yX8_laySums cX8_laySums 8 none, Cond.methodLink RX8 24 yJ6_numberOfTrailingZeros_0f7a4, Cond.static yJ6_numberOfTrailingZeros_0f7a4, Cond.initialized RJ6, Cond.code yJ6_numberOfTrailingZeros_0f7a4 cJ6_numberOfTrailingZeros_0f7a4 2 (some .int), Cond.constant RJ6 264 (65536), Cond.instanceMethod yX8_chanceOf, Cond.selects RX8 yX8_chanceOf yX8_chanceOf, Cond.code yX8_chanceOf cX8_chanceOf 10 none, Cond.methodLink RX8 35 yJ6_bitCount_0f7a4, Cond.static yJ6_bitCount_0f7a4, Cond.code yJ6_bitCount_0f7a4 cJ6_bitCount_0f7a4 1 (some .int), Cond.constant RJ6 265 (1431655765)]
def wsX9_chance_r3 : List Cond := [Cond.constant RJ6 266 (858993459), Cond.constant RJ6 267 (252645135), Cond.methodLink RX8 48 yX8_countSets, Cond.static yX8_countSets, Cond.code yX8_countSets cX8_countSets 4 (some .int), Cond.methodLink RX8 38 yX8_sumOf, Cond.instanceMethod yX8_sumOf, Cond.selects RX8 yX8_sumOf yX8_sumOf, Cond.code yX8_sumOf cX8_sumOf 2 (some .long), Cond.methodLink RX8 52 yX8_nextOfSameSize, Cond.static yX8_nextOfSameSize, Cond.code yX8_nextOfSameSize cX8_nextOfSameSize 4 (some .int), Cond.instanceMethod yX1_become, Cond.initialized RX1, Cond.selects RX1 yX1_become yX1_become, Cond.code yX1_become cX1_become 7 none, Cond.methodLink RX1 16 Lib.MathLoose.abs_long.x, Cond.static Lib.MathLoose.abs_long.x, Cond.initialized "java/lang/Math", Cond.code Lib.MathLoose.abs_long.x Lib.MathLoose.abs_long.code 2 (some .long), Cond.fieldLink RX1 7 "MentorPairs$Fraction" "above" "J", Cond.fieldLink RX1 13 "MentorPairs$Fraction" "below" "J", Cond.methodLink RX1 22 yX1_commonDivisor, Cond.static yX1_commonDivisor]
def wsX9_chance_r4 : List Cond := [Cond.code yX1_commonDivisor cX1_commonDivisor 11 (some .long), Cond.methodLink RX9 80 yX9_finish, Cond.instanceMethod yX9_finish, Cond.selects RX9 yX9_finish yX9_finish, Cond.code yX9_finish cX9_finish 2 (some .boolean), Cond.fieldLink RX9 71 "MentorPairs" "latest" "I"]
def wsX9_chance : List Cond := .code yX9_chance cX9_chance 5 (some .boolean) :: ((wsX9_chance_r1 ++ (wsX9_chance_r2 ++ (wsX9_chance_r3 ++ wsX9_chance_r4))) ++ wsX90 ++ wsX70 ++ wsX80 ++ wsX10)
def wsX9_draw : List Cond := .code yX9_draw cX9_draw 4 (some .int) :: ([.methodLink RX9 114 yX9_refused, .instanceMethod yX9_refused, .selects RX9 yX9_refused yX9_refused, .initialized RX9, .code yX9_refused cX9_refused 2 (some .int), .fieldLink RX9 71 "MentorPairs" "latest" "I", .static yX8_drawnSet, .initialized RX8, .code yX8_drawnSet cX8_drawnSet 8 (some .int), .constantLong RX8 55 (1103515245), .constantLong RX8 57 (12345), .constantLong RX8 59 (2147483647), .methodLink RX9 124 yX9_answered, .instanceMethod yX9_answered, .selects RX9 yX9_answered yX9_answered, .code yX9_answered cX9_answered 2 (some .int)] ++ wsX90)
def wsX10_init_r1 : List Cond := [Cond.methodLink RX10 1 objectInit, Cond.instanceMethod objectInit, Cond.code objectInit ⟨#[0xb1]⟩ 1 none, Cond.fieldLink RX10 7 "MentorPairsModel" "under" "J", Cond.arrayClass .int, Cond.fieldLink RX10 13 "MentorPairsModel" "traySort" "[I", Cond.fieldLink RX10 17 "MentorPairsModel" "trayMany" "[I", Cond.arrayClass .long, Cond.fieldLink RX10 20 "MentorPairsModel" "numbers" "[J", Cond.fieldLink RX10 24 "MentorPairsModel" "places" "[I", Cond.fieldLink RX10 27 "MentorPairsModel" "ofElder" "[I", Cond.fieldLink RX10 30 "MentorPairsModel" "ofBeginner" "[I", Cond.arrayClass .boolean, Cond.fieldLink RX10 33 "MentorPairsModel" "isBarred" "[Z", Cond.fieldLink RX10 37 "MentorPairsModel" "given" "[I", Cond.fieldLink RX10 40 "MentorPairsModel" "asks" "[I", Cond.fieldLink RX10 43 "MentorPairsModel" "steps" "[I", Cond.fieldLink RX10 46 "MentorPairsModel" "meetingOf" "[I", Cond.fieldLink RX10 49 "MentorPairsModel" "meetingDue" "[I", Cond.fieldLink RX10 52 "MentorPairsModel" "toldOf" "[I", Cond.fieldLink RX10 55 "MentorPairsModel" "toldDay" "[I", Cond.fieldLink RX10 58 "MentorPairsModel" "toldKept" "[Z", Cond.fieldLink RX10 61 "MentorPairsModel" "goalOf" "[I", Cond.fieldLink RX10 64 "MentorPairsModel" "goalDue" "[I"]
def wsX10_init_r2 : List Cond := [Cond.fieldLink RX10 67 "MentorPairsModel" "goalBehind" "[I", Cond.fieldLink RX10 70 "MentorPairsModel" "goalConfirmed" "[I", Cond.fieldLink RX10 73 "MentorPairsModel" "months" "[I", Cond.fieldLink RX10 76 "MentorPairsModel" "hasEnded" "[Z", Cond.fieldLink RX10 79 "MentorPairsModel" "free" "[Z"]
def wsX10_init : List Cond := .code yX10_init cX10_init 2 none :: ((wsX10_init_r1 ++ wsX10_init_r2) ++ wsX100)
def wsX10_status : List Cond := .code yX10_status cX10_status 1 (some .int) :: ([.fieldLink RX10 82 "MentorPairsModel" "thrown" "I", .fieldLink RX10 86 "MentorPairsModel" "status" "I"] ++ wsX100)
def wsX10_refuse : List Cond := .code yX10_refuse cX10_refuse 2 (some .int) :: ([.fieldLink RX10 86 "MentorPairsModel" "status" "I"] ++ wsX100)
def wsX10_no : List Cond := .code yX10_no cX10_no 2 (some .boolean) :: ([.fieldLink RX10 86 "MentorPairsModel" "status" "I"] ++ wsX100)
def wsX10_cut : List Cond := .code yX10_cut cX10_cut 3 (some .long) :: ([])
def wsX10_tray : List Cond := .code yX10_tray cX10_tray 5 (some .boolean) :: ([.fieldLink RX10 82 "MentorPairsModel" "thrown" "I", .fieldLink RX10 86 "MentorPairsModel" "status" "I", .fieldLink RX10 13 "MentorPairsModel" "traySort" "[I", .fieldLink RX10 17 "MentorPairsModel" "trayMany" "[I", .fieldLink RX10 20 "MentorPairsModel" "numbers" "[J", .methodLink RX10 89 yX10_no, .instanceMethod yX10_no, .selects RX10 yX10_no yX10_no, .initialized RX10, .code yX10_no cX10_no 2 (some .boolean)] ++ wsX100)
def wsX10_trayed : List Cond := .code yX10_trayed cX10_trayed 2 (some .int) :: ([.fieldLink RX10 17 "MentorPairsModel" "trayMany" "[I"] ++ wsX100)
def wsX10_placed : List Cond := .code yX10_placed cX10_placed 4 (some .int) :: ([.fieldLink RX10 17 "MentorPairsModel" "trayMany" "[I", .methodLink RX10 93 yX10_trayed, .instanceMethod yX10_trayed, .selects RX10 yX10_trayed yX10_trayed, .initialized RX10, .code yX10_trayed cX10_trayed 2 (some .int)] ++ wsX100)
def wsX10_write : List Cond := .code yX10_write cX10_write 5 (some .boolean) :: ([.fieldLink RX10 82 "MentorPairsModel" "thrown" "I", .fieldLink RX10 86 "MentorPairsModel" "status" "I", .fieldLink RX10 20 "MentorPairsModel" "numbers" "[J", .fieldLink RX10 13 "MentorPairsModel" "traySort" "[I", .methodLink RX10 97 yX10_placed, .instanceMethod yX10_placed, .selects RX10 yX10_placed yX10_placed, .initialized RX10, .code yX10_placed cX10_placed 4 (some .int), .fieldLink RX10 17 "MentorPairsModel" "trayMany" "[I", .methodLink RX10 93 yX10_trayed, .instanceMethod yX10_trayed, .selects RX10 yX10_trayed yX10_trayed, .code yX10_trayed cX10_trayed 2 (some .int), .methodLink RX10 101 yX10_cut, .static yX10_cut, .code yX10_cut cX10_cut 3 (some .long)] ++ wsX100)
def wsX10_read : List Cond := .code yX10_read cX10_read 3 (some .long) :: ([.fieldLink RX10 82 "MentorPairsModel" "thrown" "I", .fieldLink RX10 86 "MentorPairsModel" "status" "I", .constantLong RX10 105 (-1), .fieldLink RX10 20 "MentorPairsModel" "numbers" "[J", .methodLink RX10 97 yX10_placed, .instanceMethod yX10_placed, .selects RX10 yX10_placed yX10_placed, .initialized RX10, .code yX10_placed cX10_placed 4 (some .int), .fieldLink RX10 17 "MentorPairsModel" "trayMany" "[I", .methodLink RX10 93 yX10_trayed, .instanceMethod yX10_trayed, .selects RX10 yX10_trayed yX10_trayed, .code yX10_trayed cX10_trayed 2 (some .int)] ++ wsX100)
def wsX10_pour : List Cond := .code yX10_pour cX10_pour 9 (some .boolean) :: ([.fieldLink RX10 82 "MentorPairsModel" "thrown" "I", .fieldLink RX10 86 "MentorPairsModel" "status" "I", .fieldLink RX10 17 "MentorPairsModel" "trayMany" "[I", .fieldLink RX10 13 "MentorPairsModel" "traySort" "[I", .fieldLink RX10 20 "MentorPairsModel" "numbers" "[J", .methodLink RX10 89 yX10_no, .instanceMethod yX10_no, .selects RX10 yX10_no yX10_no, .initialized RX10, .code yX10_no cX10_no 2 (some .boolean)] ++ wsX100)
def wsX10_isElder : List Cond := .code yX10_isElder cX10_isElder 2 (some .boolean) :: ([.fieldLink RX10 107 "MentorPairsModel" "elders" "I"] ++ wsX100)
def wsX10_isBeginner : List Cond := .code yX10_isBeginner cX10_isBeginner 2 (some .boolean) :: ([.fieldLink RX10 110 "MentorPairsModel" "beginners" "I"] ++ wsX100)
def wsX10_elder : List Cond := .code yX10_elder cX10_elder 2 (some .int) :: ([.fieldLink RX10 82 "MentorPairsModel" "thrown" "I", .fieldLink RX10 86 "MentorPairsModel" "status" "I", .fieldLink RX10 107 "MentorPairsModel" "elders" "I", .fieldLink RX10 24 "MentorPairsModel" "places" "[I", .methodLink RX10 113 yX10_refuse, .instanceMethod yX10_refuse, .selects RX10 yX10_refuse yX10_refuse, .initialized RX10, .code yX10_refuse cX10_refuse 2 (some .int)] ++ wsX100)
def wsX10_beginner : List Cond := .code yX10_beginner cX10_beginner 1 (some .int) :: ([.fieldLink RX10 82 "MentorPairsModel" "thrown" "I", .fieldLink RX10 86 "MentorPairsModel" "status" "I", .fieldLink RX10 110 "MentorPairsModel" "beginners" "I", .fieldLink RX10 37 "MentorPairsModel" "given" "[I", .methodLink RX10 113 yX10_refuse, .instanceMethod yX10_refuse, .selects RX10 yX10_refuse yX10_refuse, .initialized RX10, .code yX10_refuse cX10_refuse 2 (some .int)] ++ wsX100)
def wsX10_places : List Cond := .code yX10_places cX10_places 3 (some .boolean) :: ([.fieldLink RX10 82 "MentorPairsModel" "thrown" "I", .fieldLink RX10 86 "MentorPairsModel" "status" "I", .fieldLink RX10 24 "MentorPairsModel" "places" "[I", .methodLink RX10 116 yX10_isElder, .instanceMethod yX10_isElder, .selects RX10 yX10_isElder yX10_isElder, .initialized RX10, .code yX10_isElder cX10_isElder 2 (some .boolean), .fieldLink RX10 107 "MentorPairsModel" "elders" "I", .methodLink RX10 89 yX10_no, .instanceMethod yX10_no, .selects RX10 yX10_no yX10_no, .code yX10_no cX10_no 2 (some .boolean)] ++ wsX100)
def wsX10_like : List Cond := .code yX10_like cX10_like 5 (some .boolean) :: ([.fieldLink RX10 82 "MentorPairsModel" "thrown" "I", .fieldLink RX10 86 "MentorPairsModel" "status" "I", .fieldLink RX10 27 "MentorPairsModel" "ofElder" "[I", .fieldLink RX10 30 "MentorPairsModel" "ofBeginner" "[I", .methodLink RX10 116 yX10_isElder, .instanceMethod yX10_isElder, .selects RX10 yX10_isElder yX10_isElder, .initialized RX10, .code yX10_isElder cX10_isElder 2 (some .boolean), .fieldLink RX10 107 "MentorPairsModel" "elders" "I", .methodLink RX10 119 yX10_isBeginner, .instanceMethod yX10_isBeginner, .selects RX10 yX10_isBeginner yX10_isBeginner, .code yX10_isBeginner cX10_isBeginner 2 (some .boolean), .fieldLink RX10 110 "MentorPairsModel" "beginners" "I", .methodLink RX10 89 yX10_no, .instanceMethod yX10_no, .selects RX10 yX10_no yX10_no, .code yX10_no cX10_no 2 (some .boolean)] ++ wsX100)
def wsX10_bar : List Cond := .code yX10_bar cX10_bar 4 (some .boolean) :: ([.fieldLink RX10 82 "MentorPairsModel" "thrown" "I", .fieldLink RX10 86 "MentorPairsModel" "status" "I", .fieldLink RX10 33 "MentorPairsModel" "isBarred" "[Z", .methodLink RX10 116 yX10_isElder, .instanceMethod yX10_isElder, .selects RX10 yX10_isElder yX10_isElder, .initialized RX10, .code yX10_isElder cX10_isElder 2 (some .boolean), .fieldLink RX10 107 "MentorPairsModel" "elders" "I", .methodLink RX10 119 yX10_isBeginner, .instanceMethod yX10_isBeginner, .selects RX10 yX10_isBeginner yX10_isBeginner, .code yX10_isBeginner cX10_isBeginner 2 (some .boolean), .fieldLink RX10 110 "MentorPairsModel" "beginners" "I", .methodLink RX10 89 yX10_no, .instanceMethod yX10_no, .selects RX10 yX10_no yX10_no, .code yX10_no cX10_no 2 (some .boolean)] ++ wsX100)
def wsX10_can : List Cond := .code yX10_can cX10_can 4 (some .boolean) :: ([.fieldLink RX10 27 "MentorPairsModel" "ofElder" "[I", .fieldLink RX10 30 "MentorPairsModel" "ofBeginner" "[I", .fieldLink RX10 33 "MentorPairsModel" "isBarred" "[Z"] ++ wsX100)
def wsX10_elderPrefers : List Cond := .code yX10_elderPrefers cX10_elderPrefers 6 (some .boolean) :: ([.fieldLink RX10 27 "MentorPairsModel" "ofElder" "[I"] ++ wsX100)
def wsX10_beginnerPrefers : List Cond := .code yX10_beginnerPrefers cX10_beginnerPrefers 6 (some .boolean) :: ([.fieldLink RX10 30 "MentorPairsModel" "ofBeginner" "[I"] ++ wsX100)
def wsX10_hasOf : List Cond := .code yX10_hasOf cX10_hasOf 4 (some .int) :: ([.fieldLink RX10 110 "MentorPairsModel" "beginners" "I", .fieldLink RX10 37 "MentorPairsModel" "given" "[I"] ++ wsX100)
def wsX10_worst : List Cond := .code yX10_worst cX10_worst 4 (some .int) :: ([.fieldLink RX10 110 "MentorPairsModel" "beginners" "I", .fieldLink RX10 37 "MentorPairsModel" "given" "[I", .methodLink RX10 122 yX10_elderPrefers, .instanceMethod yX10_elderPrefers, .selects RX10 yX10_elderPrefers yX10_elderPrefers, .initialized RX10, .code yX10_elderPrefers cX10_elderPrefers 6 (some .boolean), .fieldLink RX10 27 "MentorPairsModel" "ofElder" "[I"] ++ wsX100)
def wsX10_rank : List Cond := .code yX10_rank cX10_rank 5 (some .int) :: ([.fieldLink RX10 107 "MentorPairsModel" "elders" "I", .methodLink RX10 126 yX10_can, .instanceMethod yX10_can, .selects RX10 yX10_can yX10_can, .initialized RX10, .code yX10_can cX10_can 4 (some .boolean), .fieldLink RX10 27 "MentorPairsModel" "ofElder" "[I", .fieldLink RX10 30 "MentorPairsModel" "ofBeginner" "[I", .fieldLink RX10 33 "MentorPairsModel" "isBarred" "[Z", .methodLink RX10 130 yX10_beginnerPrefers, .instanceMethod yX10_beginnerPrefers, .selects RX10 yX10_beginnerPrefers yX10_beginnerPrefers, .code yX10_beginnerPrefers cX10_beginnerPrefers 6 (some .boolean)] ++ wsX100)
def wsX10_asked : List Cond := .code yX10_asked cX10_asked 4 (some .int) :: ([.fieldLink RX10 107 "MentorPairsModel" "elders" "I", .methodLink RX10 126 yX10_can, .instanceMethod yX10_can, .selects RX10 yX10_can yX10_can, .initialized RX10, .code yX10_can cX10_can 4 (some .boolean), .fieldLink RX10 27 "MentorPairsModel" "ofElder" "[I", .fieldLink RX10 30 "MentorPairsModel" "ofBeginner" "[I", .fieldLink RX10 33 "MentorPairsModel" "isBarred" "[Z", .methodLink RX10 133 yX10_rank, .instanceMethod yX10_rank, .selects RX10 yX10_rank yX10_rank, .code yX10_rank cX10_rank 5 (some .int), .methodLink RX10 130 yX10_beginnerPrefers, .instanceMethod yX10_beginnerPrefers, .selects RX10 yX10_beginnerPrefers yX10_beginnerPrefers, .code yX10_beginnerPrefers cX10_beginnerPrefers 6 (some .boolean)] ++ wsX100)
def wsX10_pair_r1 : List Cond := [Cond.fieldLink RX10 82 "MentorPairsModel" "thrown" "I", Cond.fieldLink RX10 86 "MentorPairsModel" "status" "I", Cond.fieldLink RX10 110 "MentorPairsModel" "beginners" "I", Cond.fieldLink RX10 37 "MentorPairsModel" "given" "[I", Cond.fieldLink RX10 40 "MentorPairsModel" "asks" "[I", Cond.fieldLink RX10 24 "MentorPairsModel" "places" "[I", Cond.fieldLink RX10 145 "MentorPairsModel" "isGiven" "Z", Cond.methodLink RX10 136 yX10_asked, Cond.instanceMethod yX10_asked, Cond.selects RX10 yX10_asked yX10_asked, Cond.initialized RX10, Cond.code yX10_asked cX10_asked 4 (some .int), Cond.fieldLink RX10 107 "MentorPairsModel" "elders" "I", Cond.methodLink RX10 126 yX10_can, Cond.instanceMethod yX10_can, Cond.selects RX10 yX10_can yX10_can, Cond.code yX10_can cX10_can 4 (some .boolean), Cond.fieldLink RX10 27 "MentorPairsModel" "ofElder" "[I", Cond.fieldLink RX10 30 "MentorPairsModel" "ofBeginner" "[I", Cond.fieldLink RX10 33 "MentorPairsModel" "isBarred" "[Z", Cond.methodLink RX10 133 yX10_rank, Cond.instanceMethod yX10_rank, Cond.selects RX10 yX10_rank yX10_rank, Cond.code yX10_rank cX10_rank 5 (some .int)]
def wsX10_pair_r2 : List Cond := [Cond.methodLink RX10 130 yX10_beginnerPrefers, Cond.instanceMethod yX10_beginnerPrefers, Cond.selects RX10 yX10_beginnerPrefers yX10_beginnerPrefers, Cond.code yX10_beginnerPrefers cX10_beginnerPrefers 6 (some .boolean), Cond.methodLink RX10 139 yX10_hasOf, Cond.instanceMethod yX10_hasOf, Cond.selects RX10 yX10_hasOf yX10_hasOf, Cond.code yX10_hasOf cX10_hasOf 4 (some .int), Cond.methodLink RX10 142 yX10_worst, Cond.instanceMethod yX10_worst, Cond.selects RX10 yX10_worst yX10_worst, Cond.code yX10_worst cX10_worst 4 (some .int), Cond.methodLink RX10 122 yX10_elderPrefers, Cond.instanceMethod yX10_elderPrefers, Cond.selects RX10 yX10_elderPrefers yX10_elderPrefers, Cond.code yX10_elderPrefers cX10_elderPrefers 6 (some .boolean)]
def wsX10_pair : List Cond := .code yX10_pair cX10_pair 4 (some .int) :: ((wsX10_pair_r1 ++ wsX10_pair_r2) ++ wsX100)
def wsX10_elderOf : List Cond := .code yX10_elderOf cX10_elderOf 2 (some .int) :: ([.fieldLink RX10 82 "MentorPairsModel" "thrown" "I", .fieldLink RX10 86 "MentorPairsModel" "status" "I", .fieldLink RX10 145 "MentorPairsModel" "isGiven" "Z", .fieldLink RX10 37 "MentorPairsModel" "given" "[I", .methodLink RX10 119 yX10_isBeginner, .instanceMethod yX10_isBeginner, .selects RX10 yX10_isBeginner yX10_isBeginner, .initialized RX10, .code yX10_isBeginner cX10_isBeginner 2 (some .boolean), .fieldLink RX10 110 "MentorPairsModel" "beginners" "I", .methodLink RX10 113 yX10_refuse, .instanceMethod yX10_refuse, .selects RX10 yX10_refuse yX10_refuse, .code yX10_refuse cX10_refuse 2 (some .int)] ++ wsX100)
def wsX10_has : List Cond := .code yX10_has cX10_has 2 (some .int) :: ([.fieldLink RX10 82 "MentorPairsModel" "thrown" "I", .fieldLink RX10 86 "MentorPairsModel" "status" "I", .fieldLink RX10 145 "MentorPairsModel" "isGiven" "Z", .methodLink RX10 116 yX10_isElder, .instanceMethod yX10_isElder, .selects RX10 yX10_isElder yX10_isElder, .initialized RX10, .code yX10_isElder cX10_isElder 2 (some .boolean), .fieldLink RX10 107 "MentorPairsModel" "elders" "I", .methodLink RX10 113 yX10_refuse, .instanceMethod yX10_refuse, .selects RX10 yX10_refuse yX10_refuse, .code yX10_refuse cX10_refuse 2 (some .int), .methodLink RX10 139 yX10_hasOf, .instanceMethod yX10_hasOf, .selects RX10 yX10_hasOf yX10_hasOf, .code yX10_hasOf cX10_hasOf 4 (some .int), .fieldLink RX10 110 "MentorPairsModel" "beginners" "I", .fieldLink RX10 37 "MentorPairsModel" "given" "[I"] ++ wsX100)
def wsX10_isBlock_r1 : List Cond := [Cond.fieldLink RX10 37 "MentorPairsModel" "given" "[I", Cond.fieldLink RX10 24 "MentorPairsModel" "places" "[I", Cond.methodLink RX10 126 yX10_can, Cond.instanceMethod yX10_can, Cond.selects RX10 yX10_can yX10_can, Cond.initialized RX10, Cond.code yX10_can cX10_can 4 (some .boolean), Cond.fieldLink RX10 27 "MentorPairsModel" "ofElder" "[I", Cond.fieldLink RX10 30 "MentorPairsModel" "ofBeginner" "[I", Cond.fieldLink RX10 33 "MentorPairsModel" "isBarred" "[Z", Cond.methodLink RX10 130 yX10_beginnerPrefers, Cond.instanceMethod yX10_beginnerPrefers, Cond.selects RX10 yX10_beginnerPrefers yX10_beginnerPrefers, Cond.code yX10_beginnerPrefers cX10_beginnerPrefers 6 (some .boolean), Cond.methodLink RX10 139 yX10_hasOf, Cond.instanceMethod yX10_hasOf, Cond.selects RX10 yX10_hasOf yX10_hasOf, Cond.code yX10_hasOf cX10_hasOf 4 (some .int), Cond.fieldLink RX10 110 "MentorPairsModel" "beginners" "I", Cond.methodLink RX10 142 yX10_worst, Cond.instanceMethod yX10_worst, Cond.selects RX10 yX10_worst yX10_worst, Cond.code yX10_worst cX10_worst 4 (some .int), Cond.methodLink RX10 122 yX10_elderPrefers]
def wsX10_isBlock_r2 : List Cond := [Cond.instanceMethod yX10_elderPrefers, Cond.selects RX10 yX10_elderPrefers yX10_elderPrefers, Cond.code yX10_elderPrefers cX10_elderPrefers 6 (some .boolean)]
def wsX10_isBlock : List Cond := .code yX10_isBlock cX10_isBlock 4 (some .boolean) :: ((wsX10_isBlock_r1 ++ wsX10_isBlock_r2) ++ wsX100)
def wsX10_blocks_r1 : List Cond := [Cond.fieldLink RX10 82 "MentorPairsModel" "thrown" "I", Cond.fieldLink RX10 86 "MentorPairsModel" "status" "I", Cond.fieldLink RX10 145 "MentorPairsModel" "isGiven" "Z", Cond.fieldLink RX10 107 "MentorPairsModel" "elders" "I", Cond.fieldLink RX10 110 "MentorPairsModel" "beginners" "I", Cond.methodLink RX10 113 yX10_refuse, Cond.instanceMethod yX10_refuse, Cond.selects RX10 yX10_refuse yX10_refuse, Cond.initialized RX10, Cond.code yX10_refuse cX10_refuse 2 (some .int), Cond.methodLink RX10 149 yX10_isBlock, Cond.instanceMethod yX10_isBlock, Cond.selects RX10 yX10_isBlock yX10_isBlock, Cond.code yX10_isBlock cX10_isBlock 4 (some .boolean), Cond.fieldLink RX10 37 "MentorPairsModel" "given" "[I", Cond.fieldLink RX10 24 "MentorPairsModel" "places" "[I", Cond.methodLink RX10 126 yX10_can, Cond.instanceMethod yX10_can, Cond.selects RX10 yX10_can yX10_can, Cond.code yX10_can cX10_can 4 (some .boolean), Cond.fieldLink RX10 27 "MentorPairsModel" "ofElder" "[I", Cond.fieldLink RX10 30 "MentorPairsModel" "ofBeginner" "[I", Cond.fieldLink RX10 33 "MentorPairsModel" "isBarred" "[Z", Cond.methodLink RX10 130 yX10_beginnerPrefers]
def wsX10_blocks_r2 : List Cond := [Cond.instanceMethod yX10_beginnerPrefers, Cond.selects RX10 yX10_beginnerPrefers yX10_beginnerPrefers, Cond.code yX10_beginnerPrefers cX10_beginnerPrefers 6 (some .boolean), Cond.methodLink RX10 139 yX10_hasOf, Cond.instanceMethod yX10_hasOf, Cond.selects RX10 yX10_hasOf yX10_hasOf, Cond.code yX10_hasOf cX10_hasOf 4 (some .int), Cond.methodLink RX10 142 yX10_worst, Cond.instanceMethod yX10_worst, Cond.selects RX10 yX10_worst yX10_worst, Cond.code yX10_worst cX10_worst 4 (some .int), Cond.methodLink RX10 122 yX10_elderPrefers, Cond.instanceMethod yX10_elderPrefers, Cond.selects RX10 yX10_elderPrefers yX10_elderPrefers, Cond.code yX10_elderPrefers cX10_elderPrefers 6 (some .boolean)]
def wsX10_blocks : List Cond := .code yX10_blocks cX10_blocks 4 (some .int) :: ((wsX10_blocks_r1 ++ wsX10_blocks_r2) ++ wsX100)
def wsX10_block_r1 : List Cond := [Cond.fieldLink RX10 82 "MentorPairsModel" "thrown" "I", Cond.fieldLink RX10 86 "MentorPairsModel" "status" "I", Cond.fieldLink RX10 145 "MentorPairsModel" "isGiven" "Z", Cond.methodLink RX10 116 yX10_isElder, Cond.instanceMethod yX10_isElder, Cond.selects RX10 yX10_isElder yX10_isElder, Cond.initialized RX10, Cond.code yX10_isElder cX10_isElder 2 (some .boolean), Cond.fieldLink RX10 107 "MentorPairsModel" "elders" "I", Cond.methodLink RX10 119 yX10_isBeginner, Cond.instanceMethod yX10_isBeginner, Cond.selects RX10 yX10_isBeginner yX10_isBeginner, Cond.code yX10_isBeginner cX10_isBeginner 2 (some .boolean), Cond.fieldLink RX10 110 "MentorPairsModel" "beginners" "I", Cond.methodLink RX10 113 yX10_refuse, Cond.instanceMethod yX10_refuse, Cond.selects RX10 yX10_refuse yX10_refuse, Cond.code yX10_refuse cX10_refuse 2 (some .int), Cond.methodLink RX10 149 yX10_isBlock, Cond.instanceMethod yX10_isBlock, Cond.selects RX10 yX10_isBlock yX10_isBlock, Cond.code yX10_isBlock cX10_isBlock 4 (some .boolean), Cond.fieldLink RX10 37 "MentorPairsModel" "given" "[I", Cond.fieldLink RX10 24 "MentorPairsModel" "places" "[I"]
def wsX10_block_r2 : List Cond := [Cond.methodLink RX10 126 yX10_can, Cond.instanceMethod yX10_can, Cond.selects RX10 yX10_can yX10_can, Cond.code yX10_can cX10_can 4 (some .boolean), Cond.fieldLink RX10 27 "MentorPairsModel" "ofElder" "[I", Cond.fieldLink RX10 30 "MentorPairsModel" "ofBeginner" "[I", Cond.fieldLink RX10 33 "MentorPairsModel" "isBarred" "[Z", Cond.methodLink RX10 130 yX10_beginnerPrefers, Cond.instanceMethod yX10_beginnerPrefers, Cond.selects RX10 yX10_beginnerPrefers yX10_beginnerPrefers, Cond.code yX10_beginnerPrefers cX10_beginnerPrefers 6 (some .boolean), Cond.methodLink RX10 139 yX10_hasOf, Cond.instanceMethod yX10_hasOf, Cond.selects RX10 yX10_hasOf yX10_hasOf, Cond.code yX10_hasOf cX10_hasOf 4 (some .int), Cond.methodLink RX10 142 yX10_worst, Cond.instanceMethod yX10_worst, Cond.selects RX10 yX10_worst yX10_worst, Cond.code yX10_worst cX10_worst 4 (some .int), Cond.methodLink RX10 122 yX10_elderPrefers, Cond.instanceMethod yX10_elderPrefers, Cond.selects RX10 yX10_elderPrefers yX10_elderPrefers, Cond.code yX10_elderPrefers cX10_elderPrefers 6 (some .boolean)]
def wsX10_block : List Cond := .code yX10_block cX10_block 3 (some .int) :: ((wsX10_block_r1 ++ wsX10_block_r2) ++ wsX100)
def wsX10_isFree : List Cond := .code yX10_isFree cX10_isFree 3 (some .boolean) :: ([.fieldLink RX10 24 "MentorPairsModel" "places" "[I", .methodLink RX10 139 yX10_hasOf, .instanceMethod yX10_hasOf, .selects RX10 yX10_hasOf yX10_hasOf, .initialized RX10, .code yX10_hasOf cX10_hasOf 4 (some .int), .fieldLink RX10 110 "MentorPairsModel" "beginners" "I", .fieldLink RX10 37 "MentorPairsModel" "given" "[I"] ++ wsX100)
def wsX10_countSteps : List Cond := .code yX10_countSteps cX10_countSteps 5 none :: ([.fieldLink RX10 110 "MentorPairsModel" "beginners" "I", .fieldLink RX10 43 "MentorPairsModel" "steps" "[I", .fieldLink RX10 37 "MentorPairsModel" "given" "[I", .fieldLink RX10 107 "MentorPairsModel" "elders" "I", .methodLink RX10 126 yX10_can, .instanceMethod yX10_can, .selects RX10 yX10_can yX10_can, .initialized RX10, .code yX10_can cX10_can 4 (some .boolean), .fieldLink RX10 27 "MentorPairsModel" "ofElder" "[I", .fieldLink RX10 30 "MentorPairsModel" "ofBeginner" "[I", .fieldLink RX10 33 "MentorPairsModel" "isBarred" "[Z", .methodLink RX10 152 yX10_isFree, .instanceMethod yX10_isFree, .selects RX10 yX10_isFree yX10_isFree, .code yX10_isFree cX10_isFree 3 (some .boolean), .fieldLink RX10 24 "MentorPairsModel" "places" "[I", .methodLink RX10 139 yX10_hasOf, .instanceMethod yX10_hasOf, .selects RX10 yX10_hasOf yX10_hasOf, .code yX10_hasOf cX10_hasOf 4 (some .int)] ++ wsX100)
def wsX10_takes : List Cond := .code yX10_takes cX10_takes 5 (some .boolean) :: ([.fieldLink RX10 37 "MentorPairsModel" "given" "[I", .fieldLink RX10 79 "MentorPairsModel" "free" "[Z", .fieldLink RX10 110 "MentorPairsModel" "beginners" "I", .fieldLink RX10 43 "MentorPairsModel" "steps" "[I", .methodLink RX10 126 yX10_can, .instanceMethod yX10_can, .selects RX10 yX10_can yX10_can, .initialized RX10, .code yX10_can cX10_can 4 (some .boolean), .fieldLink RX10 27 "MentorPairsModel" "ofElder" "[I", .fieldLink RX10 30 "MentorPairsModel" "ofBeginner" "[I", .fieldLink RX10 33 "MentorPairsModel" "isBarred" "[Z"] ++ wsX100)
def wsX10_change_r1 : List Cond := [Cond.fieldLink RX10 82 "MentorPairsModel" "thrown" "I", Cond.fieldLink RX10 86 "MentorPairsModel" "status" "I", Cond.fieldLink RX10 145 "MentorPairsModel" "isGiven" "Z", Cond.fieldLink RX10 37 "MentorPairsModel" "given" "[I", Cond.fieldLink RX10 33 "MentorPairsModel" "isBarred" "[Z", Cond.fieldLink RX10 43 "MentorPairsModel" "steps" "[I", Cond.fieldLink RX10 107 "MentorPairsModel" "elders" "I", Cond.fieldLink RX10 79 "MentorPairsModel" "free" "[Z", Cond.fieldLink RX10 110 "MentorPairsModel" "beginners" "I", Cond.methodLink RX10 119 yX10_isBeginner, Cond.instanceMethod yX10_isBeginner, Cond.selects RX10 yX10_isBeginner yX10_isBeginner, Cond.initialized RX10, Cond.code yX10_isBeginner cX10_isBeginner 2 (some .boolean), Cond.methodLink RX10 113 yX10_refuse, Cond.instanceMethod yX10_refuse, Cond.selects RX10 yX10_refuse yX10_refuse, Cond.code yX10_refuse cX10_refuse 2 (some .int), Cond.methodLink RX10 155 yX10_countSteps, Cond.instanceMethod yX10_countSteps, Cond.selects RX10 yX10_countSteps yX10_countSteps, Cond.code yX10_countSteps cX10_countSteps 5 none, Cond.methodLink RX10 126 yX10_can, Cond.instanceMethod yX10_can]
def wsX10_change_r2 : List Cond := [Cond.selects RX10 yX10_can yX10_can, Cond.code yX10_can cX10_can 4 (some .boolean), Cond.fieldLink RX10 27 "MentorPairsModel" "ofElder" "[I", Cond.fieldLink RX10 30 "MentorPairsModel" "ofBeginner" "[I", Cond.methodLink RX10 152 yX10_isFree, Cond.instanceMethod yX10_isFree, Cond.selects RX10 yX10_isFree yX10_isFree, Cond.code yX10_isFree cX10_isFree 3 (some .boolean), Cond.fieldLink RX10 24 "MentorPairsModel" "places" "[I", Cond.methodLink RX10 139 yX10_hasOf, Cond.instanceMethod yX10_hasOf, Cond.selects RX10 yX10_hasOf yX10_hasOf, Cond.code yX10_hasOf cX10_hasOf 4 (some .int), Cond.methodLink RX10 159 yX10_takes, Cond.instanceMethod yX10_takes, Cond.selects RX10 yX10_takes yX10_takes, Cond.code yX10_takes cX10_takes 5 (some .boolean)]
def wsX10_change : List Cond := .code yX10_change cX10_change 11 (some .int) :: ((wsX10_change_r1 ++ wsX10_change_r2) ++ wsX100)
def wsX10_isDay : List Cond := .code yX10_isDay cX10_isDay 1 (some .boolean) :: ([])
def wsX10_meeting : List Cond := .code yX10_meeting cX10_meeting 3 (some .int) :: ([.fieldLink RX10 82 "MentorPairsModel" "thrown" "I", .fieldLink RX10 86 "MentorPairsModel" "status" "I", .fieldLink RX10 165 "MentorPairsModel" "meetings" "I", .fieldLink RX10 46 "MentorPairsModel" "meetingOf" "[I", .fieldLink RX10 49 "MentorPairsModel" "meetingDue" "[I", .methodLink RX10 119 yX10_isBeginner, .instanceMethod yX10_isBeginner, .selects RX10 yX10_isBeginner yX10_isBeginner, .initialized RX10, .code yX10_isBeginner cX10_isBeginner 2 (some .boolean), .fieldLink RX10 110 "MentorPairsModel" "beginners" "I", .methodLink RX10 113 yX10_refuse, .instanceMethod yX10_refuse, .selects RX10 yX10_refuse yX10_refuse, .code yX10_refuse cX10_refuse 2 (some .int), .methodLink RX10 162 yX10_isDay, .static yX10_isDay, .code yX10_isDay cX10_isDay 1 (some .boolean)] ++ wsX100)
def wsX10_tell : List Cond := .code yX10_tell cX10_tell 4 (some .boolean) :: ([.fieldLink RX10 82 "MentorPairsModel" "thrown" "I", .fieldLink RX10 86 "MentorPairsModel" "status" "I", .fieldLink RX10 165 "MentorPairsModel" "meetings" "I", .fieldLink RX10 49 "MentorPairsModel" "meetingDue" "[I", .fieldLink RX10 168 "MentorPairsModel" "told" "I", .fieldLink RX10 52 "MentorPairsModel" "toldOf" "[I", .fieldLink RX10 55 "MentorPairsModel" "toldDay" "[I", .fieldLink RX10 58 "MentorPairsModel" "toldKept" "[Z", .methodLink RX10 89 yX10_no, .instanceMethod yX10_no, .selects RX10 yX10_no yX10_no, .initialized RX10, .code yX10_no cX10_no 2 (some .boolean), .methodLink RX10 162 yX10_isDay, .static yX10_isDay, .code yX10_isDay cX10_isDay 1 (some .boolean)] ++ wsX100)
def wsX10_met : List Cond := .code yX10_met cX10_met 8 (some .int) :: ([.fieldLink RX10 82 "MentorPairsModel" "thrown" "I", .fieldLink RX10 86 "MentorPairsModel" "status" "I", .fieldLink RX10 165 "MentorPairsModel" "meetings" "I", .fieldLink RX10 46 "MentorPairsModel" "meetingOf" "[I", .fieldLink RX10 49 "MentorPairsModel" "meetingDue" "[I", .fieldLink RX10 168 "MentorPairsModel" "told" "I", .fieldLink RX10 52 "MentorPairsModel" "toldOf" "[I", .fieldLink RX10 55 "MentorPairsModel" "toldDay" "[I", .fieldLink RX10 58 "MentorPairsModel" "toldKept" "[Z", .methodLink RX10 119 yX10_isBeginner, .instanceMethod yX10_isBeginner, .selects RX10 yX10_isBeginner yX10_isBeginner, .initialized RX10, .code yX10_isBeginner cX10_isBeginner 2 (some .boolean), .fieldLink RX10 110 "MentorPairsModel" "beginners" "I", .methodLink RX10 113 yX10_refuse, .instanceMethod yX10_refuse, .selects RX10 yX10_refuse yX10_refuse, .code yX10_refuse cX10_refuse 2 (some .int), .methodLink RX10 162 yX10_isDay, .static yX10_isDay, .code yX10_isDay cX10_isDay 1 (some .boolean)] ++ wsX100)
def wsX10_goal : List Cond := .code yX10_goal cX10_goal 4 (some .int) :: ([.fieldLink RX10 82 "MentorPairsModel" "thrown" "I", .fieldLink RX10 86 "MentorPairsModel" "status" "I", .fieldLink RX10 171 "MentorPairsModel" "goals" "I", .fieldLink RX10 61 "MentorPairsModel" "goalOf" "[I", .fieldLink RX10 64 "MentorPairsModel" "goalDue" "[I", .fieldLink RX10 67 "MentorPairsModel" "goalBehind" "[I", .fieldLink RX10 70 "MentorPairsModel" "goalConfirmed" "[I", .methodLink RX10 119 yX10_isBeginner, .instanceMethod yX10_isBeginner, .selects RX10 yX10_isBeginner yX10_isBeginner, .initialized RX10, .code yX10_isBeginner cX10_isBeginner 2 (some .boolean), .fieldLink RX10 110 "MentorPairsModel" "beginners" "I", .methodLink RX10 113 yX10_refuse, .instanceMethod yX10_refuse, .selects RX10 yX10_refuse yX10_refuse, .code yX10_refuse cX10_refuse 2 (some .int), .methodLink RX10 162 yX10_isDay, .static yX10_isDay, .code yX10_isDay cX10_isDay 1 (some .boolean)] ++ wsX100)
def wsX10_confirm : List Cond := .code yX10_confirm cX10_confirm 3 (some .boolean) :: ([.fieldLink RX10 82 "MentorPairsModel" "thrown" "I", .fieldLink RX10 86 "MentorPairsModel" "status" "I", .fieldLink RX10 171 "MentorPairsModel" "goals" "I", .fieldLink RX10 70 "MentorPairsModel" "goalConfirmed" "[I", .methodLink RX10 89 yX10_no, .instanceMethod yX10_no, .selects RX10 yX10_no yX10_no, .initialized RX10, .code yX10_no cX10_no 2 (some .boolean), .methodLink RX10 162 yX10_isDay, .static yX10_isDay, .code yX10_isDay cX10_isDay 1 (some .boolean)] ++ wsX100)
def wsX10_isReached : List Cond := .code yX10_isReached cX10_isReached 5 (some .boolean) :: ([.fieldLink RX10 70 "MentorPairsModel" "goalConfirmed" "[I", .fieldLink RX10 64 "MentorPairsModel" "goalDue" "[I", .fieldLink RX10 67 "MentorPairsModel" "goalBehind" "[I"] ++ wsX100)
def wsX10_goalAt : List Cond := .code yX10_goalAt cX10_goalAt 3 (some .int) :: ([.fieldLink RX10 82 "MentorPairsModel" "thrown" "I", .fieldLink RX10 86 "MentorPairsModel" "status" "I", .fieldLink RX10 171 "MentorPairsModel" "goals" "I", .fieldLink RX10 64 "MentorPairsModel" "goalDue" "[I", .methodLink RX10 113 yX10_refuse, .instanceMethod yX10_refuse, .selects RX10 yX10_refuse yX10_refuse, .initialized RX10, .code yX10_refuse cX10_refuse 2 (some .int), .methodLink RX10 162 yX10_isDay, .static yX10_isDay, .code yX10_isDay cX10_isDay 1 (some .boolean), .methodLink RX10 174 yX10_isReached, .instanceMethod yX10_isReached, .selects RX10 yX10_isReached yX10_isReached, .code yX10_isReached cX10_isReached 5 (some .boolean), .fieldLink RX10 70 "MentorPairsModel" "goalConfirmed" "[I", .fieldLink RX10 67 "MentorPairsModel" "goalBehind" "[I"] ++ wsX100)
def wsX10_common : List Cond := .code yX10_common cX10_common 10 (some .long) :: ([.methodLink RX10 177 Lib.MathLoose.abs_long.x, .static Lib.MathLoose.abs_long.x, .initialized "java/lang/Math", .code Lib.MathLoose.abs_long.x Lib.MathLoose.abs_long.code 2 (some .long)])
def wsX10_tells : List Cond := .code yX10_tells cX10_tells 7 (some .boolean) :: ([.fieldLink RX10 187 "MentorPairsModel" "above" "J", .fieldLink RX10 7 "MentorPairsModel" "under" "J", .methodLink RX10 183 yX10_common, .static yX10_common, .initialized RX10, .code yX10_common cX10_common 10 (some .long), .methodLink RX10 177 Lib.MathLoose.abs_long.x, .static Lib.MathLoose.abs_long.x, .initialized "java/lang/Math", .code Lib.MathLoose.abs_long.x Lib.MathLoose.abs_long.code 2 (some .long)] ++ wsX100)
def wsX10_run : List Cond := .code yX10_run cX10_run 3 (some .boolean) :: ([.fieldLink RX10 82 "MentorPairsModel" "thrown" "I", .fieldLink RX10 86 "MentorPairsModel" "status" "I", .fieldLink RX10 190 "MentorPairsModel" "runs" "I", .fieldLink RX10 73 "MentorPairsModel" "months" "[I", .fieldLink RX10 76 "MentorPairsModel" "hasEnded" "[Z", .methodLink RX10 89 yX10_no, .instanceMethod yX10_no, .selects RX10 yX10_no yX10_no, .initialized RX10, .code yX10_no cX10_no 2 (some .boolean)] ++ wsX100)
def wsX10_clear : List Cond := .code yX10_clear cX10_clear 1 (some .boolean) :: ([.fieldLink RX10 82 "MentorPairsModel" "thrown" "I", .fieldLink RX10 86 "MentorPairsModel" "status" "I", .fieldLink RX10 190 "MentorPairsModel" "runs" "I"] ++ wsX100)
def wsX10_lasts : List Cond := .code yX10_lasts cX10_lasts 10 (some .boolean) :: ([.fieldLink RX10 82 "MentorPairsModel" "thrown" "I", .fieldLink RX10 86 "MentorPairsModel" "status" "I", .fieldLink RX10 190 "MentorPairsModel" "runs" "I", .fieldLink RX10 73 "MentorPairsModel" "months" "[I", .fieldLink RX10 76 "MentorPairsModel" "hasEnded" "[Z", .methodLink RX10 89 yX10_no, .instanceMethod yX10_no, .selects RX10 yX10_no yX10_no, .initialized RX10, .code yX10_no cX10_no 2 (some .boolean), .methodLink RX10 193 yX10_tells, .instanceMethod yX10_tells, .selects RX10 yX10_tells yX10_tells, .code yX10_tells cX10_tells 7 (some .boolean), .fieldLink RX10 187 "MentorPairsModel" "above" "J", .fieldLink RX10 7 "MentorPairsModel" "under" "J", .methodLink RX10 183 yX10_common, .static yX10_common, .code yX10_common cX10_common 10 (some .long), .methodLink RX10 177 Lib.MathLoose.abs_long.x, .static Lib.MathLoose.abs_long.x, .initialized "java/lang/Math", .code Lib.MathLoose.abs_long.x Lib.MathLoose.abs_long.code 2 (some .long)] ++ wsX100)
def wsX10_upper : List Cond := .code yX10_upper cX10_upper 1 (some .long) :: ([.fieldLink RX10 82 "MentorPairsModel" "thrown" "I", .fieldLink RX10 187 "MentorPairsModel" "above" "J"] ++ wsX100)
def wsX10_lower : List Cond := .code yX10_lower cX10_lower 1 (some .long) :: ([.fieldLink RX10 82 "MentorPairsModel" "thrown" "I", .fieldLink RX10 7 "MentorPairsModel" "under" "J"] ++ wsX100)
def wsX10_trial : List Cond := .code yX10_trial cX10_trial 6 (some .int) :: ([.fieldLink RX10 17 "MentorPairsModel" "trayMany" "[I", .fieldLink RX10 20 "MentorPairsModel" "numbers" "[J", .constantLong RX10 197 (100), .methodLink RX10 93 yX10_trayed, .instanceMethod yX10_trayed, .selects RX10 yX10_trayed yX10_trayed, .initialized RX10, .code yX10_trayed cX10_trayed 2 (some .int)] ++ wsX100)
def wsX10_sumOf : List Cond := .code yX10_sumOf cX10_sumOf 6 (some .int) :: ([.fieldLink RX10 20 "MentorPairsModel" "numbers" "[J"] ++ wsX100)
def wsX10_gain_r1 : List Cond := [Cond.fieldLink RX10 82 "MentorPairsModel" "thrown" "I", Cond.fieldLink RX10 86 "MentorPairsModel" "status" "I", Cond.methodLink RX10 199 yX10_trial, Cond.instanceMethod yX10_trial, Cond.selects RX10 yX10_trial yX10_trial, Cond.initialized RX10, Cond.code yX10_trial cX10_trial 6 (some .int), Cond.fieldLink RX10 17 "MentorPairsModel" "trayMany" "[I", Cond.fieldLink RX10 20 "MentorPairsModel" "numbers" "[J", Cond.constantLong RX10 197 (100), Cond.methodLink RX10 93 yX10_trayed, Cond.instanceMethod yX10_trayed, Cond.selects RX10 yX10_trayed yX10_trayed, Cond.code yX10_trayed cX10_trayed 2 (some .int), Cond.methodLink RX10 203 yJ6_bitCount_0f7a4, Cond.static yJ6_bitCount_0f7a4, Cond.initialized RJ6, Cond.code yJ6_bitCount_0f7a4 cJ6_bitCount_0f7a4 1 (some .int), Cond.constant RJ6 265 (1431655765), Cond.constant RJ6 266 (858993459), Cond.constant RJ6 267 (252645135), Cond.methodLink RX10 208 yX10_sumOf, Cond.instanceMethod yX10_sumOf, Cond.selects RX10 yX10_sumOf yX10_sumOf]
def wsX10_gain_r2 : List Cond := [Cond.code yX10_sumOf cX10_sumOf 6 (some .int), Cond.methodLink RX10 193 yX10_tells, Cond.instanceMethod yX10_tells, Cond.selects RX10 yX10_tells yX10_tells, Cond.code yX10_tells cX10_tells 7 (some .boolean), Cond.fieldLink RX10 187 "MentorPairsModel" "above" "J", Cond.fieldLink RX10 7 "MentorPairsModel" "under" "J", Cond.methodLink RX10 183 yX10_common, Cond.static yX10_common, Cond.code yX10_common cX10_common 10 (some .long), Cond.methodLink RX10 177 Lib.MathLoose.abs_long.x, Cond.static Lib.MathLoose.abs_long.x, Cond.initialized "java/lang/Math", Cond.code Lib.MathLoose.abs_long.x Lib.MathLoose.abs_long.code 2 (some .long)]
def wsX10_gain : List Cond := .code yX10_gain cX10_gain 9 (some .boolean) :: ((wsX10_gain_r1 ++ wsX10_gain_r2) ++ wsX100)
def wsX10_chance_r1 : List Cond := [Cond.fieldLink RX10 82 "MentorPairsModel" "thrown" "I", Cond.fieldLink RX10 86 "MentorPairsModel" "status" "I", Cond.methodLink RX10 199 yX10_trial, Cond.instanceMethod yX10_trial, Cond.selects RX10 yX10_trial yX10_trial, Cond.initialized RX10, Cond.code yX10_trial cX10_trial 6 (some .int), Cond.fieldLink RX10 17 "MentorPairsModel" "trayMany" "[I", Cond.fieldLink RX10 20 "MentorPairsModel" "numbers" "[J", Cond.constantLong RX10 197 (100), Cond.methodLink RX10 93 yX10_trayed, Cond.instanceMethod yX10_trayed, Cond.selects RX10 yX10_trayed yX10_trayed, Cond.code yX10_trayed cX10_trayed 2 (some .int), Cond.methodLink RX10 203 yJ6_bitCount_0f7a4, Cond.static yJ6_bitCount_0f7a4, Cond.initialized RJ6, Cond.code yJ6_bitCount_0f7a4 cJ6_bitCount_0f7a4 1 (some .int), Cond.constant RJ6 265 (1431655765), Cond.constant RJ6 266 (858993459), Cond.constant RJ6 267 (252645135), Cond.methodLink RX10 208 yX10_sumOf, Cond.instanceMethod yX10_sumOf, Cond.selects RX10 yX10_sumOf yX10_sumOf]
def wsX10_chance_r2 : List Cond := [Cond.code yX10_sumOf cX10_sumOf 6 (some .int), Cond.methodLink RX10 193 yX10_tells, Cond.instanceMethod yX10_tells, Cond.selects RX10 yX10_tells yX10_tells, Cond.code yX10_tells cX10_tells 7 (some .boolean), Cond.fieldLink RX10 187 "MentorPairsModel" "above" "J", Cond.fieldLink RX10 7 "MentorPairsModel" "under" "J", Cond.methodLink RX10 183 yX10_common, Cond.static yX10_common, Cond.code yX10_common cX10_common 10 (some .long), Cond.methodLink RX10 177 Lib.MathLoose.abs_long.x, Cond.static Lib.MathLoose.abs_long.x, Cond.initialized "java/lang/Math", Cond.code Lib.MathLoose.abs_long.x Lib.MathLoose.abs_long.code 2 (some .long)]
def wsX10_chance : List Cond := .code yX10_chance cX10_chance 9 (some .boolean) :: ((wsX10_chance_r1 ++ wsX10_chance_r2) ++ wsX100)
def wsX10_draw : List Cond := .code yX10_draw cX10_draw 9 (some .int) :: ([.fieldLink RX10 82 "MentorPairsModel" "thrown" "I", .fieldLink RX10 86 "MentorPairsModel" "status" "I", .constantLong RX10 211 (1103515245), .constantLong RX10 213 (12345), .constantLong RX10 215 (2147483647), .methodLink RX10 113 yX10_refuse, .instanceMethod yX10_refuse, .selects RX10 yX10_refuse yX10_refuse, .initialized RX10, .code yX10_refuse cX10_refuse 2 (some .int)] ++ wsX100)
def wsJ9_abs_067f4 : List Cond := .code yJ9_abs_067f4 cJ9_abs_067f4 2 (some .long) :: ([])
theorem inJ6 : ∀ w ∈ wsJ60, w ∈ lw_tbl := by decide +kernel
theorem inJ9 : ∀ w ∈ wsJ90, w ∈ lw_tbl := by decide +kernel
theorem inJ10 : ∀ w ∈ wsJ100, w ∈ lw_tbl := by decide +kernel
theorem inJ7 : ∀ w ∈ wsJ70, w ∈ lw_tbl := by decide +kernel
set_option maxRecDepth 20000 in
theorem ggX0_areTwo_X0_isElder : GoodIn wsX0_areTwo wsX0_isElder := goodIn_r _ [5, 6, 12, 13, 14, 15, 16, 17] (by decide +kernel) (by decide +kernel)
set_option maxRecDepth 20000 in
theorem gX0_areTwo_X0_isElder : GoodIn wsX0_areTwo (wsV RX0 32 RX0 yX0_isElder wsX0_isElder) := goodIn_app (goodIn_of _ (by decide +kernel)) ggX0_areTwo_X0_isElder
set_option maxRecDepth 20000 in
theorem ggX0_areTwo_X0_isBeginner : GoodIn wsX0_areTwo wsX0_isBeginner := goodIn_r _ [10, 11, 12, 13, 14, 15, 16, 17] (by decide +kernel) (by decide +kernel)
set_option maxRecDepth 20000 in
theorem gX0_areTwo_X0_isBeginner : GoodIn wsX0_areTwo (wsV RX0 36 RX0 yX0_isBeginner wsX0_isBeginner) := goodIn_app (goodIn_of _ (by decide +kernel)) ggX0_areTwo_X0_isBeginner
set_option maxRecDepth 20000 in
theorem ggX0_setLiking_X0_spot : GoodIn wsX0_setLiking wsX0_spot := goodIn_r _ [6] (by decide +kernel) (by decide +kernel)
set_option maxRecDepth 20000 in
theorem gX0_setLiking_X0_spot : GoodIn wsX0_setLiking (va_wsS RX0 39 yX0_spot wsX0_spot) := goodIn_app (goodIn_of _ (by decide +kernel)) ggX0_setLiking_X0_spot
set_option maxRecDepth 20000 in
theorem ggX0_isBarred_X0_spot : GoodIn wsX0_isBarred wsX0_spot := goodIn_r _ [5] (by decide +kernel) (by decide +kernel)
set_option maxRecDepth 20000 in
theorem gX0_isBarred_X0_spot : GoodIn wsX0_isBarred (va_wsS RX0 39 yX0_spot wsX0_spot) := goodIn_app (goodIn_of _ (by decide +kernel)) ggX0_isBarred_X0_spot
set_option maxRecDepth 20000 in
theorem ggX0_setBarred_X0_spot : GoodIn wsX0_setBarred wsX0_spot := goodIn_r _ [5] (by decide +kernel) (by decide +kernel)
set_option maxRecDepth 20000 in
theorem gX0_setBarred_X0_spot : GoodIn wsX0_setBarred (va_wsS RX0 39 yX0_spot wsX0_spot) := goodIn_app (goodIn_of _ (by decide +kernel)) ggX0_setBarred_X0_spot
set_option maxRecDepth 20000 in
theorem ggX0_canPair_X0_spot : GoodIn wsX0_canPair wsX0_spot := goodIn_r _ [7] (by decide +kernel) (by decide +kernel)
set_option maxRecDepth 20000 in
theorem gX0_canPair_X0_spot : GoodIn wsX0_canPair (va_wsS RX0 39 yX0_spot wsX0_spot) := goodIn_app (goodIn_of _ (by decide +kernel)) ggX0_canPair_X0_spot
set_option maxRecDepth 20000 in
theorem ggX0_beginnerPrefers_X0_spot : GoodIn wsX0_beginnerPrefers wsX0_spot := goodIn_r _ [5] (by decide +kernel) (by decide +kernel)
set_option maxRecDepth 20000 in
theorem gX0_beginnerPrefers_X0_spot : GoodIn wsX0_beginnerPrefers (va_wsS RX0 39 yX0_spot wsX0_spot) := goodIn_app (goodIn_of _ (by decide +kernel)) ggX0_beginnerPrefers_X0_spot
set_option maxRecDepth 20000 in
theorem ggX0_elderPrefers_X0_spot : GoodIn wsX0_elderPrefers wsX0_spot := goodIn_r _ [5] (by decide +kernel) (by decide +kernel)
set_option maxRecDepth 20000 in
theorem gX0_elderPrefers_X0_spot : GoodIn wsX0_elderPrefers (va_wsS RX0 39 yX0_spot wsX0_spot) := goodIn_app (goodIn_of _ (by decide +kernel)) ggX0_elderPrefers_X0_spot
set_option maxRecDepth 20000 in
theorem ggX1_become_X1_commonDivisor : GoodIn wsX1_become wsX1_commonDivisor := goodIn_r _ [10] (by decide +kernel) (by decide +kernel)
set_option maxRecDepth 20000 in
theorem gX1_become_X1_commonDivisor : GoodIn wsX1_become (va_wsS RX1 22 yX1_commonDivisor wsX1_commonDivisor) := goodIn_app (goodIn_of _ (by decide +kernel)) ggX1_become_X1_commonDivisor
set_option maxRecDepth 20000 in
theorem ggX2_isGoalOf_X2_isGoal : GoodIn wsX2_isGoalOf wsX2_isGoal := goodIn_r _ [6, 7, 8, 9, 10, 11, 12] (by decide +kernel) (by decide +kernel)
set_option maxRecDepth 20000 in
theorem gX2_isGoalOf_X2_isGoal : GoodIn wsX2_isGoalOf (wsV RX2 28 RX2 yX2_isGoal wsX2_isGoal) := goodIn_app (goodIn_of _ (by decide +kernel)) ggX2_isGoalOf_X2_isGoal
set_option maxRecDepth 20000 in
theorem ggX2_asOf_X2_isReached : GoodIn wsX2_asOf wsX2_isReached := goodIn_r _ [6, 7, 1, 8, 9, 10, 11, 12, 13] (by decide +kernel) (by decide +kernel)
set_option maxRecDepth 20000 in
theorem gX2_asOf_X2_isReached : GoodIn wsX2_asOf (wsV RX2 32 RX2 yX2_isReached wsX2_isReached) := goodIn_app (goodIn_of _ (by decide +kernel)) ggX2_asOf_X2_isReached
set_option maxRecDepth 20000 in
theorem ggX3_count_X3_knownOn : GoodIn wsX3_count wsX3_knownOn := goodIn_r _ [8, 9, 10, 11, 12, 13, 14, 15, 16, 17, 18, 19] (by decide +kernel) (by decide +kernel)
set_option maxRecDepth 20000 in
theorem gX3_count_X3_knownOn : GoodIn wsX3_count (wsV RX3 35 RX3 yX3_knownOn wsX3_knownOn) := goodIn_app (goodIn_of _ (by decide +kernel)) ggX3_count_X3_knownOn
set_option maxRecDepth 20000 in
theorem ggX4_init_J7_fill_53178 : GoodIn wsX4_init wsJ7_fill_53178 := goodIn_r _ [11] (by decide +kernel) (by decide +kernel)
set_option maxRecDepth 20000 in
theorem gX4_init_J7_fill_53178 : GoodIn wsX4_init (va_wsS RX4 22 yJ7_fill_53178 wsJ7_fill_53178) := goodIn_app (goodIn_of _ (by decide +kernel)) ggX4_init_J7_fill_53178
set_option maxRecDepth 20000 in
theorem ggX4_hasPlaceLeft_X4_countOf : GoodIn wsX4_hasPlaceLeft wsX4_countOf := goodIn_r _ [5, 6, 13, 14, 15] (by decide +kernel) (by decide +kernel)
set_option maxRecDepth 20000 in
theorem gX4_hasPlaceLeft_X4_countOf : GoodIn wsX4_hasPlaceLeft (wsV RX4 28 RX4 yX4_countOf wsX4_countOf) := goodIn_app (goodIn_of _ (by decide +kernel)) ggX4_hasPlaceLeft_X4_countOf
set_option maxRecDepth 20000 in
theorem ggX4_leastOf_X0_elderPrefers : GoodIn wsX4_leastOf wsX0_elderPrefers := goodIn_r _ [5, 6, 7, 8, 3, 9, 10, 11, 12, 13, 14, 15] (by decide +kernel) (by decide +kernel)
set_option maxRecDepth 20000 in
theorem gX4_leastOf_X0_elderPrefers_n41 : GoodIn wsX4_leastOf (wsX0_elderPrefers) := ggX4_leastOf_X0_elderPrefers
set_option maxRecDepth 20000 in
theorem ggX4_makeBest_J7_fill_53178 : GoodIn wsX4_makeBest wsJ7_fill_53178 := goodIn_r _ [7] (by decide +kernel) (by decide +kernel)
set_option maxRecDepth 20000 in
theorem gX4_makeBest_J7_fill_53178 : GoodIn wsX4_makeBest (va_wsS RX4 22 yJ7_fill_53178 wsJ7_fill_53178) := goodIn_app (goodIn_of _ (by decide +kernel)) ggX4_makeBest_J7_fill_53178
set_option maxRecDepth 20000 in
theorem ggX4_makeBest_X4_seat : GoodIn wsX4_makeBest wsX4_seat := goodIn_r _ [12, 3, 13, 14, 15, 11, 16, 17, 18, 19, 20, 21, 22, 23, 24, 25, 26, 27, 28, 29, 30, 31, 32, 33, 2, 34, 35, 36, 37, 38, 39, 40, 41, 42, 43, 44, 45, 46, 47, 48, 53, 54, 55, 56, 57, 58, 59, 60, 61] (by decide +kernel) (by decide +kernel)
set_option maxRecDepth 20000 in
theorem gX4_makeBest_X4_seat : GoodIn wsX4_makeBest (wsV RX4 45 RX4 yX4_seat wsX4_seat) := goodIn_app (goodIn_of _ (by decide +kernel)) ggX4_makeBest_X4_seat
set_option maxRecDepth 20000 in
theorem ggX4_makeBest_X4_countPairs : GoodIn wsX4_makeBest wsX4_countPairs := goodIn_r _ [52, 2, 53, 54, 55] (by decide +kernel) (by decide +kernel)
set_option maxRecDepth 20000 in
theorem gX4_makeBest_X4_countPairs : GoodIn wsX4_makeBest (wsV RX4 49 RX4 yX4_countPairs wsX4_countPairs) := goodIn_app (goodIn_of _ (by decide +kernel)) ggX4_makeBest_X4_countPairs
set_option maxRecDepth 20000 in
theorem ggX4_seat_X4_nextChoice : GoodIn wsX4_seat wsX4_nextChoice := goodIn_r _ [6, 1, 7, 8, 9, 10, 11, 12, 13, 14, 15, 16, 17, 18, 19, 40, 41, 42, 43, 44, 45, 46, 47, 48] (by decide +kernel) (by decide +kernel)
set_option maxRecDepth 20000 in
theorem gX4_seat_X4_nextChoice : GoodIn wsX4_seat (wsV RX4 53 RX4 yX4_nextChoice wsX4_nextChoice) := goodIn_app (goodIn_of _ (by decide +kernel)) ggX4_seat_X4_nextChoice
set_option maxRecDepth 20000 in
theorem ggX4_seat_X4_askFor : GoodIn wsX4_seat wsX4_askFor := goodIn_r _ [23, 24, 25, 26, 27, 5, 28, 29, 30, 31, 32, 33, 34, 35, 36, 37, 8, 38, 39, 11, 14, 15, 16, 40, 41, 42, 43, 44, 45, 46, 47, 48] (by decide +kernel) (by decide +kernel)
set_option maxRecDepth 20000 in
theorem gX4_seat_X4_askFor : GoodIn wsX4_seat (wsV RX4 57 RX4 yX4_askFor wsX4_askFor) := goodIn_app (goodIn_of _ (by decide +kernel)) ggX4_seat_X4_askFor
set_option maxRecDepth 20000 in
theorem ggX4_nextChoice_X0_canPair : GoodIn wsX4_nextChoice wsX0_canPair := goodIn_r _ [5, 6, 7, 8, 9, 10, 3, 11, 18, 19, 20, 21, 22, 23] (by decide +kernel) (by decide +kernel)
set_option maxRecDepth 20000 in
theorem gX4_nextChoice_X0_canPair_n64 : GoodIn wsX4_nextChoice (wsX0_canPair) := ggX4_nextChoice_X0_canPair
set_option maxRecDepth 20000 in
theorem ggX4_nextChoice_X0_beginnerPrefers : GoodIn wsX4_nextChoice wsX0_beginnerPrefers := goodIn_r _ [14, 7, 9, 10, 3, 11, 18, 19, 20, 21, 22, 23] (by decide +kernel) (by decide +kernel)
set_option maxRecDepth 20000 in
theorem gX4_nextChoice_X0_beginnerPrefers_n68 : GoodIn wsX4_nextChoice (wsX0_beginnerPrefers) := ggX4_nextChoice_X0_beginnerPrefers
set_option maxRecDepth 20000 in
theorem ggX4_askFor_X4_hasPlaceLeft : GoodIn wsX4_askFor wsX4_hasPlaceLeft := goodIn_r _ [6, 7, 8, 9, 5, 10, 1, 26, 27, 28, 29, 30, 31, 23, 24, 25] (by decide +kernel) (by decide +kernel)
set_option maxRecDepth 20000 in
theorem gX4_askFor_X4_hasPlaceLeft : GoodIn wsX4_askFor (wsV RX4 71 RX4 yX4_hasPlaceLeft wsX4_hasPlaceLeft) := goodIn_app (goodIn_of _ (by decide +kernel)) ggX4_askFor_X4_hasPlaceLeft
set_option maxRecDepth 20000 in
theorem ggX4_askFor_X4_leastOf : GoodIn wsX4_askFor wsX4_leastOf := goodIn_r _ [14, 1, 15, 16, 17, 18, 19, 20, 21, 22, 26, 27, 28, 29, 30, 31, 23, 24, 25] (by decide +kernel) (by decide +kernel)
set_option maxRecDepth 20000 in
theorem gX4_askFor_X4_leastOf : GoodIn wsX4_askFor (wsV RX4 75 RX4 yX4_leastOf wsX4_leastOf) := goodIn_app (goodIn_of _ (by decide +kernel)) ggX4_askFor_X4_leastOf
set_option maxRecDepth 20000 in
theorem ggX4_askFor_X0_elderPrefers : GoodIn wsX4_askFor wsX0_elderPrefers := goodIn_r _ [18, 19, 20, 21, 16, 22, 26, 27, 28, 29, 30, 31] (by decide +kernel) (by decide +kernel)
set_option maxRecDepth 20000 in
theorem gX4_askFor_X0_elderPrefers_n41 : GoodIn wsX4_askFor (wsX0_elderPrefers) := ggX4_askFor_X0_elderPrefers
set_option maxRecDepth 20000 in
theorem ggX4_isBlockedBy_X0_canPair : GoodIn wsX4_isBlockedBy wsX0_canPair := goodIn_r _ [5, 6, 7, 8, 9, 10, 3, 11, 34, 35, 36, 37, 38, 39] (by decide +kernel) (by decide +kernel)
set_option maxRecDepth 20000 in
theorem gX4_isBlockedBy_X0_canPair_n64 : GoodIn wsX4_isBlockedBy (wsX0_canPair) := ggX4_isBlockedBy_X0_canPair
set_option maxRecDepth 20000 in
theorem ggX4_isBlockedBy_X0_beginnerPrefers : GoodIn wsX4_isBlockedBy wsX0_beginnerPrefers := goodIn_r _ [14, 7, 9, 10, 3, 11, 34, 35, 36, 37, 38, 39] (by decide +kernel) (by decide +kernel)
set_option maxRecDepth 20000 in
theorem gX4_isBlockedBy_X0_beginnerPrefers_n68 : GoodIn wsX4_isBlockedBy (wsX0_beginnerPrefers) := ggX4_isBlockedBy_X0_beginnerPrefers
set_option maxRecDepth 20000 in
theorem ggX4_isBlockedBy_X4_hasPlaceLeft : GoodIn wsX4_isBlockedBy wsX4_hasPlaceLeft := goodIn_r _ [19, 20, 21, 22, 18, 23, 1, 34, 35, 36, 37, 38, 39, 31, 32, 33] (by decide +kernel) (by decide +kernel)
set_option maxRecDepth 20000 in
theorem gX4_isBlockedBy_X4_hasPlaceLeft : GoodIn wsX4_isBlockedBy (wsV RX4 71 RX4 yX4_hasPlaceLeft wsX4_hasPlaceLeft) := goodIn_app (goodIn_of _ (by decide +kernel)) ggX4_isBlockedBy_X4_hasPlaceLeft
set_option maxRecDepth 20000 in
theorem ggX4_isBlockedBy_X4_leastOf : GoodIn wsX4_isBlockedBy wsX4_leastOf := goodIn_r _ [27, 1, 28, 3, 29, 30, 6, 9, 10, 11, 34, 35, 36, 37, 38, 39, 31, 32, 33] (by decide +kernel) (by decide +kernel)
set_option maxRecDepth 20000 in
theorem gX4_isBlockedBy_X4_leastOf : GoodIn wsX4_isBlockedBy (wsV RX4 75 RX4 yX4_leastOf wsX4_leastOf) := goodIn_app (goodIn_of _ (by decide +kernel)) ggX4_isBlockedBy_X4_leastOf
set_option maxRecDepth 20000 in
theorem ggX4_isBlockedBy_X0_elderPrefers : GoodIn wsX4_isBlockedBy wsX0_elderPrefers := goodIn_r _ [30, 6, 9, 10, 3, 11, 34, 35, 36, 37, 38, 39] (by decide +kernel) (by decide +kernel)
set_option maxRecDepth 20000 in
theorem gX4_isBlockedBy_X0_elderPrefers_n41 : GoodIn wsX4_isBlockedBy (wsX0_elderPrefers) := ggX4_isBlockedBy_X0_elderPrefers
set_option maxRecDepth 20000 in
theorem ggX4_countBlocking_X4_isBlockedBy : GoodIn wsX4_countBlocking wsX4_isBlockedBy := goodIn_r _ [5, 6, 7, 8, 9, 10, 11, 12, 13, 14, 15, 16, 17, 18, 19, 20, 21, 22, 4, 23, 24, 25, 26, 27, 28, 29, 30, 31, 32, 33, 34, 41, 42, 43, 35, 36, 37, 38, 39, 40] (by decide +kernel) (by decide +kernel)
set_option maxRecDepth 20000 in
theorem gX4_countBlocking_X4_isBlockedBy : GoodIn wsX4_countBlocking (wsV RX4 78 RX4 yX4_isBlockedBy wsX4_isBlockedBy) := goodIn_app (goodIn_of _ (by decide +kernel)) ggX4_countBlocking_X4_isBlockedBy
set_option maxRecDepth 20000 in
theorem ggX5_findLast_J7_fill_53178 : GoodIn wsX5_findLast wsJ7_fill_53178 := goodIn_r _ [9] (by decide +kernel) (by decide +kernel)
set_option maxRecDepth 20000 in
theorem gX5_findLast_J7_fill_53178 : GoodIn wsX5_findLast (va_wsS RX5 28 yJ7_fill_53178 wsJ7_fill_53178) := goodIn_app (goodIn_of _ (by decide +kernel)) ggX5_findLast_J7_fill_53178
set_option maxRecDepth 20000 in
theorem ggX5_findLast_X5_freeElderFor : GoodIn wsX5_findLast wsX5_freeElderFor := goodIn_r _ [14, 15, 16, 13, 17, 18, 19, 20, 21, 22, 23, 24, 25, 26, 27, 28, 29, 30, 31, 2, 32, 33, 34, 35, 36, 50, 51, 52, 53, 54, 55, 56, 57, 58, 45, 46, 47, 48, 49] (by decide +kernel) (by decide +kernel)
set_option maxRecDepth 20000 in
theorem gX5_findLast_X5_freeElderFor : GoodIn wsX5_findLast (wsV RX5 34 RX5 yX5_freeElderFor wsX5_freeElderFor) := goodIn_app (goodIn_of _ (by decide +kernel)) ggX5_findLast_X5_freeElderFor
set_option maxRecDepth 20000 in
theorem ggX5_findLast_X5_queueLeavers : GoodIn wsX5_findLast wsX5_queueLeavers := goodIn_r _ [40, 15, 16, 13, 17, 18, 19, 20, 21, 22, 23, 24, 25, 26, 27, 41, 42, 43, 44, 2, 1, 4, 3, 50, 51, 52, 53, 54, 55, 56, 57, 58, 45, 46, 47, 48, 49] (by decide +kernel) (by decide +kernel)
set_option maxRecDepth 20000 in
theorem gX5_findLast_X5_queueLeavers : GoodIn wsX5_findLast (wsV RX5 38 RX5 yX5_queueLeavers wsX5_queueLeavers) := goodIn_app (goodIn_of _ (by decide +kernel)) ggX5_findLast_X5_queueLeavers
set_option maxRecDepth 20000 in
theorem ggX5_mayMove_X0_canPair : GoodIn wsX5_mayMove wsX0_canPair := goodIn_r _ [4, 5, 6, 7, 8, 9, 2, 10, 14, 15, 16, 17, 18, 19] (by decide +kernel) (by decide +kernel)
set_option maxRecDepth 20000 in
theorem gX5_mayMove_X0_canPair_n47 : GoodIn wsX5_mayMove (wsX0_canPair) := ggX5_mayMove_X0_canPair
set_option maxRecDepth 20000 in
theorem ggX5_freeElderFor_X5_mayMove : GoodIn wsX5_freeElderFor wsX5_mayMove := goodIn_r _ [4, 5, 6, 7, 8, 9, 10, 11, 12, 13, 14, 31, 32, 33, 25, 26, 27, 28, 29, 30] (by decide +kernel) (by decide +kernel)
set_option maxRecDepth 20000 in
theorem gX5_freeElderFor_X5_mayMove : GoodIn wsX5_freeElderFor (va_wsS RX5 56 yX5_mayMove wsX5_mayMove) := goodIn_app (goodIn_of _ (by decide +kernel)) ggX5_freeElderFor_X5_mayMove
set_option maxRecDepth 20000 in
theorem ggX5_freeElderFor_X5_isFree : GoodIn wsX5_freeElderFor wsX5_isFree := goodIn_r _ [18, 19, 20, 21, 22, 23, 24, 31, 32, 33, 34, 35, 36, 37, 38, 25, 26, 27, 28, 29, 30] (by decide +kernel) (by decide +kernel)
set_option maxRecDepth 20000 in
theorem gX5_freeElderFor_X5_isFree : GoodIn wsX5_freeElderFor (wsV RX5 60 RX5 yX5_isFree wsX5_isFree) := goodIn_app (goodIn_of _ (by decide +kernel)) ggX5_freeElderFor_X5_isFree
set_option maxRecDepth 20000 in
theorem ggX5_isFree_X4_countOf : GoodIn wsX5_isFree wsX4_countOf := goodIn_r _ [5, 6, 7, 8, 9] (by decide +kernel) (by decide +kernel)
set_option maxRecDepth 20000 in
theorem gX5_isFree_X4_countOf_n64 : GoodIn wsX5_isFree (wsX4_countOf) := ggX5_isFree_X4_countOf
set_option maxRecDepth 20000 in
theorem ggX5_queueLeavers_X5_mayMove : GoodIn wsX5_queueLeavers wsX5_mayMove := goodIn_r _ [4, 5, 6, 7, 8, 9, 10, 11, 12, 13, 14, 29, 30, 31, 23, 24, 25, 26, 27, 28] (by decide +kernel) (by decide +kernel)
set_option maxRecDepth 20000 in
theorem gX5_queueLeavers_X5_mayMove : GoodIn wsX5_queueLeavers (va_wsS RX5 56 yX5_mayMove wsX5_mayMove) := goodIn_app (goodIn_of _ (by decide +kernel)) ggX5_queueLeavers_X5_mayMove
set_option maxRecDepth 20000 in
theorem ggX5_queueLeavers_X5_queueLeaversOf : GoodIn wsX5_queueLeavers wsX5_queueLeaversOf := goodIn_r _ [18, 19, 20, 21, 22, 23, 24, 25, 26, 27, 28, 32, 33, 34, 35, 36, 29, 30, 31] (by decide +kernel) (by decide +kernel)
set_option maxRecDepth 20000 in
theorem gX5_queueLeavers_X5_queueLeaversOf : GoodIn wsX5_queueLeavers (wsV RX5 71 RX5 yX5_queueLeaversOf wsX5_queueLeaversOf) := goodIn_app (goodIn_of _ (by decide +kernel)) ggX5_queueLeavers_X5_queueLeaversOf
set_option maxRecDepth 20000 in
theorem ggX6_shareBeyond_X6_countEnded : GoodIn wsX6_shareBeyond wsX6_countEnded := goodIn_r _ [5, 6, 7, 8, 26, 27, 28] (by decide +kernel) (by decide +kernel)
set_option maxRecDepth 20000 in
theorem gX6_shareBeyond_X6_countEnded : GoodIn wsX6_shareBeyond (wsV RX6 23 RX6 yX6_countEnded wsX6_countEnded) := goodIn_app (goodIn_of _ (by decide +kernel)) ggX6_shareBeyond_X6_countEnded
set_option maxRecDepth 20000 in
theorem ggX6_shareBeyond_X6_countAtRisk : GoodIn wsX6_shareBeyond wsX6_countAtRisk := goodIn_r _ [12, 6, 8, 26, 27, 28] (by decide +kernel) (by decide +kernel)
set_option maxRecDepth 20000 in
theorem gX6_shareBeyond_X6_countAtRisk : GoodIn wsX6_shareBeyond (wsV RX6 27 RX6 yX6_countAtRisk wsX6_countAtRisk) := goodIn_app (goodIn_of _ (by decide +kernel)) ggX6_shareBeyond_X6_countAtRisk
set_option maxRecDepth 20000 in
theorem ggX6_shareBeyond_X1_become : GoodIn wsX6_shareBeyond wsX1_become := goodIn_r _ [16, 17, 18, 19, 20, 21, 22, 23, 24, 14, 25, 29, 30] (by decide +kernel) (by decide +kernel)
set_option maxRecDepth 20000 in
theorem gX6_shareBeyond_X1_become_n30 : GoodIn wsX6_shareBeyond (wsX1_become) := ggX6_shareBeyond_X1_become
set_option maxRecDepth 20000 in
theorem ggX7_make_J7_fill_d0a16 : GoodIn wsX7_make wsJ7_fill_d0a16 := goodIn_r _ [8] (by decide +kernel) (by decide +kernel)
set_option maxRecDepth 20000 in
theorem gX7_make_J7_fill_d0a16 : GoodIn wsX7_make (va_wsS RX7 26 yJ7_fill_d0a16 wsJ7_fill_d0a16) := goodIn_app (goodIn_of _ (by decide +kernel)) ggX7_make_J7_fill_d0a16
set_option maxRecDepth 20000 in
theorem ggX7_put_X7_cut : GoodIn wsX7_put wsX7_cut := goodIn_r _ [6, 7, 8, 9, 10, 11] (by decide +kernel) (by decide +kernel)
set_option maxRecDepth 20000 in
theorem gX7_put_X7_cut : GoodIn wsX7_put (wsV RX7 32 RX7 yX7_cut wsX7_cut) := goodIn_app (goodIn_of _ (by decide +kernel)) ggX7_put_X7_cut
set_option maxRecDepth 20000 in
theorem ggX8_lay_X8_laySums : GoodIn wsX8_lay wsX8_laySums := goodIn_r _ [8, 1, 9, 10, 11, 12, 13, 14, 15, 16, 17, 18, 19, 20] (by decide +kernel) (by decide +kernel)
set_option maxRecDepth 20000 in
theorem gX8_lay_X8_laySums : GoodIn wsX8_lay (wsV RX8 20 RX8 yX8_laySums wsX8_laySums) := goodIn_app (goodIn_of _ (by decide +kernel)) ggX8_lay_X8_laySums
set_option maxRecDepth 20000 in
theorem ggX8_laySums_J6_numberOfTrailingZeros_0f7a4 : GoodIn wsX8_laySums wsJ6_numberOfTrailingZeros_0f7a4 := goodIn_r _ [5, 6] (by decide +kernel) (by decide +kernel)
set_option maxRecDepth 20000 in
theorem gX8_laySums_J6_numberOfTrailingZeros_0f7a4 : GoodIn wsX8_laySums (va_wsS RX8 24 yJ6_numberOfTrailingZeros_0f7a4 wsJ6_numberOfTrailingZeros_0f7a4) := goodIn_app (goodIn_of _ (by decide +kernel)) ggX8_laySums_J6_numberOfTrailingZeros_0f7a4
set_option maxRecDepth 20000 in
theorem ggX8_gainOf_J6_bitCount_0f7a4 : GoodIn wsX8_gainOf wsJ6_bitCount_0f7a4 := goodIn_r _ [5, 6, 7, 8] (by decide +kernel) (by decide +kernel)
set_option maxRecDepth 20000 in
theorem gX8_gainOf_J6_bitCount_0f7a4 : GoodIn wsX8_gainOf (va_wsS RX8 35 yJ6_bitCount_0f7a4 wsJ6_bitCount_0f7a4) := goodIn_app (goodIn_of _ (by decide +kernel)) ggX8_gainOf_J6_bitCount_0f7a4
set_option maxRecDepth 20000 in
theorem ggX8_gainOf_X8_sumOf : GoodIn wsX8_gainOf wsX8_sumOf := goodIn_r _ [13, 14, 15, 29, 30, 31] (by decide +kernel) (by decide +kernel)
set_option maxRecDepth 20000 in
theorem gX8_gainOf_X8_sumOf : GoodIn wsX8_gainOf (wsV RX8 38 RX8 yX8_sumOf wsX8_sumOf) := goodIn_app (goodIn_of _ (by decide +kernel)) ggX8_gainOf_X8_sumOf
set_option maxRecDepth 20000 in
theorem ggX8_gainOf_X1_become : GoodIn wsX8_gainOf wsX1_become := goodIn_r _ [19, 20, 21, 22, 23, 24, 25, 26, 27, 17, 28, 32, 33] (by decide +kernel) (by decide +kernel)
set_option maxRecDepth 20000 in
theorem gX8_gainOf_X1_become_n42 : GoodIn wsX8_gainOf (wsX1_become) := ggX8_gainOf_X1_become
set_option maxRecDepth 20000 in
theorem ggX8_chanceOf_J6_bitCount_0f7a4 : GoodIn wsX8_chanceOf wsJ6_bitCount_0f7a4 := goodIn_r _ [5, 6, 7, 8] (by decide +kernel) (by decide +kernel)
set_option maxRecDepth 20000 in
theorem gX8_chanceOf_J6_bitCount_0f7a4 : GoodIn wsX8_chanceOf (va_wsS RX8 35 yJ6_bitCount_0f7a4 wsJ6_bitCount_0f7a4) := goodIn_app (goodIn_of _ (by decide +kernel)) ggX8_chanceOf_J6_bitCount_0f7a4
set_option maxRecDepth 20000 in
theorem ggX8_chanceOf_X8_countSets : GoodIn wsX8_chanceOf wsX8_countSets := goodIn_r _ [12] (by decide +kernel) (by decide +kernel)
set_option maxRecDepth 20000 in
theorem gX8_chanceOf_X8_countSets : GoodIn wsX8_chanceOf (va_wsS RX8 48 yX8_countSets wsX8_countSets) := goodIn_app (goodIn_of _ (by decide +kernel)) ggX8_chanceOf_X8_countSets
set_option maxRecDepth 20000 in
theorem ggX8_chanceOf_X8_sumOf : GoodIn wsX8_chanceOf wsX8_sumOf := goodIn_r _ [16, 17, 18, 39, 40, 41] (by decide +kernel) (by decide +kernel)
set_option maxRecDepth 20000 in
theorem gX8_chanceOf_X8_sumOf : GoodIn wsX8_chanceOf (wsV RX8 38 RX8 yX8_sumOf wsX8_sumOf) := goodIn_app (goodIn_of _ (by decide +kernel)) ggX8_chanceOf_X8_sumOf
set_option maxRecDepth 20000 in
theorem ggX8_chanceOf_X8_nextOfSameSize : GoodIn wsX8_chanceOf wsX8_nextOfSameSize := goodIn_r _ [21, 22, 23, 4, 24, 25] (by decide +kernel) (by decide +kernel)
set_option maxRecDepth 20000 in
theorem gX8_chanceOf_X8_nextOfSameSize : GoodIn wsX8_chanceOf (va_wsS RX8 52 yX8_nextOfSameSize wsX8_nextOfSameSize) := goodIn_app (goodIn_of _ (by decide +kernel)) ggX8_chanceOf_X8_nextOfSameSize
set_option maxRecDepth 20000 in
theorem ggX8_chanceOf_X1_become : GoodIn wsX8_chanceOf wsX1_become := goodIn_r _ [29, 30, 31, 32, 33, 34, 35, 36, 37, 27, 38, 42, 43] (by decide +kernel) (by decide +kernel)
set_option maxRecDepth 20000 in
theorem gX8_chanceOf_X1_become_n42 : GoodIn wsX8_chanceOf (wsX1_become) := ggX8_chanceOf_X1_become
set_option maxRecDepth 20000 in
theorem ggX8_nextOfSameSize_J6_numberOfTrailingZeros_0f7a4 : GoodIn wsX8_nextOfSameSize wsJ6_numberOfTrailingZeros_0f7a4 := goodIn_r _ [4, 5] (by decide +kernel) (by decide +kernel)
set_option maxRecDepth 20000 in
theorem gX8_nextOfSameSize_J6_numberOfTrailingZeros_0f7a4 : GoodIn wsX8_nextOfSameSize (va_wsS RX8 24 yJ6_numberOfTrailingZeros_0f7a4 wsJ6_numberOfTrailingZeros_0f7a4) := goodIn_app (goodIn_of _ (by decide +kernel)) ggX8_nextOfSameSize_J6_numberOfTrailingZeros_0f7a4
set_option maxRecDepth 20000 in
theorem ggX9_init_X0_init : GoodIn wsX9_init wsX0_init := goodIn_r _ [42, 43, 2, 3, 44, 45, 46, 47, 48, 49, 50, 51, 123, 124, 125, 126, 127, 128] (by decide +kernel) (by decide +kernel)
set_option maxRecDepth 20000 in
theorem gX9_init_X0_init_n17 : GoodIn wsX9_init (wsX0_init) := ggX9_init_X0_init
set_option maxRecDepth 20000 in
theorem ggX9_init_X4_init : GoodIn wsX9_init wsX4_init := goodIn_r _ [53, 54, 2, 3, 44, 55, 56, 57, 58, 59, 60, 61, 129, 130, 131] (by decide +kernel) (by decide +kernel)
set_option maxRecDepth 20000 in
theorem gX9_init_X4_init_n24 : GoodIn wsX9_init (wsX4_init) := ggX9_init_X4_init
set_option maxRecDepth 20000 in
theorem ggX9_init_X5_init : GoodIn wsX9_init wsX5_init := goodIn_r _ [63, 64, 2, 3, 44, 65, 66, 67, 68, 69, 132, 133, 134, 135, 136] (by decide +kernel) (by decide +kernel)
set_option maxRecDepth 20000 in
theorem gX9_init_X5_init_n31 : GoodIn wsX9_init (wsX5_init) := ggX9_init_X5_init
set_option maxRecDepth 20000 in
theorem ggX9_init_X3_init : GoodIn wsX9_init wsX3_init := goodIn_r _ [71, 72, 2, 3, 44, 73, 74, 75, 76, 48, 77, 78, 79, 137, 138, 139, 140, 141, 142, 143] (by decide +kernel) (by decide +kernel)
set_option maxRecDepth 20000 in
theorem gX9_init_X3_init_n38 : GoodIn wsX9_init (wsX3_init) := ggX9_init_X3_init
set_option maxRecDepth 20000 in
theorem ggX9_init_X2_init : GoodIn wsX9_init wsX2_init := goodIn_r _ [81, 82, 2, 3, 44, 83, 84, 85, 86, 87, 144, 145, 146, 147, 148] (by decide +kernel) (by decide +kernel)
set_option maxRecDepth 20000 in
theorem gX9_init_X2_init_n45 : GoodIn wsX9_init (wsX2_init) := ggX9_init_X2_init
set_option maxRecDepth 20000 in
theorem ggX9_init_X6_init : GoodIn wsX9_init wsX6_init := goodIn_r _ [89, 90, 2, 3, 44, 91, 48, 92, 93, 149, 150, 151] (by decide +kernel) (by decide +kernel)
set_option maxRecDepth 20000 in
theorem gX9_init_X6_init_n52 : GoodIn wsX9_init (wsX6_init) := ggX9_init_X6_init
set_option maxRecDepth 20000 in
theorem ggX9_init_X8_init : GoodIn wsX9_init wsX8_init := goodIn_r _ [95, 96, 2, 3, 97, 98, 99, 100, 152, 153, 154] (by decide +kernel) (by decide +kernel)
set_option maxRecDepth 20000 in
theorem gX9_init_X8_init_n59 : GoodIn wsX9_init (wsX8_init) := ggX9_init_X8_init
set_option maxRecDepth 20000 in
theorem ggX9_init_X1_init : GoodIn wsX9_init wsX1_init := goodIn_r _ [102, 103, 2, 3, 104, 105, 155, 156] (by decide +kernel) (by decide +kernel)
set_option maxRecDepth 20000 in
theorem gX9_init_X1_init_n66 : GoodIn wsX9_init (wsX1_init) := ggX9_init_X1_init
set_option maxRecDepth 20000 in
theorem ggX9_init_X7_init : GoodIn wsX9_init wsX7_init := goodIn_r _ [107, 108, 2, 3, 97, 109, 110, 111, 112, 157, 158, 159, 160] (by decide +kernel) (by decide +kernel)
set_option maxRecDepth 20000 in
theorem gX9_init_X7_init_n75 : GoodIn wsX9_init (wsX7_init) := ggX9_init_X7_init
set_option maxRecDepth 20000 in
theorem ggX9_tray_X9_isTray : GoodIn wsX9_tray wsX9_isTray := goodIn_r _ [5] (by decide +kernel) (by decide +kernel)
set_option maxRecDepth 20000 in
theorem gX9_tray_X9_isTray : GoodIn wsX9_tray (va_wsS RX9 76 yX9_isTray wsX9_isTray) := goodIn_app (goodIn_of _ (by decide +kernel)) ggX9_tray_X9_isTray
set_option maxRecDepth 20000 in
theorem ggX9_tray_X9_finish : GoodIn wsX9_tray wsX9_finish := goodIn_r _ [9, 10, 23, 24, 25, 26, 27, 28, 29, 30, 31, 32] (by decide +kernel) (by decide +kernel)
set_option maxRecDepth 20000 in
theorem gX9_tray_X9_finish : GoodIn wsX9_tray (wsV RX9 80 RX9 yX9_finish wsX9_finish) := goodIn_app (goodIn_of _ (by decide +kernel)) ggX9_tray_X9_finish
set_option maxRecDepth 20000 in
theorem ggX9_tray_X7_make : GoodIn wsX9_tray wsX7_make := goodIn_r _ [14, 15, 16, 17, 18, 19, 20, 21, 22, 33, 34, 35, 36] (by decide +kernel) (by decide +kernel)
set_option maxRecDepth 20000 in
theorem gX9_tray_X7_make_n83 : GoodIn wsX9_tray (wsX7_make) := ggX9_tray_X7_make
set_option maxRecDepth 20000 in
theorem ggX9_write_X9_placeFault : GoodIn wsX9_write wsX9_placeFault := goodIn_r _ [6, 1, 7, 8, 9, 5, 10, 11, 12, 13, 14, 15, 16, 17, 18, 33, 34, 35, 36, 37, 38, 39, 40, 41, 42, 43, 44, 45, 46] (by decide +kernel) (by decide +kernel)
set_option maxRecDepth 20000 in
theorem gX9_write_X9_placeFault : GoodIn wsX9_write (wsV RX9 87 RX9 yX9_placeFault wsX9_placeFault) := goodIn_app (goodIn_of _ (by decide +kernel)) ggX9_write_X9_placeFault
set_option maxRecDepth 20000 in
theorem ggX9_write_X7_put : GoodIn wsX9_write wsX7_put := goodIn_r _ [21, 22, 23, 24, 25, 15, 26, 27, 43, 44, 45, 46] (by decide +kernel) (by decide +kernel)
set_option maxRecDepth 20000 in
theorem gX9_write_X7_put_n91 : GoodIn wsX9_write (wsX7_put) := ggX9_write_X7_put
set_option maxRecDepth 20000 in
theorem ggX9_write_X9_finish : GoodIn wsX9_write wsX9_finish := goodIn_r _ [31, 32, 33, 34, 35, 36, 37, 38, 39, 40, 41, 42] (by decide +kernel) (by decide +kernel)
set_option maxRecDepth 20000 in
theorem gX9_write_X9_finish : GoodIn wsX9_write (wsV RX9 80 RX9 yX9_finish wsX9_finish) := goodIn_app (goodIn_of _ (by decide +kernel)) ggX9_write_X9_finish
set_option maxRecDepth 20000 in
theorem ggX9_read_X9_placeFault : GoodIn wsX9_read wsX9_placeFault := goodIn_r _ [7, 1, 8, 9, 10, 6, 11, 12, 13, 14, 15, 16, 17, 18, 19, 25, 26, 27, 28, 29, 30, 31, 32, 33, 34, 35, 36, 37, 38] (by decide +kernel) (by decide +kernel)
set_option maxRecDepth 20000 in
theorem gX9_read_X9_placeFault : GoodIn wsX9_read (wsV RX9 87 RX9 yX9_placeFault wsX9_placeFault) := goodIn_app (goodIn_of _ (by decide +kernel)) ggX9_read_X9_placeFault
set_option maxRecDepth 20000 in
theorem ggX9_read_X9_finish : GoodIn wsX9_read wsX9_finish := goodIn_r _ [23, 24, 25, 26, 27, 28, 29, 30, 31, 32, 33, 34] (by decide +kernel) (by decide +kernel)
set_option maxRecDepth 20000 in
theorem gX9_read_X9_finish : GoodIn wsX9_read (wsV RX9 80 RX9 yX9_finish wsX9_finish) := goodIn_app (goodIn_of _ (by decide +kernel)) ggX9_read_X9_finish
set_option maxRecDepth 20000 in
theorem ggX9_pour_X9_pourFault : GoodIn wsX9_pour wsX9_pourFault := goodIn_r _ [10, 1, 11, 12, 9, 13, 14, 15, 16, 17, 18, 24, 25, 26, 27, 28, 29, 30, 31, 32, 33, 34, 35, 36, 37] (by decide +kernel) (by decide +kernel)
set_option maxRecDepth 20000 in
theorem gX9_pour_X9_pourFault : GoodIn wsX9_pour (wsV RX9 101 RX9 yX9_pourFault wsX9_pourFault) := goodIn_app (goodIn_of _ (by decide +kernel)) ggX9_pour_X9_pourFault
set_option maxRecDepth 20000 in
theorem ggX9_pour_X9_finish : GoodIn wsX9_pour wsX9_finish := goodIn_r _ [22, 23, 24, 25, 26, 27, 28, 29, 30, 31, 32, 33] (by decide +kernel) (by decide +kernel)
set_option maxRecDepth 20000 in
theorem gX9_pour_X9_finish : GoodIn wsX9_pour (wsV RX9 80 RX9 yX9_finish wsX9_finish) := goodIn_app (goodIn_of _ (by decide +kernel)) ggX9_pour_X9_finish
set_option maxRecDepth 20000 in
theorem ggX9_elder_X9_isPlaces : GoodIn wsX9_elder wsX9_isPlaces := goodIn_r _ [5] (by decide +kernel) (by decide +kernel)
set_option maxRecDepth 20000 in
theorem gX9_elder_X9_isPlaces : GoodIn wsX9_elder (va_wsS RX9 111 yX9_isPlaces wsX9_isPlaces) := goodIn_app (goodIn_of _ (by decide +kernel)) ggX9_elder_X9_isPlaces
set_option maxRecDepth 20000 in
theorem ggX9_elder_X9_refused : GoodIn wsX9_elder wsX9_refused := goodIn_r _ [9, 10, 21, 22, 23, 24, 25, 26, 27, 28, 29, 30] (by decide +kernel) (by decide +kernel)
set_option maxRecDepth 20000 in
theorem gX9_elder_X9_refused : GoodIn wsX9_elder (wsV RX9 114 RX9 yX9_refused wsX9_refused) := goodIn_app (goodIn_of _ (by decide +kernel)) ggX9_elder_X9_refused
set_option maxRecDepth 20000 in
theorem ggX9_elder_X0_addElder : GoodIn wsX9_elder wsX0_addElder := goodIn_r _ [14, 15, 16, 31, 32, 33, 34, 35, 36] (by decide +kernel) (by decide +kernel)
set_option maxRecDepth 20000 in
theorem gX9_elder_X0_addElder_n121 : GoodIn wsX9_elder (wsX0_addElder) := ggX9_elder_X0_addElder
set_option maxRecDepth 20000 in
theorem ggX9_elder_X9_answered : GoodIn wsX9_elder wsX9_answered := goodIn_r _ [20, 10, 21, 22, 23, 24, 25, 26, 27, 28, 29, 30] (by decide +kernel) (by decide +kernel)
set_option maxRecDepth 20000 in
theorem gX9_elder_X9_answered : GoodIn wsX9_elder (wsV RX9 124 RX9 yX9_answered wsX9_answered) := goodIn_app (goodIn_of _ (by decide +kernel)) ggX9_elder_X9_answered
set_option maxRecDepth 20000 in
theorem ggX9_beginner_X9_refused : GoodIn wsX9_beginner wsX9_refused := goodIn_r _ [6, 7, 17, 18, 19, 20, 21, 22, 23, 24, 25, 26] (by decide +kernel) (by decide +kernel)
set_option maxRecDepth 20000 in
theorem gX9_beginner_X9_refused : GoodIn wsX9_beginner (wsV RX9 114 RX9 yX9_refused wsX9_refused) := goodIn_app (goodIn_of _ (by decide +kernel)) ggX9_beginner_X9_refused
set_option maxRecDepth 20000 in
theorem ggX9_beginner_X0_addBeginner : GoodIn wsX9_beginner wsX0_addBeginner := goodIn_r _ [11, 12, 27, 28, 29, 30, 31, 32] (by decide +kernel) (by decide +kernel)
set_option maxRecDepth 20000 in
theorem gX9_beginner_X0_addBeginner_n130 : GoodIn wsX9_beginner (wsX0_addBeginner) := ggX9_beginner_X0_addBeginner
set_option maxRecDepth 20000 in
theorem ggX9_beginner_X9_answered : GoodIn wsX9_beginner wsX9_answered := goodIn_r _ [16, 7, 17, 18, 19, 20, 21, 22, 23, 24, 25, 26] (by decide +kernel) (by decide +kernel)
set_option maxRecDepth 20000 in
theorem gX9_beginner_X9_answered : GoodIn wsX9_beginner (wsV RX9 124 RX9 yX9_answered wsX9_answered) := goodIn_app (goodIn_of _ (by decide +kernel)) ggX9_beginner_X9_answered
set_option maxRecDepth 20000 in
theorem ggX9_places_X0_isElder : GoodIn wsX9_places wsX0_isElder := goodIn_r _ [5, 6, 26, 27, 28, 29, 30, 31] (by decide +kernel) (by decide +kernel)
set_option maxRecDepth 20000 in
theorem gX9_places_X0_isElder_n134 : GoodIn wsX9_places (wsX0_isElder) := ggX9_places_X0_isElder
set_option maxRecDepth 20000 in
theorem ggX9_places_X9_finish : GoodIn wsX9_places wsX9_finish := goodIn_r _ [11, 12, 16, 17, 18, 19, 20, 21, 22, 23, 24, 25] (by decide +kernel) (by decide +kernel)
set_option maxRecDepth 20000 in
theorem gX9_places_X9_finish : GoodIn wsX9_places (wsV RX9 80 RX9 yX9_finish wsX9_finish) := goodIn_app (goodIn_of _ (by decide +kernel)) ggX9_places_X9_finish
set_option maxRecDepth 20000 in
theorem ggX9_places_X9_isPlaces : GoodIn wsX9_places wsX9_isPlaces := goodIn_r _ [15] (by decide +kernel) (by decide +kernel)
set_option maxRecDepth 20000 in
theorem gX9_places_X9_isPlaces : GoodIn wsX9_places (va_wsS RX9 111 yX9_isPlaces wsX9_isPlaces) := goodIn_app (goodIn_of _ (by decide +kernel)) ggX9_places_X9_isPlaces
set_option maxRecDepth 20000 in
theorem ggX9_like_X0_areTwo : GoodIn wsX9_like wsX0_areTwo := goodIn_r _ [5, 6, 7, 8, 3, 9, 10, 11, 12, 13, 14, 15, 40, 41, 42, 43, 44, 45] (by decide +kernel) (by decide +kernel)
set_option maxRecDepth 20000 in
theorem gX9_like_X0_areTwo_n141 : GoodIn wsX9_like (wsX0_areTwo) := ggX9_like_X0_areTwo
set_option maxRecDepth 20000 in
theorem ggX9_like_X9_finish : GoodIn wsX9_like wsX9_finish := goodIn_r _ [20, 21, 30, 31, 32, 33, 34, 35, 36, 37, 38, 39] (by decide +kernel) (by decide +kernel)
set_option maxRecDepth 20000 in
theorem gX9_like_X9_finish : GoodIn wsX9_like (wsV RX9 80 RX9 yX9_finish wsX9_finish) := goodIn_app (goodIn_of _ (by decide +kernel)) ggX9_like_X9_finish
set_option maxRecDepth 20000 in
theorem ggX9_like_X0_setLiking : GoodIn wsX9_like wsX0_setLiking := goodIn_r _ [24, 25, 26, 27, 28, 3, 29, 40, 41, 42, 43, 44, 45] (by decide +kernel) (by decide +kernel)
set_option maxRecDepth 20000 in
theorem gX9_like_X0_setLiking_n145 : GoodIn wsX9_like (wsX0_setLiking) := ggX9_like_X0_setLiking
set_option maxRecDepth 20000 in
theorem ggX9_bar_X0_areTwo : GoodIn wsX9_bar wsX0_areTwo := goodIn_r _ [5, 6, 7, 8, 3, 9, 10, 11, 12, 13, 14, 15, 42, 43, 44, 45, 46, 47] (by decide +kernel) (by decide +kernel)
set_option maxRecDepth 20000 in
theorem gX9_bar_X0_areTwo_n141 : GoodIn wsX9_bar (wsX0_areTwo) := ggX9_bar_X0_areTwo
set_option maxRecDepth 20000 in
theorem ggX9_bar_X9_finish : GoodIn wsX9_bar wsX9_finish := goodIn_r _ [20, 21, 32, 33, 34, 35, 36, 37, 38, 39, 40, 41] (by decide +kernel) (by decide +kernel)
set_option maxRecDepth 20000 in
theorem gX9_bar_X9_finish : GoodIn wsX9_bar (wsV RX9 80 RX9 yX9_finish wsX9_finish) := goodIn_app (goodIn_of _ (by decide +kernel)) ggX9_bar_X9_finish
set_option maxRecDepth 20000 in
theorem ggX9_bar_X0_isBarred : GoodIn wsX9_bar wsX0_isBarred := goodIn_r _ [24, 25, 26, 27, 3, 28, 42, 43, 44, 45, 46, 47] (by decide +kernel) (by decide +kernel)
set_option maxRecDepth 20000 in
theorem gX9_bar_X0_isBarred_n149 : GoodIn wsX9_bar (wsX0_isBarred) := ggX9_bar_X0_isBarred
set_option maxRecDepth 20000 in
theorem ggX9_bar_X0_setBarred : GoodIn wsX9_bar wsX0_setBarred := goodIn_r _ [31, 25, 26, 27, 3, 28, 42, 43, 44, 45, 46, 47] (by decide +kernel) (by decide +kernel)
set_option maxRecDepth 20000 in
theorem gX9_bar_X0_setBarred_n152 : GoodIn wsX9_bar (wsX0_setBarred) := ggX9_bar_X0_setBarred
set_option maxRecDepth 20000 in
theorem ggX9_pair_X4_makeBest : GoodIn wsX9_pair wsX4_makeBest := goodIn_r _ [6, 7, 8, 9, 10, 11, 12, 13, 14, 15, 16, 4, 17, 18, 19, 20, 21, 22, 23, 24, 25, 26, 27, 28, 29, 30, 31, 32, 33, 34, 35, 36, 37, 38, 39, 40, 41, 42, 43, 44, 45, 46, 47, 48, 49, 50, 51, 52, 53, 54, 55, 56, 57, 74, 75, 76, 77, 78, 79, 80, 81, 82] (by decide +kernel) (by decide +kernel)
set_option maxRecDepth 20000 in
theorem gX9_pair_X4_makeBest_n156 : GoodIn wsX9_pair (wsX4_makeBest) := ggX9_pair_X4_makeBest
set_option maxRecDepth 20000 in
theorem ggX9_pair_X9_answered : GoodIn wsX9_pair wsX9_answered := goodIn_r _ [62, 63, 64, 65, 66, 67, 68, 69, 70, 71, 72, 73] (by decide +kernel) (by decide +kernel)
set_option maxRecDepth 20000 in
theorem gX9_pair_X9_answered : GoodIn wsX9_pair (wsV RX9 124 RX9 yX9_answered wsX9_answered) := goodIn_app (goodIn_of _ (by decide +kernel)) ggX9_pair_X9_answered
set_option maxRecDepth 20000 in
theorem ggX9_elderOf_X9_pairedFault : GoodIn wsX9_elderOf wsX9_pairedFault := goodIn_r _ [6, 7, 1, 8, 9, 10, 11, 12, 22, 23, 24, 25, 26, 27, 28, 29, 30, 31, 32, 33, 34, 35, 36, 37, 38, 39, 40] (by decide +kernel) (by decide +kernel)
set_option maxRecDepth 20000 in
theorem gX9_elderOf_X9_pairedFault : GoodIn wsX9_elderOf (wsV RX9 160 RX9 yX9_pairedFault wsX9_pairedFault) := goodIn_app (goodIn_of _ (by decide +kernel)) ggX9_elderOf_X9_pairedFault
set_option maxRecDepth 20000 in
theorem ggX9_elderOf_X9_answered : GoodIn wsX9_elderOf wsX9_answered := goodIn_r _ [16, 17, 22, 23, 24, 25, 26, 27, 28, 29, 30, 31] (by decide +kernel) (by decide +kernel)
set_option maxRecDepth 20000 in
theorem gX9_elderOf_X9_answered : GoodIn wsX9_elderOf (wsV RX9 124 RX9 yX9_answered wsX9_answered) := goodIn_app (goodIn_of _ (by decide +kernel)) ggX9_elderOf_X9_answered
set_option maxRecDepth 20000 in
theorem ggX9_elderOf_X9_refused : GoodIn wsX9_elderOf wsX9_refused := goodIn_r _ [21, 17, 22, 23, 24, 25, 26, 27, 28, 29, 30, 31] (by decide +kernel) (by decide +kernel)
set_option maxRecDepth 20000 in
theorem gX9_elderOf_X9_refused : GoodIn wsX9_elderOf (wsV RX9 114 RX9 yX9_refused wsX9_refused) := goodIn_app (goodIn_of _ (by decide +kernel)) ggX9_elderOf_X9_refused
set_option maxRecDepth 20000 in
theorem ggX9_has_X0_isElder : GoodIn wsX9_has wsX0_isElder := goodIn_r _ [6, 7, 36, 37, 38, 39, 40, 41] (by decide +kernel) (by decide +kernel)
set_option maxRecDepth 20000 in
theorem gX9_has_X0_isElder_n134 : GoodIn wsX9_has (wsX0_isElder) := ggX9_has_X0_isElder
set_option maxRecDepth 20000 in
theorem ggX9_has_X9_refused : GoodIn wsX9_has wsX9_refused := goodIn_r _ [12, 13, 23, 24, 25, 26, 27, 28, 29, 30, 31, 32] (by decide +kernel) (by decide +kernel)
set_option maxRecDepth 20000 in
theorem gX9_has_X9_refused : GoodIn wsX9_has (wsV RX9 114 RX9 yX9_refused wsX9_refused) := goodIn_app (goodIn_of _ (by decide +kernel)) ggX9_has_X9_refused
set_option maxRecDepth 20000 in
theorem ggX9_has_X4_countOf : GoodIn wsX9_has wsX4_countOf := goodIn_r _ [17, 18, 33, 34, 35] (by decide +kernel) (by decide +kernel)
set_option maxRecDepth 20000 in
theorem gX9_has_X4_countOf_n170 : GoodIn wsX9_has (wsX4_countOf) := ggX9_has_X4_countOf
set_option maxRecDepth 20000 in
theorem ggX9_has_X9_answered : GoodIn wsX9_has wsX9_answered := goodIn_r _ [22, 13, 23, 24, 25, 26, 27, 28, 29, 30, 31, 32] (by decide +kernel) (by decide +kernel)
set_option maxRecDepth 20000 in
theorem gX9_has_X9_answered : GoodIn wsX9_has (wsV RX9 124 RX9 yX9_answered wsX9_answered) := goodIn_app (goodIn_of _ (by decide +kernel)) ggX9_has_X9_answered
set_option maxRecDepth 20000 in
theorem ggX9_blocks_X9_refused : GoodIn wsX9_blocks wsX9_refused := goodIn_r _ [7, 8, 50, 51, 52, 53, 54, 55, 56, 57, 58, 59] (by decide +kernel) (by decide +kernel)
set_option maxRecDepth 20000 in
theorem gX9_blocks_X9_refused : GoodIn wsX9_blocks (wsV RX9 114 RX9 yX9_refused wsX9_refused) := goodIn_app (goodIn_of _ (by decide +kernel)) ggX9_blocks_X9_refused
set_option maxRecDepth 20000 in
theorem ggX9_blocks_X4_countBlocking : GoodIn wsX9_blocks wsX4_countBlocking := goodIn_r _ [12, 13, 14, 15, 10, 16, 17, 18, 19, 20, 21, 22, 23, 24, 25, 26, 27, 28, 29, 30, 31, 32, 33, 34, 35, 36, 37, 38, 39, 40, 41, 42, 43, 44, 45, 63, 64, 65, 66, 67, 68, 60, 61, 62] (by decide +kernel) (by decide +kernel)
set_option maxRecDepth 20000 in
theorem gX9_blocks_X4_countBlocking_n173 : GoodIn wsX9_blocks (wsX4_countBlocking) := ggX9_blocks_X4_countBlocking
set_option maxRecDepth 20000 in
theorem ggX9_blocks_X9_answered : GoodIn wsX9_blocks wsX9_answered := goodIn_r _ [49, 8, 50, 51, 52, 53, 54, 55, 56, 57, 58, 59] (by decide +kernel) (by decide +kernel)
set_option maxRecDepth 20000 in
theorem gX9_blocks_X9_answered : GoodIn wsX9_blocks (wsV RX9 124 RX9 yX9_answered wsX9_answered) := goodIn_app (goodIn_of _ (by decide +kernel)) ggX9_blocks_X9_answered
set_option maxRecDepth 20000 in
theorem ggX9_block_X0_areTwo : GoodIn wsX9_block wsX0_areTwo := goodIn_r _ [6, 7, 8, 9, 4, 10, 11, 12, 13, 14, 15, 16, 72, 73, 74, 75, 76, 77] (by decide +kernel) (by decide +kernel)
set_option maxRecDepth 20000 in
theorem gX9_block_X0_areTwo_n141 : GoodIn wsX9_block (wsX0_areTwo) := ggX9_block_X0_areTwo
set_option maxRecDepth 20000 in
theorem ggX9_block_X9_refused : GoodIn wsX9_block wsX9_refused := goodIn_r _ [21, 22, 59, 60, 61, 62, 63, 64, 65, 66, 67, 68] (by decide +kernel) (by decide +kernel)
set_option maxRecDepth 20000 in
theorem gX9_block_X9_refused : GoodIn wsX9_block (wsV RX9 114 RX9 yX9_refused wsX9_refused) := goodIn_app (goodIn_of _ (by decide +kernel)) ggX9_block_X9_refused
set_option maxRecDepth 20000 in
theorem ggX9_block_X4_isBlockedBy : GoodIn wsX9_block wsX4_isBlockedBy := goodIn_r _ [26, 27, 28, 4, 29, 30, 31, 32, 33, 34, 35, 36, 37, 38, 39, 40, 41, 42, 24, 43, 44, 45, 46, 47, 48, 49, 50, 51, 52, 53, 54, 69, 70, 71, 72, 73, 74, 75, 76, 77] (by decide +kernel) (by decide +kernel)
set_option maxRecDepth 20000 in
theorem gX9_block_X4_isBlockedBy_n176 : GoodIn wsX9_block (wsX4_isBlockedBy) := ggX9_block_X4_isBlockedBy
set_option maxRecDepth 20000 in
theorem ggX9_block_X9_answered : GoodIn wsX9_block wsX9_answered := goodIn_r _ [58, 22, 59, 60, 61, 62, 63, 64, 65, 66, 67, 68] (by decide +kernel) (by decide +kernel)
set_option maxRecDepth 20000 in
theorem gX9_block_X9_answered : GoodIn wsX9_block (wsV RX9 124 RX9 yX9_answered wsX9_answered) := goodIn_app (goodIn_of _ (by decide +kernel)) ggX9_block_X9_answered
set_option maxRecDepth 20000 in
theorem ggX9_change_X9_pairedFault : GoodIn wsX9_change wsX9_pairedFault := goodIn_r _ [8, 3, 1, 9, 10, 11, 12, 13, 75, 76, 77, 78, 79, 80, 81, 82, 83, 84, 85, 86, 87, 88, 89, 90, 91, 92, 93] (by decide +kernel) (by decide +kernel)
set_option maxRecDepth 20000 in
theorem gX9_change_X9_pairedFault : GoodIn wsX9_change (wsV RX9 160 RX9 yX9_pairedFault wsX9_pairedFault) := goodIn_app (goodIn_of _ (by decide +kernel)) ggX9_change_X9_pairedFault
set_option maxRecDepth 20000 in
theorem ggX9_change_X9_refused : GoodIn wsX9_change wsX9_refused := goodIn_r _ [17, 18, 75, 76, 77, 78, 79, 80, 81, 82, 83, 84] (by decide +kernel) (by decide +kernel)
set_option maxRecDepth 20000 in
theorem gX9_change_X9_refused : GoodIn wsX9_change (wsV RX9 114 RX9 yX9_refused wsX9_refused) := goodIn_app (goodIn_of _ (by decide +kernel)) ggX9_change_X9_refused
set_option maxRecDepth 20000 in
theorem ggX9_change_X5_findLast : GoodIn wsX9_change wsX5_findLast := goodIn_r _ [22, 23, 24, 25, 26, 27, 28, 29, 30, 31, 32, 33, 34, 20, 35, 36, 37, 38, 39, 10, 40, 41, 42, 43, 44, 45, 46, 47, 48, 49, 50, 51, 52, 53, 54, 55, 56, 57, 58, 59, 60, 61, 62, 63, 64, 94, 95, 96, 97, 98, 88, 89, 90, 91, 92, 93, 85, 86, 87] (by decide +kernel) (by decide +kernel)
set_option maxRecDepth 20000 in
theorem gX9_change_X5_findLast_n180 : GoodIn wsX9_change (wsX5_findLast) := ggX9_change_X5_findLast
set_option maxRecDepth 20000 in
theorem ggX9_change_X0_setBarred : GoodIn wsX9_change wsX0_setBarred := goodIn_r _ [67, 44, 45, 46, 10, 47, 88, 89, 90, 91, 92, 93] (by decide +kernel) (by decide +kernel)
set_option maxRecDepth 20000 in
theorem gX9_change_X0_setBarred_n152 : GoodIn wsX9_change (wsX0_setBarred) := ggX9_change_X0_setBarred
set_option maxRecDepth 20000 in
theorem ggX9_change_X5_moveAll : GoodIn wsX9_change wsX5_moveAll := goodIn_r _ [70, 27, 23, 94, 95, 96, 97, 98, 85, 86, 87] (by decide +kernel) (by decide +kernel)
set_option maxRecDepth 20000 in
theorem gX9_change_X5_moveAll_n184 : GoodIn wsX9_change (wsX5_moveAll) := ggX9_change_X5_moveAll
set_option maxRecDepth 20000 in
theorem ggX9_change_X9_answered : GoodIn wsX9_change wsX9_answered := goodIn_r _ [74, 18, 75, 76, 77, 78, 79, 80, 81, 82, 83, 84] (by decide +kernel) (by decide +kernel)
set_option maxRecDepth 20000 in
theorem gX9_change_X9_answered : GoodIn wsX9_change (wsV RX9 124 RX9 yX9_answered wsX9_answered) := goodIn_app (goodIn_of _ (by decide +kernel)) ggX9_change_X9_answered
set_option maxRecDepth 20000 in
theorem ggX9_meeting_X0_isBeginner : GoodIn wsX9_meeting wsX0_isBeginner := goodIn_r _ [6, 7, 45, 46, 47, 48, 49, 50] (by decide +kernel) (by decide +kernel)
set_option maxRecDepth 20000 in
theorem gX9_meeting_X0_isBeginner_n188 : GoodIn wsX9_meeting (wsX0_isBeginner) := ggX9_meeting_X0_isBeginner
set_option maxRecDepth 20000 in
theorem ggX9_meeting_X9_refused : GoodIn wsX9_meeting wsX9_refused := goodIn_r _ [12, 13, 28, 29, 30, 31, 32, 33, 34, 35, 36, 37] (by decide +kernel) (by decide +kernel)
set_option maxRecDepth 20000 in
theorem gX9_meeting_X9_refused : GoodIn wsX9_meeting (wsV RX9 114 RX9 yX9_refused wsX9_refused) := goodIn_app (goodIn_of _ (by decide +kernel)) ggX9_meeting_X9_refused
set_option maxRecDepth 20000 in
theorem ggX9_meeting_X9_isDay : GoodIn wsX9_meeting wsX9_isDay := goodIn_r _ [16] (by decide +kernel) (by decide +kernel)
set_option maxRecDepth 20000 in
theorem gX9_meeting_X9_isDay : GoodIn wsX9_meeting (va_wsS RX9 191 yX9_isDay wsX9_isDay) := goodIn_app (goodIn_of _ (by decide +kernel)) ggX9_meeting_X9_isDay
set_option maxRecDepth 20000 in
theorem ggX9_meeting_X3_add : GoodIn wsX9_meeting wsX3_add := goodIn_r _ [20, 21, 22, 23, 38, 39, 40, 41, 42, 43, 44] (by decide +kernel) (by decide +kernel)
set_option maxRecDepth 20000 in
theorem gX9_meeting_X3_add_n197 : GoodIn wsX9_meeting (wsX3_add) := ggX9_meeting_X3_add
set_option maxRecDepth 20000 in
theorem ggX9_meeting_X9_answered : GoodIn wsX9_meeting wsX9_answered := goodIn_r _ [27, 13, 28, 29, 30, 31, 32, 33, 34, 35, 36, 37] (by decide +kernel) (by decide +kernel)
set_option maxRecDepth 20000 in
theorem gX9_meeting_X9_answered : GoodIn wsX9_meeting (wsV RX9 124 RX9 yX9_answered wsX9_answered) := goodIn_app (goodIn_of _ (by decide +kernel)) ggX9_meeting_X9_answered
set_option maxRecDepth 20000 in
theorem ggX9_tell_X3_isMeeting : GoodIn wsX9_tell wsX3_isMeeting := goodIn_r _ [5, 6, 33, 34, 35, 36, 37, 38, 39] (by decide +kernel) (by decide +kernel)
set_option maxRecDepth 20000 in
theorem gX9_tell_X3_isMeeting_n200 : GoodIn wsX9_tell (wsX3_isMeeting) := ggX9_tell_X3_isMeeting
set_option maxRecDepth 20000 in
theorem ggX9_tell_X9_finish : GoodIn wsX9_tell wsX9_finish := goodIn_r _ [11, 12, 23, 24, 25, 26, 27, 28, 29, 30, 31, 32] (by decide +kernel) (by decide +kernel)
set_option maxRecDepth 20000 in
theorem gX9_tell_X9_finish : GoodIn wsX9_tell (wsV RX9 80 RX9 yX9_finish wsX9_finish) := goodIn_app (goodIn_of _ (by decide +kernel)) ggX9_tell_X9_finish
set_option maxRecDepth 20000 in
theorem ggX9_tell_X9_isDay : GoodIn wsX9_tell wsX9_isDay := goodIn_r _ [15] (by decide +kernel) (by decide +kernel)
set_option maxRecDepth 20000 in
theorem gX9_tell_X9_isDay : GoodIn wsX9_tell (va_wsS RX9 191 yX9_isDay wsX9_isDay) := goodIn_app (goodIn_of _ (by decide +kernel)) ggX9_tell_X9_isDay
set_option maxRecDepth 20000 in
theorem ggX9_tell_X3_addTelling : GoodIn wsX9_tell wsX3_addTelling := goodIn_r _ [18, 19, 20, 21, 22, 33, 34, 35, 36, 37, 38, 39] (by decide +kernel) (by decide +kernel)
set_option maxRecDepth 20000 in
theorem gX9_tell_X3_addTelling_n209 : GoodIn wsX9_tell (wsX3_addTelling) := ggX9_tell_X3_addTelling
set_option maxRecDepth 20000 in
theorem ggX9_met_X0_isBeginner : GoodIn wsX9_met wsX0_isBeginner := goodIn_r _ [6, 7, 46, 47, 48, 49, 50, 51] (by decide +kernel) (by decide +kernel)
set_option maxRecDepth 20000 in
theorem gX9_met_X0_isBeginner_n188 : GoodIn wsX9_met (wsX0_isBeginner) := ggX9_met_X0_isBeginner
set_option maxRecDepth 20000 in
theorem ggX9_met_X9_refused : GoodIn wsX9_met wsX9_refused := goodIn_r _ [12, 13, 36, 37, 38, 39, 40, 41, 42, 43, 44, 45] (by decide +kernel) (by decide +kernel)
set_option maxRecDepth 20000 in
theorem gX9_met_X9_refused : GoodIn wsX9_met (wsV RX9 114 RX9 yX9_refused wsX9_refused) := goodIn_app (goodIn_of _ (by decide +kernel)) ggX9_met_X9_refused
set_option maxRecDepth 20000 in
theorem ggX9_met_X9_isDay : GoodIn wsX9_met wsX9_isDay := goodIn_r _ [16] (by decide +kernel) (by decide +kernel)
set_option maxRecDepth 20000 in
theorem gX9_met_X9_isDay : GoodIn wsX9_met (va_wsS RX9 191 yX9_isDay wsX9_isDay) := goodIn_app (goodIn_of _ (by decide +kernel)) ggX9_met_X9_isDay
set_option maxRecDepth 20000 in
theorem ggX9_met_X3_count : GoodIn wsX9_met wsX3_count := goodIn_r _ [20, 21, 22, 23, 24, 25, 26, 18, 27, 28, 29, 30, 31, 52, 53, 54, 55, 56, 57, 58] (by decide +kernel) (by decide +kernel)
set_option maxRecDepth 20000 in
theorem gX9_met_X3_count_n213 : GoodIn wsX9_met (wsX3_count) := ggX9_met_X3_count
set_option maxRecDepth 20000 in
theorem ggX9_met_X9_answered : GoodIn wsX9_met wsX9_answered := goodIn_r _ [35, 13, 36, 37, 38, 39, 40, 41, 42, 43, 44, 45] (by decide +kernel) (by decide +kernel)
set_option maxRecDepth 20000 in
theorem gX9_met_X9_answered : GoodIn wsX9_met (wsV RX9 124 RX9 yX9_answered wsX9_answered) := goodIn_app (goodIn_of _ (by decide +kernel)) ggX9_met_X9_answered
set_option maxRecDepth 20000 in
theorem ggX9_goal_X0_isBeginner : GoodIn wsX9_goal wsX0_isBeginner := goodIn_r _ [6, 7, 52, 53, 54, 55, 56, 57] (by decide +kernel) (by decide +kernel)
set_option maxRecDepth 20000 in
theorem gX9_goal_X0_isBeginner_n188 : GoodIn wsX9_goal (wsX0_isBeginner) := ggX9_goal_X0_isBeginner
set_option maxRecDepth 20000 in
theorem ggX9_goal_X9_refused : GoodIn wsX9_goal wsX9_refused := goodIn_r _ [12, 13, 37, 38, 39, 40, 41, 42, 43, 44, 45, 46] (by decide +kernel) (by decide +kernel)
set_option maxRecDepth 20000 in
theorem gX9_goal_X9_refused : GoodIn wsX9_goal (wsV RX9 114 RX9 yX9_refused wsX9_refused) := goodIn_app (goodIn_of _ (by decide +kernel)) ggX9_goal_X9_refused
set_option maxRecDepth 20000 in
theorem ggX9_goal_X2_isGoalOf : GoodIn wsX9_goal wsX2_isGoalOf := goodIn_r _ [17, 18, 19, 20, 21, 15, 22, 23, 47, 48, 49, 50, 51] (by decide +kernel) (by decide +kernel)
set_option maxRecDepth 20000 in
theorem gX9_goal_X2_isGoalOf_n217 : GoodIn wsX9_goal (wsX2_isGoalOf) := ggX9_goal_X2_isGoalOf
set_option maxRecDepth 20000 in
theorem ggX9_goal_X9_isDay : GoodIn wsX9_goal wsX9_isDay := goodIn_r _ [26] (by decide +kernel) (by decide +kernel)
set_option maxRecDepth 20000 in
theorem gX9_goal_X9_isDay : GoodIn wsX9_goal (va_wsS RX9 191 yX9_isDay wsX9_isDay) := goodIn_app (goodIn_of _ (by decide +kernel)) ggX9_goal_X9_isDay
set_option maxRecDepth 20000 in
theorem ggX9_goal_X2_add : GoodIn wsX9_goal wsX2_add := goodIn_r _ [29, 18, 23, 30, 31, 32, 47, 48, 49, 50, 51] (by decide +kernel) (by decide +kernel)
set_option maxRecDepth 20000 in
theorem gX9_goal_X2_add_n221 : GoodIn wsX9_goal (wsX2_add) := ggX9_goal_X2_add
set_option maxRecDepth 20000 in
theorem ggX9_goal_X9_answered : GoodIn wsX9_goal wsX9_answered := goodIn_r _ [36, 13, 37, 38, 39, 40, 41, 42, 43, 44, 45, 46] (by decide +kernel) (by decide +kernel)
set_option maxRecDepth 20000 in
theorem gX9_goal_X9_answered : GoodIn wsX9_goal (wsV RX9 124 RX9 yX9_answered wsX9_answered) := goodIn_app (goodIn_of _ (by decide +kernel)) ggX9_goal_X9_answered
set_option maxRecDepth 20000 in
theorem ggX9_confirm_X2_isGoal : GoodIn wsX9_confirm wsX2_isGoal := goodIn_r _ [5, 6, 26, 27, 28, 29, 30] (by decide +kernel) (by decide +kernel)
set_option maxRecDepth 20000 in
theorem gX9_confirm_X2_isGoal_n223 : GoodIn wsX9_confirm (wsX2_isGoal) := ggX9_confirm_X2_isGoal
set_option maxRecDepth 20000 in
theorem ggX9_confirm_X9_finish : GoodIn wsX9_confirm wsX9_finish := goodIn_r _ [11, 12, 16, 17, 18, 19, 20, 21, 22, 23, 24, 25] (by decide +kernel) (by decide +kernel)
set_option maxRecDepth 20000 in
theorem gX9_confirm_X9_finish : GoodIn wsX9_confirm (wsV RX9 80 RX9 yX9_finish wsX9_finish) := goodIn_app (goodIn_of _ (by decide +kernel)) ggX9_confirm_X9_finish
set_option maxRecDepth 20000 in
theorem ggX9_confirm_X9_isDay : GoodIn wsX9_confirm wsX9_isDay := goodIn_r _ [15] (by decide +kernel) (by decide +kernel)
set_option maxRecDepth 20000 in
theorem gX9_confirm_X9_isDay : GoodIn wsX9_confirm (va_wsS RX9 191 yX9_isDay wsX9_isDay) := goodIn_app (goodIn_of _ (by decide +kernel)) ggX9_confirm_X9_isDay
set_option maxRecDepth 20000 in
theorem ggX9_goalAt_X2_isGoal : GoodIn wsX9_goalAt wsX2_isGoal := goodIn_r _ [5, 6, 40, 41, 42, 43, 44] (by decide +kernel) (by decide +kernel)
set_option maxRecDepth 20000 in
theorem gX9_goalAt_X2_isGoal_n223 : GoodIn wsX9_goalAt (wsX2_isGoal) := ggX9_goalAt_X2_isGoal
set_option maxRecDepth 20000 in
theorem ggX9_goalAt_X9_refused : GoodIn wsX9_goalAt wsX9_refused := goodIn_r _ [11, 12, 30, 31, 32, 33, 34, 35, 36, 37, 38, 39] (by decide +kernel) (by decide +kernel)
set_option maxRecDepth 20000 in
theorem gX9_goalAt_X9_refused : GoodIn wsX9_goalAt (wsV RX9 114 RX9 yX9_refused wsX9_refused) := goodIn_app (goodIn_of _ (by decide +kernel)) ggX9_goalAt_X9_refused
set_option maxRecDepth 20000 in
theorem ggX9_goalAt_X9_isDay : GoodIn wsX9_goalAt wsX9_isDay := goodIn_r _ [15] (by decide +kernel) (by decide +kernel)
set_option maxRecDepth 20000 in
theorem gX9_goalAt_X9_isDay : GoodIn wsX9_goalAt (va_wsS RX9 191 yX9_isDay wsX9_isDay) := goodIn_app (goodIn_of _ (by decide +kernel)) ggX9_goalAt_X9_isDay
set_option maxRecDepth 20000 in
theorem ggX9_goalAt_X2_asOf : GoodIn wsX9_goalAt wsX2_asOf := goodIn_r _ [18, 19, 20, 21, 22, 3, 23, 24, 25, 40, 41, 42, 43, 44] (by decide +kernel) (by decide +kernel)
set_option maxRecDepth 20000 in
theorem gX9_goalAt_X2_asOf_n229 : GoodIn wsX9_goalAt (wsX2_asOf) := ggX9_goalAt_X2_asOf
set_option maxRecDepth 20000 in
theorem ggX9_goalAt_X9_answered : GoodIn wsX9_goalAt wsX9_answered := goodIn_r _ [29, 12, 30, 31, 32, 33, 34, 35, 36, 37, 38, 39] (by decide +kernel) (by decide +kernel)
set_option maxRecDepth 20000 in
theorem gX9_goalAt_X9_answered : GoodIn wsX9_goalAt (wsV RX9 124 RX9 yX9_answered wsX9_answered) := goodIn_app (goodIn_of _ (by decide +kernel)) ggX9_goalAt_X9_answered
set_option maxRecDepth 20000 in
theorem ggX9_run_X9_finish : GoodIn wsX9_run wsX9_finish := goodIn_r _ [6, 7, 15, 16, 17, 18, 19, 20, 21, 22, 23, 24] (by decide +kernel) (by decide +kernel)
set_option maxRecDepth 20000 in
theorem gX9_run_X9_finish : GoodIn wsX9_run (wsV RX9 80 RX9 yX9_finish wsX9_finish) := goodIn_app (goodIn_of _ (by decide +kernel)) ggX9_run_X9_finish
set_option maxRecDepth 20000 in
theorem ggX9_run_X6_add : GoodIn wsX9_run wsX6_add := goodIn_r _ [11, 12, 13, 14, 25, 26, 27] (by decide +kernel) (by decide +kernel)
set_option maxRecDepth 20000 in
theorem gX9_run_X6_add_n233 : GoodIn wsX9_run (wsX6_add) := ggX9_run_X6_add
set_option maxRecDepth 20000 in
theorem ggX9_clear_X9_finish : GoodIn wsX9_clear wsX9_finish := goodIn_r _ [6, 7, 8, 9, 10, 11, 12, 13, 14, 15, 16, 17] (by decide +kernel) (by decide +kernel)
set_option maxRecDepth 20000 in
theorem gX9_clear_X9_finish : GoodIn wsX9_clear (wsV RX9 80 RX9 yX9_finish wsX9_finish) := goodIn_app (goodIn_of _ (by decide +kernel)) ggX9_clear_X9_finish
set_option maxRecDepth 20000 in
theorem ggX9_lasts_X9_finish : GoodIn wsX9_lasts wsX9_finish := goodIn_r _ [7, 8, 37, 38, 39, 40, 41, 42, 43, 44, 45, 46] (by decide +kernel) (by decide +kernel)
set_option maxRecDepth 20000 in
theorem gX9_lasts_X9_finish : GoodIn wsX9_lasts (wsV RX9 80 RX9 yX9_finish wsX9_finish) := goodIn_app (goodIn_of _ (by decide +kernel)) ggX9_lasts_X9_finish
set_option maxRecDepth 20000 in
theorem ggX9_lasts_X6_shareBeyond : GoodIn wsX9_lasts wsX6_shareBeyond := goodIn_r _ [12, 13, 14, 15, 10, 16, 17, 18, 19, 20, 21, 22, 23, 24, 25, 26, 27, 28, 29, 30, 31, 32, 33, 34, 35, 36, 47, 48, 49, 50, 51] (by decide +kernel) (by decide +kernel)
set_option maxRecDepth 20000 in
theorem gX9_lasts_X6_shareBeyond_n236 : GoodIn wsX9_lasts (wsX6_shareBeyond) := ggX9_lasts_X6_shareBeyond
set_option maxRecDepth 20000 in
theorem ggX9_gain_X9_trialFault : GoodIn wsX9_gain wsX9_trialFault := goodIn_r _ [8, 2, 9, 10, 11, 7, 12, 13, 14, 15, 16, 17, 18, 19, 20, 21, 22, 23, 24, 25, 73, 74, 75, 76, 77, 78, 79, 80, 81, 82, 83, 84, 85, 86] (by decide +kernel) (by decide +kernel)
set_option maxRecDepth 20000 in
theorem gX9_gain_X9_trialFault : GoodIn wsX9_gain (wsV RX9 247 RX9 yX9_trialFault wsX9_trialFault) := goodIn_app (goodIn_of _ (by decide +kernel)) ggX9_gain_X9_trialFault
set_option maxRecDepth 20000 in
theorem ggX9_gain_X8_lay : GoodIn wsX9_gain wsX8_lay := goodIn_r _ [29, 30, 31, 32, 33, 34, 35, 27, 36, 37, 38, 39, 40, 41, 87, 88, 89, 83, 84, 85, 86] (by decide +kernel) (by decide +kernel)
set_option maxRecDepth 20000 in
theorem gX9_gain_X8_lay_n250 : GoodIn wsX9_gain (wsX8_lay) := ggX9_gain_X8_lay
set_option maxRecDepth 20000 in
theorem ggX9_gain_X8_gainOf : GoodIn wsX9_gain wsX8_gainOf := goodIn_r _ [44, 30, 45, 46, 39, 47, 48, 49, 50, 51, 52, 53, 27, 54, 31, 32, 55, 56, 57, 58, 59, 60, 61, 62, 63, 64, 65, 66, 67, 87, 88, 89, 90, 91] (by decide +kernel) (by decide +kernel)
set_option maxRecDepth 20000 in
theorem gX9_gain_X8_gainOf_n254 : GoodIn wsX9_gain (wsX8_gainOf) := ggX9_gain_X8_gainOf
set_option maxRecDepth 20000 in
theorem ggX9_gain_X9_finish : GoodIn wsX9_gain wsX9_finish := goodIn_r _ [71, 72, 73, 74, 75, 76, 77, 78, 79, 80, 81, 82] (by decide +kernel) (by decide +kernel)
set_option maxRecDepth 20000 in
theorem gX9_gain_X9_finish : GoodIn wsX9_gain (wsV RX9 80 RX9 yX9_finish wsX9_finish) := goodIn_app (goodIn_of _ (by decide +kernel)) ggX9_gain_X9_finish
set_option maxRecDepth 20000 in
theorem ggX9_chance_X9_trialFault : GoodIn wsX9_chance wsX9_trialFault := goodIn_r _ [8, 2, 9, 10, 11, 7, 12, 13, 14, 15, 16, 17, 18, 19, 20, 21, 22, 23, 24, 25, 79, 80, 81, 82, 83, 84, 85, 86, 87, 88, 89, 90, 91, 92] (by decide +kernel) (by decide +kernel)
set_option maxRecDepth 20000 in
theorem gX9_chance_X9_trialFault : GoodIn wsX9_chance (wsV RX9 247 RX9 yX9_trialFault wsX9_trialFault) := goodIn_app (goodIn_of _ (by decide +kernel)) ggX9_chance_X9_trialFault
set_option maxRecDepth 20000 in
theorem ggX9_chance_X8_lay : GoodIn wsX9_chance wsX8_lay := goodIn_r _ [29, 30, 31, 32, 33, 34, 35, 27, 36, 37, 38, 39, 40, 41, 93, 94, 95, 89, 90, 91, 92] (by decide +kernel) (by decide +kernel)
set_option maxRecDepth 20000 in
theorem gX9_chance_X8_lay_n250 : GoodIn wsX9_chance (wsX8_lay) := ggX9_chance_X8_lay
set_option maxRecDepth 20000 in
theorem ggX9_chance_X8_chanceOf : GoodIn wsX9_chance wsX8_chanceOf := goodIn_r _ [44, 30, 45, 46, 39, 47, 48, 49, 50, 51, 52, 27, 53, 54, 55, 56, 57, 31, 32, 58, 59, 60, 37, 38, 40, 41, 61, 62, 63, 64, 65, 66, 67, 68, 69, 70, 71, 72, 73, 93, 94, 95, 96, 97] (by decide +kernel) (by decide +kernel)
set_option maxRecDepth 20000 in
theorem gX9_chance_X8_chanceOf_n257 : GoodIn wsX9_chance (wsX8_chanceOf) := ggX9_chance_X8_chanceOf
set_option maxRecDepth 20000 in
theorem ggX9_chance_X9_finish : GoodIn wsX9_chance wsX9_finish := goodIn_r _ [77, 78, 79, 80, 81, 82, 83, 84, 85, 86, 87, 88] (by decide +kernel) (by decide +kernel)
set_option maxRecDepth 20000 in
theorem gX9_chance_X9_finish : GoodIn wsX9_chance (wsV RX9 80 RX9 yX9_finish wsX9_finish) := goodIn_app (goodIn_of _ (by decide +kernel)) ggX9_chance_X9_finish
set_option maxRecDepth 20000 in
theorem ggX9_draw_X9_refused : GoodIn wsX9_draw wsX9_refused := goodIn_r _ [5, 6, 17, 18, 19, 20, 21, 22, 23, 24, 25, 26] (by decide +kernel) (by decide +kernel)
set_option maxRecDepth 20000 in
theorem gX9_draw_X9_refused : GoodIn wsX9_draw (wsV RX9 114 RX9 yX9_refused wsX9_refused) := goodIn_app (goodIn_of _ (by decide +kernel)) ggX9_draw_X9_refused
set_option maxRecDepth 20000 in
theorem ggX9_draw_X8_drawnSet : GoodIn wsX9_draw wsX8_drawnSet := goodIn_r _ [9, 10, 11, 12] (by decide +kernel) (by decide +kernel)
set_option maxRecDepth 20000 in
theorem gX9_draw_X8_drawnSet_n260 : GoodIn wsX9_draw (wsX8_drawnSet) := ggX9_draw_X8_drawnSet
set_option maxRecDepth 20000 in
theorem ggX9_draw_X9_answered : GoodIn wsX9_draw wsX9_answered := goodIn_r _ [16, 6, 17, 18, 19, 20, 21, 22, 23, 24, 25, 26] (by decide +kernel) (by decide +kernel)
set_option maxRecDepth 20000 in
theorem gX9_draw_X9_answered : GoodIn wsX9_draw (wsV RX9 124 RX9 yX9_answered wsX9_answered) := goodIn_app (goodIn_of _ (by decide +kernel)) ggX9_draw_X9_answered
set_option maxRecDepth 20000 in
theorem ggX9_trayFault_X9_isTray : GoodIn wsX9_trayFault wsX9_isTray := goodIn_r _ [5] (by decide +kernel) (by decide +kernel)
set_option maxRecDepth 20000 in
theorem gX9_trayFault_X9_isTray : GoodIn wsX9_trayFault (va_wsS RX9 76 yX9_isTray wsX9_isTray) := goodIn_app (goodIn_of _ (by decide +kernel)) ggX9_trayFault_X9_isTray
set_option maxRecDepth 20000 in
theorem ggX9_placeFault_X9_trayFault : GoodIn wsX9_placeFault wsX9_trayFault := goodIn_r _ [6, 1, 7, 8, 5, 9, 15, 16, 17, 18, 19, 20, 21, 22, 23, 24, 25, 26, 27, 28] (by decide +kernel) (by decide +kernel)
set_option maxRecDepth 20000 in
theorem gX9_placeFault_X9_trayFault : GoodIn wsX9_placeFault (wsV RX9 266 RX9 yX9_trayFault wsX9_trayFault) := goodIn_app (goodIn_of _ (by decide +kernel)) ggX9_placeFault_X9_trayFault
set_option maxRecDepth 20000 in
theorem ggX9_placeFault_X7_hasPlaces : GoodIn wsX9_placeFault wsX7_hasPlaces := goodIn_r _ [13, 14, 25, 26, 27, 28] (by decide +kernel) (by decide +kernel)
set_option maxRecDepth 20000 in
theorem gX9_placeFault_X7_hasPlaces_n269 : GoodIn wsX9_placeFault (wsX7_hasPlaces) := ggX9_placeFault_X7_hasPlaces
set_option maxRecDepth 20000 in
theorem ggX9_pourFault_X9_isTray : GoodIn wsX9_pourFault wsX9_isTray := goodIn_r _ [5] (by decide +kernel) (by decide +kernel)
set_option maxRecDepth 20000 in
theorem gX9_pourFault_X9_isTray : GoodIn wsX9_pourFault (va_wsS RX9 76 yX9_isTray wsX9_isTray) := goodIn_app (goodIn_of _ (by decide +kernel)) ggX9_pourFault_X9_isTray
set_option maxRecDepth 20000 in
theorem ggX9_pourFault_X7_hasPlaces : GoodIn wsX9_pourFault wsX7_hasPlaces := goodIn_r _ [9, 10, 21, 22, 23, 24] (by decide +kernel) (by decide +kernel)
set_option maxRecDepth 20000 in
theorem gX9_pourFault_X7_hasPlaces_n269 : GoodIn wsX9_pourFault (wsX7_hasPlaces) := ggX9_pourFault_X7_hasPlaces
set_option maxRecDepth 20000 in
theorem ggX9_pairedFault_X0_isBeginner : GoodIn wsX9_pairedFault wsX0_isBeginner := goodIn_r _ [6, 7, 21, 22, 23, 24, 25, 26] (by decide +kernel) (by decide +kernel)
set_option maxRecDepth 20000 in
theorem gX9_pairedFault_X0_isBeginner_n188 : GoodIn wsX9_pairedFault (wsX0_isBeginner) := ggX9_pairedFault_X0_isBeginner
set_option maxRecDepth 20000 in
theorem ggX9_trialFault_X9_trayFault : GoodIn wsX9_trialFault wsX9_trayFault := goodIn_r _ [6, 1, 7, 8, 5, 9, 20, 21, 22, 23, 24, 25, 26, 27, 28, 29, 30, 31, 32, 33] (by decide +kernel) (by decide +kernel)
set_option maxRecDepth 20000 in
theorem gX9_trialFault_X9_trayFault : GoodIn wsX9_trialFault (wsV RX9 266 RX9 yX9_trayFault wsX9_trayFault) := goodIn_app (goodIn_of _ (by decide +kernel)) ggX9_trialFault_X9_trayFault
set_option maxRecDepth 20000 in
theorem ggX9_trialFault_X7_hasPlaces : GoodIn wsX9_trialFault wsX7_hasPlaces := goodIn_r _ [13, 14, 30, 31, 32, 33] (by decide +kernel) (by decide +kernel)
set_option maxRecDepth 20000 in
theorem gX9_trialFault_X7_hasPlaces_n269 : GoodIn wsX9_trialFault (wsX7_hasPlaces) := ggX9_trialFault_X7_hasPlaces
set_option maxRecDepth 20000 in
theorem ggX9_trialFault_X7_hasOutcomes : GoodIn wsX9_trialFault wsX7_hasOutcomes := goodIn_r _ [17, 18, 19, 30, 31, 32, 33] (by decide +kernel) (by decide +kernel)
set_option maxRecDepth 20000 in
theorem gX9_trialFault_X7_hasOutcomes_n275 : GoodIn wsX9_trialFault (wsX7_hasOutcomes) := ggX9_trialFault_X7_hasOutcomes
set_option maxRecDepth 20000 in
theorem ggX10_tray_X10_no : GoodIn wsX10_tray wsX10_no := goodIn_r _ [10, 2, 11, 12, 13, 14, 15, 16, 17, 18, 19, 20, 21, 22, 23, 24, 25, 26, 27, 28, 29, 30, 31, 32, 33, 34, 35, 36, 37, 38, 39, 40, 41, 42, 43] (by decide +kernel) (by decide +kernel)
set_option maxRecDepth 20000 in
theorem gX10_tray_X10_no : GoodIn wsX10_tray (wsV RX10 89 RX10 yX10_no wsX10_no) := goodIn_app (goodIn_of _ (by decide +kernel)) ggX10_tray_X10_no
set_option maxRecDepth 20000 in
theorem ggX10_placed_X10_trayed : GoodIn wsX10_placed wsX10_trayed := goodIn_r _ [6, 1, 7, 8, 9, 10, 11, 12, 13, 14, 15, 16, 17, 18, 19, 20, 21, 22, 23, 24, 25, 26, 27, 28, 29, 30, 31, 32, 33, 34, 35, 36, 37, 38, 39] (by decide +kernel) (by decide +kernel)
set_option maxRecDepth 20000 in
theorem gX10_placed_X10_trayed : GoodIn wsX10_placed (wsV RX10 93 RX10 yX10_trayed wsX10_trayed) := goodIn_app (goodIn_of _ (by decide +kernel)) ggX10_placed_X10_trayed
set_option maxRecDepth 20000 in
theorem ggX10_write_X10_placed : GoodIn wsX10_write wsX10_placed := goodIn_r _ [9, 10, 11, 12, 13, 8, 14, 18, 19, 20, 21, 22, 23, 24, 25, 26, 27, 28, 29, 30, 31, 32, 33, 34, 35, 36, 37, 38, 39, 40, 41, 42, 43, 44, 45, 46, 47, 48, 49, 50] (by decide +kernel) (by decide +kernel)
set_option maxRecDepth 20000 in
theorem gX10_write_X10_placed : GoodIn wsX10_write (wsV RX10 97 RX10 yX10_placed wsX10_placed) := goodIn_app (goodIn_of _ (by decide +kernel)) ggX10_write_X10_placed
set_option maxRecDepth 20000 in
theorem ggX10_write_X10_cut : GoodIn wsX10_write wsX10_cut := goodIn_r _ [17] (by decide +kernel) (by decide +kernel)
set_option maxRecDepth 20000 in
theorem gX10_write_X10_cut : GoodIn wsX10_write (va_wsS RX10 101 yX10_cut wsX10_cut) := goodIn_app (goodIn_of _ (by decide +kernel)) ggX10_write_X10_cut
set_option maxRecDepth 20000 in
theorem ggX10_read_X10_placed : GoodIn wsX10_read wsX10_placed := goodIn_r _ [9, 10, 11, 12, 13, 8, 14, 15, 16, 17, 18, 19, 20, 21, 22, 23, 24, 25, 26, 27, 28, 29, 30, 31, 32, 33, 34, 35, 36, 37, 38, 39, 40, 41, 42, 43, 44, 45, 46, 47] (by decide +kernel) (by decide +kernel)
set_option maxRecDepth 20000 in
theorem gX10_read_X10_placed : GoodIn wsX10_read (wsV RX10 97 RX10 yX10_placed wsX10_placed) := goodIn_app (goodIn_of _ (by decide +kernel)) ggX10_read_X10_placed
set_option maxRecDepth 20000 in
theorem ggX10_pour_X10_no : GoodIn wsX10_pour wsX10_no := goodIn_r _ [10, 2, 11, 12, 13, 14, 15, 16, 17, 18, 19, 20, 21, 22, 23, 24, 25, 26, 27, 28, 29, 30, 31, 32, 33, 34, 35, 36, 37, 38, 39, 40, 41, 42, 43] (by decide +kernel) (by decide +kernel)
set_option maxRecDepth 20000 in
theorem gX10_pour_X10_no : GoodIn wsX10_pour (wsV RX10 89 RX10 yX10_no wsX10_no) := goodIn_app (goodIn_of _ (by decide +kernel)) ggX10_pour_X10_no
set_option maxRecDepth 20000 in
theorem ggX10_elder_X10_refuse : GoodIn wsX10_elder wsX10_refuse := goodIn_r _ [9, 2, 10, 11, 12, 13, 14, 15, 16, 17, 18, 19, 20, 21, 22, 23, 24, 25, 26, 27, 28, 29, 30, 31, 32, 33, 34, 35, 36, 37, 38, 39, 40, 41, 42] (by decide +kernel) (by decide +kernel)
set_option maxRecDepth 20000 in
theorem gX10_elder_X10_refuse : GoodIn wsX10_elder (wsV RX10 113 RX10 yX10_refuse wsX10_refuse) := goodIn_app (goodIn_of _ (by decide +kernel)) ggX10_elder_X10_refuse
set_option maxRecDepth 20000 in
theorem ggX10_beginner_X10_refuse : GoodIn wsX10_beginner wsX10_refuse := goodIn_r _ [9, 2, 10, 11, 12, 13, 14, 15, 16, 17, 18, 19, 20, 21, 22, 23, 24, 25, 26, 27, 28, 29, 30, 31, 32, 33, 34, 35, 36, 37, 38, 39, 40, 41, 42] (by decide +kernel) (by decide +kernel)
set_option maxRecDepth 20000 in
theorem gX10_beginner_X10_refuse : GoodIn wsX10_beginner (wsV RX10 113 RX10 yX10_refuse wsX10_refuse) := goodIn_app (goodIn_of _ (by decide +kernel)) ggX10_beginner_X10_refuse
set_option maxRecDepth 20000 in
theorem ggX10_places_X10_isElder : GoodIn wsX10_places wsX10_isElder := goodIn_r _ [8, 9, 14, 15, 16, 17, 18, 19, 20, 21, 22, 23, 24, 25, 26, 27, 28, 29, 30, 31, 32, 33, 34, 35, 36, 37, 38, 39, 40, 41, 42, 43, 44, 45, 46] (by decide +kernel) (by decide +kernel)
set_option maxRecDepth 20000 in
theorem gX10_places_X10_isElder : GoodIn wsX10_places (wsV RX10 116 RX10 yX10_isElder wsX10_isElder) := goodIn_app (goodIn_of _ (by decide +kernel)) ggX10_places_X10_isElder
set_option maxRecDepth 20000 in
theorem ggX10_places_X10_no : GoodIn wsX10_places wsX10_no := goodIn_r _ [13, 2, 14, 15, 16, 17, 18, 19, 20, 21, 22, 23, 24, 25, 26, 27, 28, 29, 30, 31, 32, 33, 34, 35, 36, 37, 38, 39, 40, 41, 42, 43, 44, 45, 46] (by decide +kernel) (by decide +kernel)
set_option maxRecDepth 20000 in
theorem gX10_places_X10_no : GoodIn wsX10_places (wsV RX10 89 RX10 yX10_no wsX10_no) := goodIn_app (goodIn_of _ (by decide +kernel)) ggX10_places_X10_no
set_option maxRecDepth 20000 in
theorem ggX10_like_X10_isElder : GoodIn wsX10_like wsX10_isElder := goodIn_r _ [9, 10, 20, 21, 22, 23, 24, 25, 26, 27, 28, 29, 30, 31, 32, 33, 34, 35, 36, 37, 38, 39, 40, 41, 42, 43, 44, 45, 46, 47, 48, 49, 50, 51, 52] (by decide +kernel) (by decide +kernel)
set_option maxRecDepth 20000 in
theorem gX10_like_X10_isElder : GoodIn wsX10_like (wsV RX10 116 RX10 yX10_isElder wsX10_isElder) := goodIn_app (goodIn_of _ (by decide +kernel)) ggX10_like_X10_isElder
set_option maxRecDepth 20000 in
theorem ggX10_like_X10_isBeginner : GoodIn wsX10_like wsX10_isBeginner := goodIn_r _ [14, 15, 20, 21, 22, 23, 24, 25, 26, 27, 28, 29, 30, 31, 32, 33, 34, 35, 36, 37, 38, 39, 40, 41, 42, 43, 44, 45, 46, 47, 48, 49, 50, 51, 52] (by decide +kernel) (by decide +kernel)
set_option maxRecDepth 20000 in
theorem gX10_like_X10_isBeginner : GoodIn wsX10_like (wsV RX10 119 RX10 yX10_isBeginner wsX10_isBeginner) := goodIn_app (goodIn_of _ (by decide +kernel)) ggX10_like_X10_isBeginner
set_option maxRecDepth 20000 in
theorem ggX10_like_X10_no : GoodIn wsX10_like wsX10_no := goodIn_r _ [19, 2, 20, 21, 22, 23, 24, 25, 26, 27, 28, 29, 30, 31, 32, 33, 34, 35, 36, 37, 38, 39, 40, 41, 42, 43, 44, 45, 46, 47, 48, 49, 50, 51, 52] (by decide +kernel) (by decide +kernel)
set_option maxRecDepth 20000 in
theorem gX10_like_X10_no : GoodIn wsX10_like (wsV RX10 89 RX10 yX10_no wsX10_no) := goodIn_app (goodIn_of _ (by decide +kernel)) ggX10_like_X10_no
set_option maxRecDepth 20000 in
theorem ggX10_bar_X10_isElder : GoodIn wsX10_bar wsX10_isElder := goodIn_r _ [8, 9, 19, 20, 21, 22, 23, 24, 25, 26, 27, 28, 29, 30, 31, 32, 33, 34, 35, 36, 37, 38, 39, 40, 41, 42, 43, 44, 45, 46, 47, 48, 49, 50, 51] (by decide +kernel) (by decide +kernel)
set_option maxRecDepth 20000 in
theorem gX10_bar_X10_isElder : GoodIn wsX10_bar (wsV RX10 116 RX10 yX10_isElder wsX10_isElder) := goodIn_app (goodIn_of _ (by decide +kernel)) ggX10_bar_X10_isElder
set_option maxRecDepth 20000 in
theorem ggX10_bar_X10_isBeginner : GoodIn wsX10_bar wsX10_isBeginner := goodIn_r _ [13, 14, 19, 20, 21, 22, 23, 24, 25, 26, 27, 28, 29, 30, 31, 32, 33, 34, 35, 36, 37, 38, 39, 40, 41, 42, 43, 44, 45, 46, 47, 48, 49, 50, 51] (by decide +kernel) (by decide +kernel)
set_option maxRecDepth 20000 in
theorem gX10_bar_X10_isBeginner : GoodIn wsX10_bar (wsV RX10 119 RX10 yX10_isBeginner wsX10_isBeginner) := goodIn_app (goodIn_of _ (by decide +kernel)) ggX10_bar_X10_isBeginner
set_option maxRecDepth 20000 in
theorem ggX10_bar_X10_no : GoodIn wsX10_bar wsX10_no := goodIn_r _ [18, 2, 19, 20, 21, 22, 23, 24, 25, 26, 27, 28, 29, 30, 31, 32, 33, 34, 35, 36, 37, 38, 39, 40, 41, 42, 43, 44, 45, 46, 47, 48, 49, 50, 51] (by decide +kernel) (by decide +kernel)
set_option maxRecDepth 20000 in
theorem gX10_bar_X10_no : GoodIn wsX10_bar (wsV RX10 89 RX10 yX10_no wsX10_no) := goodIn_app (goodIn_of _ (by decide +kernel)) ggX10_bar_X10_no
set_option maxRecDepth 20000 in
theorem ggX10_worst_X10_elderPrefers : GoodIn wsX10_worst wsX10_elderPrefers := goodIn_r _ [7, 8, 9, 10, 11, 12, 13, 14, 15, 16, 17, 18, 19, 20, 21, 22, 23, 24, 25, 26, 27, 28, 29, 30, 31, 32, 33, 34, 35, 36, 37, 38, 39, 40, 41] (by decide +kernel) (by decide +kernel)
set_option maxRecDepth 20000 in
theorem gX10_worst_X10_elderPrefers : GoodIn wsX10_worst (wsV RX10 122 RX10 yX10_elderPrefers wsX10_elderPrefers) := goodIn_app (goodIn_of _ (by decide +kernel)) ggX10_worst_X10_elderPrefers
set_option maxRecDepth 20000 in
theorem ggX10_rank_X10_can : GoodIn wsX10_rank wsX10_can := goodIn_r _ [6, 7, 8, 9, 14, 15, 16, 17, 18, 19, 20, 21, 22, 23, 24, 25, 26, 27, 28, 29, 30, 31, 32, 33, 34, 35, 36, 37, 38, 39, 40, 41, 42, 43, 44, 45, 46] (by decide +kernel) (by decide +kernel)
set_option maxRecDepth 20000 in
theorem gX10_rank_X10_can : GoodIn wsX10_rank (wsV RX10 126 RX10 yX10_can wsX10_can) := goodIn_app (goodIn_of _ (by decide +kernel)) ggX10_rank_X10_can
set_option maxRecDepth 20000 in
theorem ggX10_rank_X10_beginnerPrefers : GoodIn wsX10_rank wsX10_beginnerPrefers := goodIn_r _ [13, 8, 14, 15, 16, 17, 18, 19, 20, 21, 22, 23, 24, 25, 26, 27, 28, 29, 30, 31, 32, 33, 34, 35, 36, 37, 38, 39, 40, 41, 42, 43, 44, 45, 46] (by decide +kernel) (by decide +kernel)
set_option maxRecDepth 20000 in
theorem gX10_rank_X10_beginnerPrefers : GoodIn wsX10_rank (wsV RX10 130 RX10 yX10_beginnerPrefers wsX10_beginnerPrefers) := goodIn_app (goodIn_of _ (by decide +kernel)) ggX10_rank_X10_beginnerPrefers
set_option maxRecDepth 20000 in
theorem ggX10_asked_X10_can : GoodIn wsX10_asked wsX10_can := goodIn_r _ [6, 7, 8, 9, 18, 19, 20, 21, 22, 23, 24, 25, 26, 27, 28, 29, 30, 31, 32, 33, 34, 35, 36, 37, 38, 39, 40, 41, 42, 43, 44, 45, 46, 47, 48, 49, 50] (by decide +kernel) (by decide +kernel)
set_option maxRecDepth 20000 in
theorem gX10_asked_X10_can : GoodIn wsX10_asked (wsV RX10 126 RX10 yX10_can wsX10_can) := goodIn_app (goodIn_of _ (by decide +kernel)) ggX10_asked_X10_can
set_option maxRecDepth 20000 in
theorem ggX10_asked_X10_rank : GoodIn wsX10_asked wsX10_rank := goodIn_r _ [13, 1, 2, 3, 4, 5, 6, 7, 8, 9, 14, 15, 16, 17, 18, 19, 20, 21, 22, 23, 24, 25, 26, 27, 28, 29, 30, 31, 32, 33, 34, 35, 36, 37, 38, 39, 40, 41, 42, 43, 44, 45, 46, 47, 48, 49, 50] (by decide +kernel) (by decide +kernel)
set_option maxRecDepth 20000 in
theorem gX10_asked_X10_rank : GoodIn wsX10_asked (wsV RX10 133 RX10 yX10_rank wsX10_rank) := goodIn_app (goodIn_of _ (by decide +kernel)) ggX10_asked_X10_rank
set_option maxRecDepth 20000 in
theorem ggX10_pair_X10_asked : GoodIn wsX10_pair wsX10_asked := goodIn_r _ [12, 13, 14, 15, 16, 11, 17, 18, 19, 20, 21, 22, 23, 24, 25, 26, 27, 28, 41, 42, 43, 44, 45, 46, 47, 48, 49, 50, 51, 52, 53, 54, 55, 56, 57, 58, 59, 60, 61, 62, 63, 64, 65, 66, 67, 68, 69, 70, 71, 72, 73] (by decide +kernel) (by decide +kernel)
set_option maxRecDepth 20000 in
theorem gX10_pair_X10_asked : GoodIn wsX10_pair (wsV RX10 136 RX10 yX10_asked wsX10_asked) := goodIn_app (goodIn_of _ (by decide +kernel)) ggX10_pair_X10_asked
set_option maxRecDepth 20000 in
theorem ggX10_pair_X10_hasOf : GoodIn wsX10_pair wsX10_hasOf := goodIn_r _ [32, 3, 4, 41, 42, 43, 44, 45, 46, 47, 48, 49, 50, 51, 52, 53, 54, 55, 56, 57, 58, 59, 60, 61, 62, 63, 64, 65, 66, 67, 68, 69, 70, 71, 72, 73] (by decide +kernel) (by decide +kernel)
set_option maxRecDepth 20000 in
theorem gX10_pair_X10_hasOf : GoodIn wsX10_pair (wsV RX10 139 RX10 yX10_hasOf wsX10_hasOf) := goodIn_app (goodIn_of _ (by decide +kernel)) ggX10_pair_X10_hasOf
set_option maxRecDepth 20000 in
theorem ggX10_pair_X10_worst : GoodIn wsX10_pair wsX10_worst := goodIn_r _ [36, 3, 4, 37, 38, 39, 11, 40, 18, 41, 42, 43, 44, 45, 46, 47, 48, 49, 50, 51, 52, 53, 54, 55, 56, 57, 58, 59, 60, 61, 62, 63, 64, 65, 66, 67, 68, 69, 70, 71, 72, 73] (by decide +kernel) (by decide +kernel)
set_option maxRecDepth 20000 in
theorem gX10_pair_X10_worst : GoodIn wsX10_pair (wsV RX10 142 RX10 yX10_worst wsX10_worst) := goodIn_app (goodIn_of _ (by decide +kernel)) ggX10_pair_X10_worst
set_option maxRecDepth 20000 in
theorem ggX10_elderOf_X10_isBeginner : GoodIn wsX10_elderOf wsX10_isBeginner := goodIn_r _ [9, 10, 15, 16, 17, 18, 19, 20, 21, 22, 23, 24, 25, 26, 27, 28, 29, 30, 31, 32, 33, 34, 35, 36, 37, 38, 39, 40, 41, 42, 43, 44, 45, 46, 47] (by decide +kernel) (by decide +kernel)
set_option maxRecDepth 20000 in
theorem gX10_elderOf_X10_isBeginner : GoodIn wsX10_elderOf (wsV RX10 119 RX10 yX10_isBeginner wsX10_isBeginner) := goodIn_app (goodIn_of _ (by decide +kernel)) ggX10_elderOf_X10_isBeginner
set_option maxRecDepth 20000 in
theorem ggX10_elderOf_X10_refuse : GoodIn wsX10_elderOf wsX10_refuse := goodIn_r _ [14, 2, 15, 16, 17, 18, 19, 20, 21, 22, 23, 24, 25, 26, 27, 28, 29, 30, 31, 32, 33, 34, 35, 36, 37, 38, 39, 40, 41, 42, 43, 44, 45, 46, 47] (by decide +kernel) (by decide +kernel)
set_option maxRecDepth 20000 in
theorem gX10_elderOf_X10_refuse : GoodIn wsX10_elderOf (wsV RX10 113 RX10 yX10_refuse wsX10_refuse) := goodIn_app (goodIn_of _ (by decide +kernel)) ggX10_elderOf_X10_refuse
set_option maxRecDepth 20000 in
theorem ggX10_has_X10_isElder : GoodIn wsX10_has wsX10_isElder := goodIn_r _ [8, 9, 20, 21, 22, 23, 24, 25, 26, 27, 28, 29, 30, 31, 32, 33, 34, 35, 36, 37, 38, 39, 40, 41, 42, 43, 44, 45, 46, 47, 48, 49, 50, 51, 52] (by decide +kernel) (by decide +kernel)
set_option maxRecDepth 20000 in
theorem gX10_has_X10_isElder : GoodIn wsX10_has (wsV RX10 116 RX10 yX10_isElder wsX10_isElder) := goodIn_app (goodIn_of _ (by decide +kernel)) ggX10_has_X10_isElder
set_option maxRecDepth 20000 in
theorem ggX10_has_X10_refuse : GoodIn wsX10_has wsX10_refuse := goodIn_r _ [13, 2, 20, 21, 22, 23, 24, 25, 26, 27, 28, 29, 30, 31, 32, 33, 34, 35, 36, 37, 38, 39, 40, 41, 42, 43, 44, 45, 46, 47, 48, 49, 50, 51, 52] (by decide +kernel) (by decide +kernel)
set_option maxRecDepth 20000 in
theorem gX10_has_X10_refuse : GoodIn wsX10_has (wsV RX10 113 RX10 yX10_refuse wsX10_refuse) := goodIn_app (goodIn_of _ (by decide +kernel)) ggX10_has_X10_refuse
set_option maxRecDepth 20000 in
theorem ggX10_has_X10_hasOf : GoodIn wsX10_has wsX10_hasOf := goodIn_r _ [17, 18, 19, 20, 21, 22, 23, 24, 25, 26, 27, 28, 29, 30, 31, 32, 33, 34, 35, 36, 37, 38, 39, 40, 41, 42, 43, 44, 45, 46, 47, 48, 49, 50, 51, 52] (by decide +kernel) (by decide +kernel)
set_option maxRecDepth 20000 in
theorem gX10_has_X10_hasOf : GoodIn wsX10_has (wsV RX10 139 RX10 yX10_hasOf wsX10_hasOf) := goodIn_app (goodIn_of _ (by decide +kernel)) ggX10_has_X10_hasOf
set_option maxRecDepth 20000 in
theorem ggX10_isBlock_X10_can : GoodIn wsX10_isBlock wsX10_can := goodIn_r _ [7, 8, 9, 10, 28, 29, 30, 31, 32, 33, 34, 35, 36, 37, 38, 39, 40, 41, 42, 43, 44, 45, 46, 47, 48, 49, 50, 51, 52, 53, 54, 55, 56, 57, 58, 59, 60] (by decide +kernel) (by decide +kernel)
set_option maxRecDepth 20000 in
theorem gX10_isBlock_X10_can : GoodIn wsX10_isBlock (wsV RX10 126 RX10 yX10_can wsX10_can) := goodIn_app (goodIn_of _ (by decide +kernel)) ggX10_isBlock_X10_can
set_option maxRecDepth 20000 in
theorem ggX10_isBlock_X10_beginnerPrefers : GoodIn wsX10_isBlock wsX10_beginnerPrefers := goodIn_r _ [14, 9, 28, 29, 30, 31, 32, 33, 34, 35, 36, 37, 38, 39, 40, 41, 42, 43, 44, 45, 46, 47, 48, 49, 50, 51, 52, 53, 54, 55, 56, 57, 58, 59, 60] (by decide +kernel) (by decide +kernel)
set_option maxRecDepth 20000 in
theorem gX10_isBlock_X10_beginnerPrefers : GoodIn wsX10_isBlock (wsV RX10 130 RX10 yX10_beginnerPrefers wsX10_beginnerPrefers) := goodIn_app (goodIn_of _ (by decide +kernel)) ggX10_isBlock_X10_beginnerPrefers
set_option maxRecDepth 20000 in
theorem ggX10_isBlock_X10_hasOf : GoodIn wsX10_isBlock wsX10_hasOf := goodIn_r _ [18, 19, 1, 28, 29, 30, 31, 32, 33, 34, 35, 36, 37, 38, 39, 40, 41, 42, 43, 44, 45, 46, 47, 48, 49, 50, 51, 52, 53, 54, 55, 56, 57, 58, 59, 60] (by decide +kernel) (by decide +kernel)
set_option maxRecDepth 20000 in
theorem gX10_isBlock_X10_hasOf : GoodIn wsX10_isBlock (wsV RX10 139 RX10 yX10_hasOf wsX10_hasOf) := goodIn_app (goodIn_of _ (by decide +kernel)) ggX10_isBlock_X10_hasOf
set_option maxRecDepth 20000 in
theorem ggX10_isBlock_X10_worst : GoodIn wsX10_isBlock wsX10_worst := goodIn_r _ [23, 19, 1, 24, 25, 26, 6, 27, 8, 28, 29, 30, 31, 32, 33, 34, 35, 36, 37, 38, 39, 40, 41, 42, 43, 44, 45, 46, 47, 48, 49, 50, 51, 52, 53, 54, 55, 56, 57, 58, 59, 60] (by decide +kernel) (by decide +kernel)
set_option maxRecDepth 20000 in
theorem gX10_isBlock_X10_worst : GoodIn wsX10_isBlock (wsV RX10 142 RX10 yX10_worst wsX10_worst) := goodIn_app (goodIn_of _ (by decide +kernel)) ggX10_isBlock_X10_worst
set_option maxRecDepth 20000 in
theorem ggX10_isBlock_X10_elderPrefers : GoodIn wsX10_isBlock wsX10_elderPrefers := goodIn_r _ [27, 8, 28, 29, 30, 31, 32, 33, 34, 35, 36, 37, 38, 39, 40, 41, 42, 43, 44, 45, 46, 47, 48, 49, 50, 51, 52, 53, 54, 55, 56, 57, 58, 59, 60] (by decide +kernel) (by decide +kernel)
set_option maxRecDepth 20000 in
theorem gX10_isBlock_X10_elderPrefers : GoodIn wsX10_isBlock (wsV RX10 122 RX10 yX10_elderPrefers wsX10_elderPrefers) := goodIn_app (goodIn_of _ (by decide +kernel)) ggX10_isBlock_X10_elderPrefers
set_option maxRecDepth 20000 in
theorem ggX10_blocks_X10_refuse : GoodIn wsX10_blocks wsX10_refuse := goodIn_r _ [10, 2, 40, 41, 42, 43, 44, 45, 46, 47, 48, 49, 50, 51, 52, 53, 54, 55, 56, 57, 58, 59, 60, 61, 62, 63, 64, 65, 66, 67, 68, 69, 70, 71, 72] (by decide +kernel) (by decide +kernel)
set_option maxRecDepth 20000 in
theorem gX10_blocks_X10_refuse : GoodIn wsX10_blocks (wsV RX10 113 RX10 yX10_refuse wsX10_refuse) := goodIn_app (goodIn_of _ (by decide +kernel)) ggX10_blocks_X10_refuse
set_option maxRecDepth 20000 in
theorem ggX10_blocks_X10_isBlock : GoodIn wsX10_blocks wsX10_isBlock := goodIn_r _ [14, 15, 16, 17, 18, 19, 9, 20, 21, 22, 23, 24, 25, 26, 27, 28, 29, 30, 31, 5, 32, 33, 34, 35, 36, 37, 38, 39, 40, 41, 42, 43, 44, 45, 46, 47, 48, 49, 50, 51, 52, 53, 54, 55, 56, 57, 58, 59, 60, 61, 62, 63, 64, 65, 66, 67, 68, 69, 70, 71, 72] (by decide +kernel) (by decide +kernel)
set_option maxRecDepth 20000 in
theorem gX10_blocks_X10_isBlock : GoodIn wsX10_blocks (wsV RX10 149 RX10 yX10_isBlock wsX10_isBlock) := goodIn_app (goodIn_of _ (by decide +kernel)) ggX10_blocks_X10_isBlock
set_option maxRecDepth 20000 in
theorem ggX10_block_X10_isElder : GoodIn wsX10_block wsX10_isElder := goodIn_r _ [8, 9, 48, 49, 50, 51, 52, 53, 54, 55, 56, 57, 58, 59, 60, 61, 62, 63, 64, 65, 66, 67, 68, 69, 70, 71, 72, 73, 74, 75, 76, 77, 78, 79, 80] (by decide +kernel) (by decide +kernel)
set_option maxRecDepth 20000 in
theorem gX10_block_X10_isElder : GoodIn wsX10_block (wsV RX10 116 RX10 yX10_isElder wsX10_isElder) := goodIn_app (goodIn_of _ (by decide +kernel)) ggX10_block_X10_isElder
set_option maxRecDepth 20000 in
theorem ggX10_block_X10_isBeginner : GoodIn wsX10_block wsX10_isBeginner := goodIn_r _ [13, 14, 48, 49, 50, 51, 52, 53, 54, 55, 56, 57, 58, 59, 60, 61, 62, 63, 64, 65, 66, 67, 68, 69, 70, 71, 72, 73, 74, 75, 76, 77, 78, 79, 80] (by decide +kernel) (by decide +kernel)
set_option maxRecDepth 20000 in
theorem gX10_block_X10_isBeginner : GoodIn wsX10_block (wsV RX10 119 RX10 yX10_isBeginner wsX10_isBeginner) := goodIn_app (goodIn_of _ (by decide +kernel)) ggX10_block_X10_isBeginner
set_option maxRecDepth 20000 in
theorem ggX10_block_X10_refuse : GoodIn wsX10_block wsX10_refuse := goodIn_r _ [18, 2, 48, 49, 50, 51, 52, 53, 54, 55, 56, 57, 58, 59, 60, 61, 62, 63, 64, 65, 66, 67, 68, 69, 70, 71, 72, 73, 74, 75, 76, 77, 78, 79, 80] (by decide +kernel) (by decide +kernel)
set_option maxRecDepth 20000 in
theorem gX10_block_X10_refuse : GoodIn wsX10_block (wsV RX10 113 RX10 yX10_refuse wsX10_refuse) := goodIn_app (goodIn_of _ (by decide +kernel)) ggX10_block_X10_refuse
set_option maxRecDepth 20000 in
theorem ggX10_block_X10_isBlock : GoodIn wsX10_block wsX10_isBlock := goodIn_r _ [22, 23, 24, 25, 26, 27, 7, 28, 29, 30, 31, 32, 33, 34, 35, 36, 37, 38, 39, 14, 40, 41, 42, 43, 44, 45, 46, 47, 48, 49, 50, 51, 52, 53, 54, 55, 56, 57, 58, 59, 60, 61, 62, 63, 64, 65, 66, 67, 68, 69, 70, 71, 72, 73, 74, 75, 76, 77, 78, 79, 80] (by decide +kernel) (by decide +kernel)
set_option maxRecDepth 20000 in
theorem gX10_block_X10_isBlock : GoodIn wsX10_block (wsV RX10 149 RX10 yX10_isBlock wsX10_isBlock) := goodIn_app (goodIn_of _ (by decide +kernel)) ggX10_block_X10_isBlock
set_option maxRecDepth 20000 in
theorem ggX10_isFree_X10_hasOf : GoodIn wsX10_isFree wsX10_hasOf := goodIn_r _ [6, 7, 8, 9, 10, 11, 12, 13, 14, 15, 16, 17, 18, 19, 20, 21, 22, 23, 24, 25, 26, 27, 28, 29, 30, 31, 32, 33, 34, 35, 36, 37, 38, 39, 40, 41] (by decide +kernel) (by decide +kernel)
set_option maxRecDepth 20000 in
theorem gX10_isFree_X10_hasOf : GoodIn wsX10_isFree (wsV RX10 139 RX10 yX10_hasOf wsX10_hasOf) := goodIn_app (goodIn_of _ (by decide +kernel)) ggX10_isFree_X10_hasOf
set_option maxRecDepth 20000 in
theorem ggX10_countSteps_X10_can : GoodIn wsX10_countSteps wsX10_can := goodIn_r _ [9, 10, 11, 12, 22, 23, 24, 25, 26, 27, 28, 29, 30, 31, 32, 33, 34, 35, 36, 37, 38, 39, 40, 41, 42, 43, 44, 45, 46, 47, 48, 49, 50, 51, 52, 53, 54] (by decide +kernel) (by decide +kernel)
set_option maxRecDepth 20000 in
theorem gX10_countSteps_X10_can : GoodIn wsX10_countSteps (wsV RX10 126 RX10 yX10_can wsX10_can) := goodIn_app (goodIn_of _ (by decide +kernel)) ggX10_countSteps_X10_can
set_option maxRecDepth 20000 in
theorem ggX10_countSteps_X10_isFree : GoodIn wsX10_countSteps wsX10_isFree := goodIn_r _ [16, 17, 18, 19, 20, 8, 21, 1, 3, 22, 23, 24, 25, 26, 27, 28, 29, 30, 31, 32, 33, 34, 35, 36, 37, 38, 39, 40, 41, 42, 43, 44, 45, 46, 47, 48, 49, 50, 51, 52, 53, 54] (by decide +kernel) (by decide +kernel)
set_option maxRecDepth 20000 in
theorem gX10_countSteps_X10_isFree : GoodIn wsX10_countSteps (wsV RX10 152 RX10 yX10_isFree wsX10_isFree) := goodIn_app (goodIn_of _ (by decide +kernel)) ggX10_countSteps_X10_isFree
set_option maxRecDepth 20000 in
theorem ggX10_change_X10_isBeginner : GoodIn wsX10_change wsX10_isBeginner := goodIn_r _ [14, 9, 42, 43, 44, 45, 46, 47, 48, 49, 50, 51, 52, 53, 54, 55, 56, 57, 58, 59, 60, 61, 62, 63, 64, 65, 66, 67, 68, 69, 70, 71, 72, 73, 74] (by decide +kernel) (by decide +kernel)
set_option maxRecDepth 20000 in
theorem gX10_change_X10_isBeginner : GoodIn wsX10_change (wsV RX10 119 RX10 yX10_isBeginner wsX10_isBeginner) := goodIn_app (goodIn_of _ (by decide +kernel)) ggX10_change_X10_isBeginner
set_option maxRecDepth 20000 in
theorem ggX10_change_X10_refuse : GoodIn wsX10_change wsX10_refuse := goodIn_r _ [18, 2, 42, 43, 44, 45, 46, 47, 48, 49, 50, 51, 52, 53, 54, 55, 56, 57, 58, 59, 60, 61, 62, 63, 64, 65, 66, 67, 68, 69, 70, 71, 72, 73, 74] (by decide +kernel) (by decide +kernel)
set_option maxRecDepth 20000 in
theorem gX10_change_X10_refuse : GoodIn wsX10_change (wsV RX10 113 RX10 yX10_refuse wsX10_refuse) := goodIn_app (goodIn_of _ (by decide +kernel)) ggX10_change_X10_refuse
set_option maxRecDepth 20000 in
theorem ggX10_change_X10_countSteps : GoodIn wsX10_change wsX10_countSteps := goodIn_r _ [22, 9, 6, 4, 7, 23, 24, 25, 13, 26, 27, 28, 5, 29, 30, 31, 32, 33, 34, 35, 36, 37, 42, 43, 44, 45, 46, 47, 48, 49, 50, 51, 52, 53, 54, 55, 56, 57, 58, 59, 60, 61, 62, 63, 64, 65, 66, 67, 68, 69, 70, 71, 72, 73, 74] (by decide +kernel) (by decide +kernel)
set_option maxRecDepth 20000 in
theorem gX10_change_X10_countSteps : GoodIn wsX10_change (wsV RX10 155 RX10 yX10_countSteps wsX10_countSteps) := goodIn_app (goodIn_of _ (by decide +kernel)) ggX10_change_X10_countSteps
set_option maxRecDepth 20000 in
theorem ggX10_change_X10_isFree : GoodIn wsX10_change wsX10_isFree := goodIn_r _ [32, 33, 34, 35, 36, 13, 37, 9, 4, 42, 43, 44, 45, 46, 47, 48, 49, 50, 51, 52, 53, 54, 55, 56, 57, 58, 59, 60, 61, 62, 63, 64, 65, 66, 67, 68, 69, 70, 71, 72, 73, 74] (by decide +kernel) (by decide +kernel)
set_option maxRecDepth 20000 in
theorem gX10_change_X10_isFree : GoodIn wsX10_change (wsV RX10 152 RX10 yX10_isFree wsX10_isFree) := goodIn_app (goodIn_of _ (by decide +kernel)) ggX10_change_X10_isFree
set_option maxRecDepth 20000 in
theorem ggX10_change_X10_takes : GoodIn wsX10_change wsX10_takes := goodIn_r _ [41, 4, 8, 9, 6, 23, 24, 25, 13, 26, 27, 28, 5, 42, 43, 44, 45, 46, 47, 48, 49, 50, 51, 52, 53, 54, 55, 56, 57, 58, 59, 60, 61, 62, 63, 64, 65, 66, 67, 68, 69, 70, 71, 72, 73, 74] (by decide +kernel) (by decide +kernel)
set_option maxRecDepth 20000 in
theorem gX10_change_X10_takes : GoodIn wsX10_change (wsV RX10 159 RX10 yX10_takes wsX10_takes) := goodIn_app (goodIn_of _ (by decide +kernel)) ggX10_change_X10_takes
set_option maxRecDepth 20000 in
theorem ggX10_takes_X10_can : GoodIn wsX10_takes wsX10_can := goodIn_r _ [9, 10, 11, 12, 13, 14, 15, 16, 17, 18, 19, 20, 21, 22, 23, 24, 25, 26, 27, 28, 29, 30, 31, 32, 33, 34, 35, 36, 37, 38, 39, 40, 41, 42, 43, 44, 45] (by decide +kernel) (by decide +kernel)
set_option maxRecDepth 20000 in
theorem gX10_takes_X10_can : GoodIn wsX10_takes (wsV RX10 126 RX10 yX10_can wsX10_can) := goodIn_app (goodIn_of _ (by decide +kernel)) ggX10_takes_X10_can
set_option maxRecDepth 20000 in
theorem ggX10_meeting_X10_isBeginner : GoodIn wsX10_meeting wsX10_isBeginner := goodIn_r _ [10, 11, 19, 20, 21, 22, 23, 24, 25, 26, 27, 28, 29, 30, 31, 32, 33, 34, 35, 36, 37, 38, 39, 40, 41, 42, 43, 44, 45, 46, 47, 48, 49, 50, 51] (by decide +kernel) (by decide +kernel)
set_option maxRecDepth 20000 in
theorem gX10_meeting_X10_isBeginner : GoodIn wsX10_meeting (wsV RX10 119 RX10 yX10_isBeginner wsX10_isBeginner) := goodIn_app (goodIn_of _ (by decide +kernel)) ggX10_meeting_X10_isBeginner
set_option maxRecDepth 20000 in
theorem ggX10_meeting_X10_refuse : GoodIn wsX10_meeting wsX10_refuse := goodIn_r _ [15, 2, 19, 20, 21, 22, 23, 24, 25, 26, 27, 28, 29, 30, 31, 32, 33, 34, 35, 36, 37, 38, 39, 40, 41, 42, 43, 44, 45, 46, 47, 48, 49, 50, 51] (by decide +kernel) (by decide +kernel)
set_option maxRecDepth 20000 in
theorem gX10_meeting_X10_refuse : GoodIn wsX10_meeting (wsV RX10 113 RX10 yX10_refuse wsX10_refuse) := goodIn_app (goodIn_of _ (by decide +kernel)) ggX10_meeting_X10_refuse
set_option maxRecDepth 20000 in
theorem ggX10_meeting_X10_isDay : GoodIn wsX10_meeting wsX10_isDay := goodIn_r _ [18] (by decide +kernel) (by decide +kernel)
set_option maxRecDepth 20000 in
theorem gX10_meeting_X10_isDay : GoodIn wsX10_meeting (va_wsS RX10 162 yX10_isDay wsX10_isDay) := goodIn_app (goodIn_of _ (by decide +kernel)) ggX10_meeting_X10_isDay
set_option maxRecDepth 20000 in
theorem ggX10_tell_X10_no : GoodIn wsX10_tell wsX10_no := goodIn_r _ [13, 2, 17, 18, 19, 20, 21, 22, 23, 24, 25, 26, 27, 28, 29, 30, 31, 32, 33, 34, 35, 36, 37, 38, 39, 40, 41, 42, 43, 44, 45, 46, 47, 48, 49] (by decide +kernel) (by decide +kernel)
set_option maxRecDepth 20000 in
theorem gX10_tell_X10_no : GoodIn wsX10_tell (wsV RX10 89 RX10 yX10_no wsX10_no) := goodIn_app (goodIn_of _ (by decide +kernel)) ggX10_tell_X10_no
set_option maxRecDepth 20000 in
theorem ggX10_tell_X10_isDay : GoodIn wsX10_tell wsX10_isDay := goodIn_r _ [16] (by decide +kernel) (by decide +kernel)
set_option maxRecDepth 20000 in
theorem gX10_tell_X10_isDay : GoodIn wsX10_tell (va_wsS RX10 162 yX10_isDay wsX10_isDay) := goodIn_app (goodIn_of _ (by decide +kernel)) ggX10_tell_X10_isDay
set_option maxRecDepth 20000 in
theorem ggX10_met_X10_isBeginner : GoodIn wsX10_met wsX10_isBeginner := goodIn_r _ [14, 15, 23, 24, 25, 26, 27, 28, 29, 30, 31, 32, 33, 34, 35, 36, 37, 38, 39, 40, 41, 42, 43, 44, 45, 46, 47, 48, 49, 50, 51, 52, 53, 54, 55] (by decide +kernel) (by decide +kernel)
set_option maxRecDepth 20000 in
theorem gX10_met_X10_isBeginner : GoodIn wsX10_met (wsV RX10 119 RX10 yX10_isBeginner wsX10_isBeginner) := goodIn_app (goodIn_of _ (by decide +kernel)) ggX10_met_X10_isBeginner
set_option maxRecDepth 20000 in
theorem ggX10_met_X10_refuse : GoodIn wsX10_met wsX10_refuse := goodIn_r _ [19, 2, 23, 24, 25, 26, 27, 28, 29, 30, 31, 32, 33, 34, 35, 36, 37, 38, 39, 40, 41, 42, 43, 44, 45, 46, 47, 48, 49, 50, 51, 52, 53, 54, 55] (by decide +kernel) (by decide +kernel)
set_option maxRecDepth 20000 in
theorem gX10_met_X10_refuse : GoodIn wsX10_met (wsV RX10 113 RX10 yX10_refuse wsX10_refuse) := goodIn_app (goodIn_of _ (by decide +kernel)) ggX10_met_X10_refuse
set_option maxRecDepth 20000 in
theorem ggX10_met_X10_isDay : GoodIn wsX10_met wsX10_isDay := goodIn_r _ [22] (by decide +kernel) (by decide +kernel)
set_option maxRecDepth 20000 in
theorem gX10_met_X10_isDay : GoodIn wsX10_met (va_wsS RX10 162 yX10_isDay wsX10_isDay) := goodIn_app (goodIn_of _ (by decide +kernel)) ggX10_met_X10_isDay
set_option maxRecDepth 20000 in
theorem ggX10_goal_X10_isBeginner : GoodIn wsX10_goal wsX10_isBeginner := goodIn_r _ [12, 13, 21, 22, 23, 24, 25, 26, 27, 28, 29, 30, 31, 32, 33, 34, 35, 36, 37, 38, 39, 40, 41, 42, 43, 44, 45, 46, 47, 48, 49, 50, 51, 52, 53] (by decide +kernel) (by decide +kernel)
set_option maxRecDepth 20000 in
theorem gX10_goal_X10_isBeginner : GoodIn wsX10_goal (wsV RX10 119 RX10 yX10_isBeginner wsX10_isBeginner) := goodIn_app (goodIn_of _ (by decide +kernel)) ggX10_goal_X10_isBeginner
set_option maxRecDepth 20000 in
theorem ggX10_goal_X10_refuse : GoodIn wsX10_goal wsX10_refuse := goodIn_r _ [17, 2, 21, 22, 23, 24, 25, 26, 27, 28, 29, 30, 31, 32, 33, 34, 35, 36, 37, 38, 39, 40, 41, 42, 43, 44, 45, 46, 47, 48, 49, 50, 51, 52, 53] (by decide +kernel) (by decide +kernel)
set_option maxRecDepth 20000 in
theorem gX10_goal_X10_refuse : GoodIn wsX10_goal (wsV RX10 113 RX10 yX10_refuse wsX10_refuse) := goodIn_app (goodIn_of _ (by decide +kernel)) ggX10_goal_X10_refuse
set_option maxRecDepth 20000 in
theorem ggX10_goal_X10_isDay : GoodIn wsX10_goal wsX10_isDay := goodIn_r _ [20] (by decide +kernel) (by decide +kernel)
set_option maxRecDepth 20000 in
theorem gX10_goal_X10_isDay : GoodIn wsX10_goal (va_wsS RX10 162 yX10_isDay wsX10_isDay) := goodIn_app (goodIn_of _ (by decide +kernel)) ggX10_goal_X10_isDay
set_option maxRecDepth 20000 in
theorem ggX10_confirm_X10_no : GoodIn wsX10_confirm wsX10_no := goodIn_r _ [9, 2, 13, 14, 15, 16, 17, 18, 19, 20, 21, 22, 23, 24, 25, 26, 27, 28, 29, 30, 31, 32, 33, 34, 35, 36, 37, 38, 39, 40, 41, 42, 43, 44, 45] (by decide +kernel) (by decide +kernel)
set_option maxRecDepth 20000 in
theorem gX10_confirm_X10_no : GoodIn wsX10_confirm (wsV RX10 89 RX10 yX10_no wsX10_no) := goodIn_app (goodIn_of _ (by decide +kernel)) ggX10_confirm_X10_no
set_option maxRecDepth 20000 in
theorem ggX10_confirm_X10_isDay : GoodIn wsX10_confirm wsX10_isDay := goodIn_r _ [12] (by decide +kernel) (by decide +kernel)
set_option maxRecDepth 20000 in
theorem gX10_confirm_X10_isDay : GoodIn wsX10_confirm (va_wsS RX10 162 yX10_isDay wsX10_isDay) := goodIn_app (goodIn_of _ (by decide +kernel)) ggX10_confirm_X10_isDay
set_option maxRecDepth 20000 in
theorem ggX10_goalAt_X10_refuse : GoodIn wsX10_goalAt wsX10_refuse := goodIn_r _ [9, 2, 19, 20, 21, 22, 23, 24, 25, 26, 27, 28, 29, 30, 31, 32, 33, 34, 35, 36, 37, 38, 39, 40, 41, 42, 43, 44, 45, 46, 47, 48, 49, 50, 51] (by decide +kernel) (by decide +kernel)
set_option maxRecDepth 20000 in
theorem gX10_goalAt_X10_refuse : GoodIn wsX10_goalAt (wsV RX10 113 RX10 yX10_refuse wsX10_refuse) := goodIn_app (goodIn_of _ (by decide +kernel)) ggX10_goalAt_X10_refuse
set_option maxRecDepth 20000 in
theorem ggX10_goalAt_X10_isDay : GoodIn wsX10_goalAt wsX10_isDay := goodIn_r _ [12] (by decide +kernel) (by decide +kernel)
set_option maxRecDepth 20000 in
theorem gX10_goalAt_X10_isDay : GoodIn wsX10_goalAt (va_wsS RX10 162 yX10_isDay wsX10_isDay) := goodIn_app (goodIn_of _ (by decide +kernel)) ggX10_goalAt_X10_isDay
set_option maxRecDepth 20000 in
theorem ggX10_goalAt_X10_isReached : GoodIn wsX10_goalAt wsX10_isReached := goodIn_r _ [16, 17, 4, 18, 19, 20, 21, 22, 23, 24, 25, 26, 27, 28, 29, 30, 31, 32, 33, 34, 35, 36, 37, 38, 39, 40, 41, 42, 43, 44, 45, 46, 47, 48, 49, 50, 51] (by decide +kernel) (by decide +kernel)
set_option maxRecDepth 20000 in
theorem gX10_goalAt_X10_isReached : GoodIn wsX10_goalAt (wsV RX10 174 RX10 yX10_isReached wsX10_isReached) := goodIn_app (goodIn_of _ (by decide +kernel)) ggX10_goalAt_X10_isReached
set_option maxRecDepth 20000 in
theorem ggX10_tells_X10_common : GoodIn wsX10_tells wsX10_common := goodIn_r _ [6, 7, 8, 9, 10] (by decide +kernel) (by decide +kernel)
set_option maxRecDepth 20000 in
theorem gX10_tells_X10_common : GoodIn wsX10_tells (va_wsS RX10 183 yX10_common wsX10_common) := goodIn_app (goodIn_of _ (by decide +kernel)) ggX10_tells_X10_common
set_option maxRecDepth 20000 in
theorem ggX10_run_X10_no : GoodIn wsX10_run wsX10_no := goodIn_r _ [10, 2, 11, 12, 13, 14, 15, 16, 17, 18, 19, 20, 21, 22, 23, 24, 25, 26, 27, 28, 29, 30, 31, 32, 33, 34, 35, 36, 37, 38, 39, 40, 41, 42, 43] (by decide +kernel) (by decide +kernel)
set_option maxRecDepth 20000 in
theorem gX10_run_X10_no : GoodIn wsX10_run (wsV RX10 89 RX10 yX10_no wsX10_no) := goodIn_app (goodIn_of _ (by decide +kernel)) ggX10_run_X10_no
set_option maxRecDepth 20000 in
theorem ggX10_lasts_X10_no : GoodIn wsX10_lasts wsX10_no := goodIn_r _ [10, 2, 24, 25, 26, 27, 28, 29, 30, 31, 32, 33, 34, 35, 36, 37, 38, 39, 40, 41, 42, 43, 44, 45, 46, 47, 48, 49, 50, 51, 52, 53, 54, 55, 56] (by decide +kernel) (by decide +kernel)
set_option maxRecDepth 20000 in
theorem gX10_lasts_X10_no : GoodIn wsX10_lasts (wsV RX10 89 RX10 yX10_no wsX10_no) := goodIn_app (goodIn_of _ (by decide +kernel)) ggX10_lasts_X10_no
set_option maxRecDepth 20000 in
theorem ggX10_lasts_X10_tells : GoodIn wsX10_lasts wsX10_tells := goodIn_r _ [14, 15, 16, 17, 18, 9, 19, 20, 21, 22, 23, 24, 25, 26, 27, 28, 29, 30, 31, 32, 33, 34, 35, 36, 37, 38, 39, 40, 41, 42, 43, 44, 45, 46, 47, 48, 49, 50, 51, 52, 53, 54, 55, 56] (by decide +kernel) (by decide +kernel)
set_option maxRecDepth 20000 in
theorem gX10_lasts_X10_tells : GoodIn wsX10_lasts (wsV RX10 193 RX10 yX10_tells wsX10_tells) := goodIn_app (goodIn_of _ (by decide +kernel)) ggX10_lasts_X10_tells
set_option maxRecDepth 20000 in
theorem ggX10_trial_X10_trayed : GoodIn wsX10_trial wsX10_trayed := goodIn_r _ [8, 1, 9, 10, 11, 12, 13, 14, 15, 16, 17, 18, 19, 20, 21, 22, 23, 24, 25, 26, 27, 28, 29, 30, 31, 32, 33, 34, 35, 36, 37, 38, 39, 40, 41] (by decide +kernel) (by decide +kernel)
set_option maxRecDepth 20000 in
theorem gX10_trial_X10_trayed : GoodIn wsX10_trial (wsV RX10 93 RX10 yX10_trayed wsX10_trayed) := goodIn_app (goodIn_of _ (by decide +kernel)) ggX10_trial_X10_trayed
set_option maxRecDepth 20000 in
theorem ggX10_gain_X10_trial : GoodIn wsX10_gain wsX10_trial := goodIn_r _ [7, 8, 9, 10, 11, 12, 13, 6, 14, 39, 40, 41, 42, 43, 44, 45, 46, 47, 48, 49, 50, 51, 52, 53, 54, 55, 56, 57, 58, 59, 60, 61, 62, 63, 64, 65, 66, 67, 68, 69, 70, 71] (by decide +kernel) (by decide +kernel)
set_option maxRecDepth 20000 in
theorem gX10_gain_X10_trial : GoodIn wsX10_gain (wsV RX10 199 RX10 yX10_trial wsX10_trial) := goodIn_app (goodIn_of _ (by decide +kernel)) ggX10_gain_X10_trial
set_option maxRecDepth 20000 in
theorem ggX10_gain_J6_bitCount_0f7a4 : GoodIn wsX10_gain wsJ6_bitCount_0f7a4 := goodIn_r _ [18, 19, 20, 21] (by decide +kernel) (by decide +kernel)
set_option maxRecDepth 20000 in
theorem gX10_gain_J6_bitCount_0f7a4 : GoodIn wsX10_gain (va_wsS RX10 203 yJ6_bitCount_0f7a4 wsJ6_bitCount_0f7a4) := goodIn_app (goodIn_of _ (by decide +kernel)) ggX10_gain_J6_bitCount_0f7a4
set_option maxRecDepth 20000 in
theorem ggX10_gain_X10_sumOf : GoodIn wsX10_gain wsX10_sumOf := goodIn_r _ [25, 9, 39, 40, 41, 42, 43, 44, 45, 46, 47, 48, 49, 50, 51, 52, 53, 54, 55, 56, 57, 58, 59, 60, 61, 62, 63, 64, 65, 66, 67, 68, 69, 70, 71] (by decide +kernel) (by decide +kernel)
set_option maxRecDepth 20000 in
theorem gX10_gain_X10_sumOf : GoodIn wsX10_gain (wsV RX10 208 RX10 yX10_sumOf wsX10_sumOf) := goodIn_app (goodIn_of _ (by decide +kernel)) ggX10_gain_X10_sumOf
set_option maxRecDepth 20000 in
theorem ggX10_gain_X10_tells : GoodIn wsX10_gain wsX10_tells := goodIn_r _ [29, 30, 31, 32, 33, 6, 34, 35, 36, 37, 38, 39, 40, 41, 42, 43, 44, 45, 46, 47, 48, 49, 50, 51, 52, 53, 54, 55, 56, 57, 58, 59, 60, 61, 62, 63, 64, 65, 66, 67, 68, 69, 70, 71] (by decide +kernel) (by decide +kernel)
set_option maxRecDepth 20000 in
theorem gX10_gain_X10_tells : GoodIn wsX10_gain (wsV RX10 193 RX10 yX10_tells wsX10_tells) := goodIn_app (goodIn_of _ (by decide +kernel)) ggX10_gain_X10_tells
set_option maxRecDepth 20000 in
theorem ggX10_chance_X10_trial : GoodIn wsX10_chance wsX10_trial := goodIn_r _ [7, 8, 9, 10, 11, 12, 13, 6, 14, 39, 40, 41, 42, 43, 44, 45, 46, 47, 48, 49, 50, 51, 52, 53, 54, 55, 56, 57, 58, 59, 60, 61, 62, 63, 64, 65, 66, 67, 68, 69, 70, 71] (by decide +kernel) (by decide +kernel)
set_option maxRecDepth 20000 in
theorem gX10_chance_X10_trial : GoodIn wsX10_chance (wsV RX10 199 RX10 yX10_trial wsX10_trial) := goodIn_app (goodIn_of _ (by decide +kernel)) ggX10_chance_X10_trial
set_option maxRecDepth 20000 in
theorem ggX10_chance_J6_bitCount_0f7a4 : GoodIn wsX10_chance wsJ6_bitCount_0f7a4 := goodIn_r _ [18, 19, 20, 21] (by decide +kernel) (by decide +kernel)
set_option maxRecDepth 20000 in
theorem gX10_chance_J6_bitCount_0f7a4 : GoodIn wsX10_chance (va_wsS RX10 203 yJ6_bitCount_0f7a4 wsJ6_bitCount_0f7a4) := goodIn_app (goodIn_of _ (by decide +kernel)) ggX10_chance_J6_bitCount_0f7a4
set_option maxRecDepth 20000 in
theorem ggX10_chance_X10_sumOf : GoodIn wsX10_chance wsX10_sumOf := goodIn_r _ [25, 9, 39, 40, 41, 42, 43, 44, 45, 46, 47, 48, 49, 50, 51, 52, 53, 54, 55, 56, 57, 58, 59, 60, 61, 62, 63, 64, 65, 66, 67, 68, 69, 70, 71] (by decide +kernel) (by decide +kernel)
set_option maxRecDepth 20000 in
theorem gX10_chance_X10_sumOf : GoodIn wsX10_chance (wsV RX10 208 RX10 yX10_sumOf wsX10_sumOf) := goodIn_app (goodIn_of _ (by decide +kernel)) ggX10_chance_X10_sumOf
set_option maxRecDepth 20000 in
theorem ggX10_chance_X10_tells : GoodIn wsX10_chance wsX10_tells := goodIn_r _ [29, 30, 31, 32, 33, 6, 34, 35, 36, 37, 38, 39, 40, 41, 42, 43, 44, 45, 46, 47, 48, 49, 50, 51, 52, 53, 54, 55, 56, 57, 58, 59, 60, 61, 62, 63, 64, 65, 66, 67, 68, 69, 70, 71] (by decide +kernel) (by decide +kernel)
set_option maxRecDepth 20000 in
theorem gX10_chance_X10_tells : GoodIn wsX10_chance (wsV RX10 193 RX10 yX10_tells wsX10_tells) := goodIn_app (goodIn_of _ (by decide +kernel)) ggX10_chance_X10_tells
set_option maxRecDepth 20000 in
theorem ggX10_draw_X10_refuse : GoodIn wsX10_draw wsX10_refuse := goodIn_r _ [10, 2, 11, 12, 13, 14, 15, 16, 17, 18, 19, 20, 21, 22, 23, 24, 25, 26, 27, 28, 29, 30, 31, 32, 33, 34, 35, 36, 37, 38, 39, 40, 41, 42, 43] (by decide +kernel) (by decide +kernel)
set_option maxRecDepth 20000 in
theorem gX10_draw_X10_refuse : GoodIn wsX10_draw (wsV RX10 113 RX10 yX10_refuse wsX10_refuse) := goodIn_app (goodIn_of _ (by decide +kernel)) ggX10_draw_X10_refuse
abbrev vwCl : List vw_C := [(RX0, TX0, 6), (RX1, TX1, 2), (RX2, TX2, 5), (RX3, TX3, 7), (RX4, TX4, 3), (RX5, TX5, 5), (RX6, TX6, 3), (RX7, TX7, 4), (RX8, TX8, 3), (RX9, TX9, 10), (RX10, TX10, 33)]
