section
-- ===== PART A: goes FIRST, ahead of the names: the tables' words, and 'selects' of the private methods out of them =====
/-- a private method of a class that the tables say can be made, by its rows of tables_1 -/
def lw_okq (q : MethodName × Nat) : Prop := (q.1.cls ≠ "java/lang/invoke/MethodHandle" ∧ q.1.cls ≠ "java/lang/invoke/VarHandle") ∧ Cond.instantiable q.1.cls q.2 ∈ tables_1 ∧ Cond.privateMethod q.1 ∈ tables_1 ∧ Cond.instanceMethod q.1 ∈ tables_1
theorem lw_p0 : lw_okq (⟨"MentorPairs", "finish", "(I)Z"⟩, 10) := ⟨⟨by decide +kernel, by decide +kernel⟩, List.mem_of_getElem? (i := 17) (by decide +kernel), List.mem_of_getElem? (i := 275) (by decide +kernel), List.mem_of_getElem? (i := 276) (by decide +kernel)⟩
theorem lw_p1 : lw_okq (⟨"MentorPairs$Tray", "make", "(II)V"⟩, 4) := ⟨⟨by decide +kernel, by decide +kernel⟩, List.mem_of_getElem? (i := 210) (by decide +kernel), List.mem_of_getElem? (i := 279) (by decide +kernel), List.mem_of_getElem? (i := 280) (by decide +kernel)⟩
theorem lw_p2 : lw_okq (⟨"MentorPairs", "placeFault", "(II)I"⟩, 10) := ⟨⟨by decide +kernel, by decide +kernel⟩, List.mem_of_getElem? (i := 17) (by decide +kernel), List.mem_of_getElem? (i := 290) (by decide +kernel), List.mem_of_getElem? (i := 291) (by decide +kernel)⟩
theorem lw_p3 : lw_okq (⟨"MentorPairs", "trayFault", "(I)I"⟩, 10) := ⟨⟨by decide +kernel, by decide +kernel⟩, List.mem_of_getElem? (i := 17) (by decide +kernel), List.mem_of_getElem? (i := 294) (by decide +kernel), List.mem_of_getElem? (i := 295) (by decide +kernel)⟩
theorem lw_p4 : lw_okq (⟨"MentorPairs$Tray", "hasPlaces", "(II)Z"⟩, 4) := ⟨⟨by decide +kernel, by decide +kernel⟩, List.mem_of_getElem? (i := 210) (by decide +kernel), List.mem_of_getElem? (i := 298) (by decide +kernel), List.mem_of_getElem? (i := 299) (by decide +kernel)⟩
theorem lw_p5 : lw_okq (⟨"MentorPairs$Tray", "put", "(IJ)V"⟩, 4) := ⟨⟨by decide +kernel, by decide +kernel⟩, List.mem_of_getElem? (i := 210) (by decide +kernel), List.mem_of_getElem? (i := 302) (by decide +kernel), List.mem_of_getElem? (i := 303) (by decide +kernel)⟩
theorem lw_p6 : lw_okq (⟨"MentorPairs$Tray", "cut", "(J)J"⟩, 4) := ⟨⟨by decide +kernel, by decide +kernel⟩, List.mem_of_getElem? (i := 210) (by decide +kernel), List.mem_of_getElem? (i := 306) (by decide +kernel), List.mem_of_getElem? (i := 307) (by decide +kernel)⟩
theorem lw_p7 : lw_okq (⟨"MentorPairs", "pourFault", "(IIIII)I"⟩, 10) := ⟨⟨by decide +kernel, by decide +kernel⟩, List.mem_of_getElem? (i := 17) (by decide +kernel), List.mem_of_getElem? (i := 319) (by decide +kernel), List.mem_of_getElem? (i := 320) (by decide +kernel)⟩
theorem lw_p8 : lw_okq (⟨"MentorPairs", "refused", "(I)I"⟩, 10) := ⟨⟨by decide +kernel, by decide +kernel⟩, List.mem_of_getElem? (i := 17) (by decide +kernel), List.mem_of_getElem? (i := 333) (by decide +kernel), List.mem_of_getElem? (i := 334) (by decide +kernel)⟩
theorem lw_p9 : lw_okq (⟨"MentorPairs$Circle", "addElder", "(I)I"⟩, 6) := ⟨⟨by decide +kernel, by decide +kernel⟩, List.mem_of_getElem? (i := 27) (by decide +kernel), List.mem_of_getElem? (i := 337) (by decide +kernel), List.mem_of_getElem? (i := 338) (by decide +kernel)⟩
theorem lw_p10 : lw_okq (⟨"MentorPairs", "answered", "(I)I"⟩, 10) := ⟨⟨by decide +kernel, by decide +kernel⟩, List.mem_of_getElem? (i := 17) (by decide +kernel), List.mem_of_getElem? (i := 341) (by decide +kernel), List.mem_of_getElem? (i := 342) (by decide +kernel)⟩
theorem lw_p11 : lw_okq (⟨"MentorPairs$Circle", "addBeginner", "()I"⟩, 6) := ⟨⟨by decide +kernel, by decide +kernel⟩, List.mem_of_getElem? (i := 27) (by decide +kernel), List.mem_of_getElem? (i := 349) (by decide +kernel), List.mem_of_getElem? (i := 350) (by decide +kernel)⟩
theorem lw_p12 : lw_okq (⟨"MentorPairs$Circle", "isElder", "(I)Z"⟩, 6) := ⟨⟨by decide +kernel, by decide +kernel⟩, List.mem_of_getElem? (i := 27) (by decide +kernel), List.mem_of_getElem? (i := 357) (by decide +kernel), List.mem_of_getElem? (i := 358) (by decide +kernel)⟩
theorem lw_p13 : lw_okq (⟨"MentorPairs$Circle", "areTwo", "(II)Z"⟩, 6) := ⟨⟨by decide +kernel, by decide +kernel⟩, List.mem_of_getElem? (i := 27) (by decide +kernel), List.mem_of_getElem? (i := 365) (by decide +kernel), List.mem_of_getElem? (i := 366) (by decide +kernel)⟩
theorem lw_p14 : lw_okq (⟨"MentorPairs$Circle", "isBeginner", "(I)Z"⟩, 6) := ⟨⟨by decide +kernel, by decide +kernel⟩, List.mem_of_getElem? (i := 27) (by decide +kernel), List.mem_of_getElem? (i := 370) (by decide +kernel), List.mem_of_getElem? (i := 371) (by decide +kernel)⟩
theorem lw_p15 : lw_okq (⟨"MentorPairs$Circle", "setLiking", "(IIZI)V"⟩, 6) := ⟨⟨by decide +kernel, by decide +kernel⟩, List.mem_of_getElem? (i := 27) (by decide +kernel), List.mem_of_getElem? (i := 374) (by decide +kernel), List.mem_of_getElem? (i := 375) (by decide +kernel)⟩
def lw_privs_1 : List (MethodName × Nat) := [(⟨"MentorPairs", "finish", "(I)Z"⟩, 10), (⟨"MentorPairs$Tray", "make", "(II)V"⟩, 4), (⟨"MentorPairs", "placeFault", "(II)I"⟩, 10), (⟨"MentorPairs", "trayFault", "(I)I"⟩, 10), (⟨"MentorPairs$Tray", "hasPlaces", "(II)Z"⟩, 4), (⟨"MentorPairs$Tray", "put", "(IJ)V"⟩, 4), (⟨"MentorPairs$Tray", "cut", "(J)J"⟩, 4), (⟨"MentorPairs", "pourFault", "(IIIII)I"⟩, 10), (⟨"MentorPairs", "refused", "(I)I"⟩, 10), (⟨"MentorPairs$Circle", "addElder", "(I)I"⟩, 6), (⟨"MentorPairs", "answered", "(I)I"⟩, 10), (⟨"MentorPairs$Circle", "addBeginner", "()I"⟩, 6), (⟨"MentorPairs$Circle", "isElder", "(I)Z"⟩, 6), (⟨"MentorPairs$Circle", "areTwo", "(II)Z"⟩, 6), (⟨"MentorPairs$Circle", "isBeginner", "(I)Z"⟩, 6), (⟨"MentorPairs$Circle", "setLiking", "(IIZI)V"⟩, 6)]
theorem lw_r1 : ∀ q ∈ lw_privs_1, lw_okq q := List.forall_mem_cons.mpr ⟨lw_p0, List.forall_mem_cons.mpr ⟨lw_p1, List.forall_mem_cons.mpr ⟨lw_p2, List.forall_mem_cons.mpr ⟨lw_p3, List.forall_mem_cons.mpr ⟨lw_p4, List.forall_mem_cons.mpr ⟨lw_p5, List.forall_mem_cons.mpr ⟨lw_p6, List.forall_mem_cons.mpr ⟨lw_p7, List.forall_mem_cons.mpr ⟨lw_p8, List.forall_mem_cons.mpr ⟨lw_p9, List.forall_mem_cons.mpr ⟨lw_p10, List.forall_mem_cons.mpr ⟨lw_p11, List.forall_mem_cons.mpr ⟨lw_p12, List.forall_mem_cons.mpr ⟨lw_p13, List.forall_mem_cons.mpr ⟨lw_p14, List.forall_mem_cons.mpr ⟨lw_p15, fun _ h => absurd h List.not_mem_nil⟩⟩⟩⟩⟩⟩⟩⟩⟩⟩⟩⟩⟩⟩⟩⟩
theorem lw_p16 : lw_okq (⟨"MentorPairs$Circle", "isBarred", "(II)Z"⟩, 6) := ⟨⟨by decide +kernel, by decide +kernel⟩, List.mem_of_getElem? (i := 27) (by decide +kernel), List.mem_of_getElem? (i := 385) (by decide +kernel), List.mem_of_getElem? (i := 386) (by decide +kernel)⟩
theorem lw_p17 : lw_okq (⟨"MentorPairs$Circle", "setBarred", "(IIZ)V"⟩, 6) := ⟨⟨by decide +kernel, by decide +kernel⟩, List.mem_of_getElem? (i := 27) (by decide +kernel), List.mem_of_getElem? (i := 389) (by decide +kernel), List.mem_of_getElem? (i := 390) (by decide +kernel)⟩
theorem lw_p18 : lw_okq (⟨"MentorPairs$Pairing", "makeBest", "(LMentorPairs$Circle;)I"⟩, 3) := ⟨⟨by decide +kernel, by decide +kernel⟩, List.mem_of_getElem? (i := 63) (by decide +kernel), List.mem_of_getElem? (i := 397) (by decide +kernel), List.mem_of_getElem? (i := 398) (by decide +kernel)⟩
theorem lw_p19 : lw_okq (⟨"MentorPairs$Pairing", "seat", "(LMentorPairs$Circle;I)V"⟩, 3) := ⟨⟨by decide +kernel, by decide +kernel⟩, List.mem_of_getElem? (i := 63) (by decide +kernel), List.mem_of_getElem? (i := 401) (by decide +kernel), List.mem_of_getElem? (i := 402) (by decide +kernel)⟩
theorem lw_p20 : lw_okq (⟨"MentorPairs$Pairing", "nextChoice", "(LMentorPairs$Circle;I)I"⟩, 3) := ⟨⟨by decide +kernel, by decide +kernel⟩, List.mem_of_getElem? (i := 63) (by decide +kernel), List.mem_of_getElem? (i := 405) (by decide +kernel), List.mem_of_getElem? (i := 406) (by decide +kernel)⟩
theorem lw_p21 : lw_okq (⟨"MentorPairs$Circle", "canPair", "(II)Z"⟩, 6) := ⟨⟨by decide +kernel, by decide +kernel⟩, List.mem_of_getElem? (i := 27) (by decide +kernel), List.mem_of_getElem? (i := 409) (by decide +kernel), List.mem_of_getElem? (i := 410) (by decide +kernel)⟩
theorem lw_p22 : lw_okq (⟨"MentorPairs$Circle", "beginnerPrefers", "(III)Z"⟩, 6) := ⟨⟨by decide +kernel, by decide +kernel⟩, List.mem_of_getElem? (i := 27) (by decide +kernel), List.mem_of_getElem? (i := 413) (by decide +kernel), List.mem_of_getElem? (i := 414) (by decide +kernel)⟩
theorem lw_p23 : lw_okq (⟨"MentorPairs$Pairing", "askFor", "(LMentorPairs$Circle;II)I"⟩, 3) := ⟨⟨by decide +kernel, by decide +kernel⟩, List.mem_of_getElem? (i := 63) (by decide +kernel), List.mem_of_getElem? (i := 417) (by decide +kernel), List.mem_of_getElem? (i := 418) (by decide +kernel)⟩
theorem lw_p24 : lw_okq (⟨"MentorPairs$Pairing", "hasPlaceLeft", "(LMentorPairs$Circle;I)Z"⟩, 3) := ⟨⟨by decide +kernel, by decide +kernel⟩, List.mem_of_getElem? (i := 63) (by decide +kernel), List.mem_of_getElem? (i := 421) (by decide +kernel), List.mem_of_getElem? (i := 422) (by decide +kernel)⟩
theorem lw_p25 : lw_okq (⟨"MentorPairs$Pairing", "countOf", "(I)I"⟩, 3) := ⟨⟨by decide +kernel, by decide +kernel⟩, List.mem_of_getElem? (i := 63) (by decide +kernel), List.mem_of_getElem? (i := 425) (by decide +kernel), List.mem_of_getElem? (i := 426) (by decide +kernel)⟩
theorem lw_p26 : lw_okq (⟨"MentorPairs$Pairing", "leastOf", "(LMentorPairs$Circle;I)I"⟩, 3) := ⟨⟨by decide +kernel, by decide +kernel⟩, List.mem_of_getElem? (i := 63) (by decide +kernel), List.mem_of_getElem? (i := 429) (by decide +kernel), List.mem_of_getElem? (i := 430) (by decide +kernel)⟩
theorem lw_p27 : lw_okq (⟨"MentorPairs$Circle", "elderPrefers", "(III)Z"⟩, 6) := ⟨⟨by decide +kernel, by decide +kernel⟩, List.mem_of_getElem? (i := 27) (by decide +kernel), List.mem_of_getElem? (i := 433) (by decide +kernel), List.mem_of_getElem? (i := 434) (by decide +kernel)⟩
theorem lw_p28 : lw_okq (⟨"MentorPairs$Pairing", "countPairs", "()I"⟩, 3) := ⟨⟨by decide +kernel, by decide +kernel⟩, List.mem_of_getElem? (i := 63) (by decide +kernel), List.mem_of_getElem? (i := 437) (by decide +kernel), List.mem_of_getElem? (i := 438) (by decide +kernel)⟩
theorem lw_p29 : lw_okq (⟨"MentorPairs", "pairedFault", "(I)I"⟩, 10) := ⟨⟨by decide +kernel, by decide +kernel⟩, List.mem_of_getElem? (i := 17) (by decide +kernel), List.mem_of_getElem? (i := 445) (by decide +kernel), List.mem_of_getElem? (i := 446) (by decide +kernel)⟩
theorem lw_p30 : lw_okq (⟨"MentorPairs$Pairing", "countBlocking", "(LMentorPairs$Circle;)I"⟩, 3) := ⟨⟨by decide +kernel, by decide +kernel⟩, List.mem_of_getElem? (i := 63) (by decide +kernel), List.mem_of_getElem? (i := 459) (by decide +kernel), List.mem_of_getElem? (i := 460) (by decide +kernel)⟩
theorem lw_p31 : lw_okq (⟨"MentorPairs$Pairing", "isBlockedBy", "(LMentorPairs$Circle;II)Z"⟩, 3) := ⟨⟨by decide +kernel, by decide +kernel⟩, List.mem_of_getElem? (i := 63) (by decide +kernel), List.mem_of_getElem? (i := 463) (by decide +kernel), List.mem_of_getElem? (i := 464) (by decide +kernel)⟩
def lw_privs_2 : List (MethodName × Nat) := [(⟨"MentorPairs$Circle", "isBarred", "(II)Z"⟩, 6), (⟨"MentorPairs$Circle", "setBarred", "(IIZ)V"⟩, 6), (⟨"MentorPairs$Pairing", "makeBest", "(LMentorPairs$Circle;)I"⟩, 3), (⟨"MentorPairs$Pairing", "seat", "(LMentorPairs$Circle;I)V"⟩, 3), (⟨"MentorPairs$Pairing", "nextChoice", "(LMentorPairs$Circle;I)I"⟩, 3), (⟨"MentorPairs$Circle", "canPair", "(II)Z"⟩, 6), (⟨"MentorPairs$Circle", "beginnerPrefers", "(III)Z"⟩, 6), (⟨"MentorPairs$Pairing", "askFor", "(LMentorPairs$Circle;II)I"⟩, 3), (⟨"MentorPairs$Pairing", "hasPlaceLeft", "(LMentorPairs$Circle;I)Z"⟩, 3), (⟨"MentorPairs$Pairing", "countOf", "(I)I"⟩, 3), (⟨"MentorPairs$Pairing", "leastOf", "(LMentorPairs$Circle;I)I"⟩, 3), (⟨"MentorPairs$Circle", "elderPrefers", "(III)Z"⟩, 6), (⟨"MentorPairs$Pairing", "countPairs", "()I"⟩, 3), (⟨"MentorPairs", "pairedFault", "(I)I"⟩, 10), (⟨"MentorPairs$Pairing", "countBlocking", "(LMentorPairs$Circle;)I"⟩, 3), (⟨"MentorPairs$Pairing", "isBlockedBy", "(LMentorPairs$Circle;II)Z"⟩, 3)]
theorem lw_r2 : ∀ q ∈ lw_privs_2, lw_okq q := List.forall_mem_cons.mpr ⟨lw_p16, List.forall_mem_cons.mpr ⟨lw_p17, List.forall_mem_cons.mpr ⟨lw_p18, List.forall_mem_cons.mpr ⟨lw_p19, List.forall_mem_cons.mpr ⟨lw_p20, List.forall_mem_cons.mpr ⟨lw_p21, List.forall_mem_cons.mpr ⟨lw_p22, List.forall_mem_cons.mpr ⟨lw_p23, List.forall_mem_cons.mpr ⟨lw_p24, List.forall_mem_cons.mpr ⟨lw_p25, List.forall_mem_cons.mpr ⟨lw_p26, List.forall_mem_cons.mpr ⟨lw_p27, List.forall_mem_cons.mpr ⟨lw_p28, List.forall_mem_cons.mpr ⟨lw_p29, List.forall_mem_cons.mpr ⟨lw_p30, List.forall_mem_cons.mpr ⟨lw_p31, fun _ h => absurd h List.not_mem_nil⟩⟩⟩⟩⟩⟩⟩⟩⟩⟩⟩⟩⟩⟩⟩⟩
theorem lw_p32 : lw_okq (⟨"MentorPairs$Row", "findLast", "(LMentorPairs$Circle;LMentorPairs$Pairing;I)I"⟩, 5) := ⟨⟨by decide +kernel, by decide +kernel⟩, List.mem_of_getElem? (i := 85) (by decide +kernel), List.mem_of_getElem? (i := 476) (by decide +kernel), List.mem_of_getElem? (i := 477) (by decide +kernel)⟩
theorem lw_p33 : lw_okq (⟨"MentorPairs$Row", "freeElderFor", "(LMentorPairs$Circle;LMentorPairs$Pairing;I)I"⟩, 5) := ⟨⟨by decide +kernel, by decide +kernel⟩, List.mem_of_getElem? (i := 85) (by decide +kernel), List.mem_of_getElem? (i := 481) (by decide +kernel), List.mem_of_getElem? (i := 482) (by decide +kernel)⟩
theorem lw_p34 : lw_okq (⟨"MentorPairs$Row", "isFree", "(LMentorPairs$Circle;LMentorPairs$Pairing;I)Z"⟩, 5) := ⟨⟨by decide +kernel, by decide +kernel⟩, List.mem_of_getElem? (i := 85) (by decide +kernel), List.mem_of_getElem? (i := 489) (by decide +kernel), List.mem_of_getElem? (i := 490) (by decide +kernel)⟩
theorem lw_p35 : lw_okq (⟨"MentorPairs$Row", "queueLeavers", "(LMentorPairs$Circle;LMentorPairs$Pairing;I)V"⟩, 5) := ⟨⟨by decide +kernel, by decide +kernel⟩, List.mem_of_getElem? (i := 85) (by decide +kernel), List.mem_of_getElem? (i := 494) (by decide +kernel), List.mem_of_getElem? (i := 495) (by decide +kernel)⟩
theorem lw_p36 : lw_okq (⟨"MentorPairs$Row", "queueLeaversOf", "(LMentorPairs$Circle;LMentorPairs$Pairing;II)V"⟩, 5) := ⟨⟨by decide +kernel, by decide +kernel⟩, List.mem_of_getElem? (i := 85) (by decide +kernel), List.mem_of_getElem? (i := 498) (by decide +kernel), List.mem_of_getElem? (i := 499) (by decide +kernel)⟩
theorem lw_p37 : lw_okq (⟨"MentorPairs$Row", "moveAll", "(LMentorPairs$Pairing;I)I"⟩, 5) := ⟨⟨by decide +kernel, by decide +kernel⟩, List.mem_of_getElem? (i := 85) (by decide +kernel), List.mem_of_getElem? (i := 502) (by decide +kernel), List.mem_of_getElem? (i := 503) (by decide +kernel)⟩
theorem lw_p38 : lw_okq (⟨"MentorPairs$Meetings", "add", "(II)I"⟩, 7) := ⟨⟨by decide +kernel, by decide +kernel⟩, List.mem_of_getElem? (i := 107) (by decide +kernel), List.mem_of_getElem? (i := 513) (by decide +kernel), List.mem_of_getElem? (i := 514) (by decide +kernel)⟩
theorem lw_p39 : lw_okq (⟨"MentorPairs$Meetings", "isMeeting", "(I)Z"⟩, 7) := ⟨⟨by decide +kernel, by decide +kernel⟩, List.mem_of_getElem? (i := 107) (by decide +kernel), List.mem_of_getElem? (i := 521) (by decide +kernel), List.mem_of_getElem? (i := 522) (by decide +kernel)⟩
theorem lw_p40 : lw_okq (⟨"MentorPairs$Meetings", "addTelling", "(IZI)V"⟩, 7) := ⟨⟨by decide +kernel, by decide +kernel⟩, List.mem_of_getElem? (i := 107) (by decide +kernel), List.mem_of_getElem? (i := 525) (by decide +kernel), List.mem_of_getElem? (i := 526) (by decide +kernel)⟩
theorem lw_p41 : lw_okq (⟨"MentorPairs$Meetings", "count", "(III)I"⟩, 7) := ⟨⟨by decide +kernel, by decide +kernel⟩, List.mem_of_getElem? (i := 107) (by decide +kernel), List.mem_of_getElem? (i := 533) (by decide +kernel), List.mem_of_getElem? (i := 534) (by decide +kernel)⟩
theorem lw_p42 : lw_okq (⟨"MentorPairs$Meetings", "knownOn", "(II)I"⟩, 7) := ⟨⟨by decide +kernel, by decide +kernel⟩, List.mem_of_getElem? (i := 107) (by decide +kernel), List.mem_of_getElem? (i := 537) (by decide +kernel), List.mem_of_getElem? (i := 538) (by decide +kernel)⟩
theorem lw_p43 : lw_okq (⟨"MentorPairs$Goals", "isGoalOf", "(II)Z"⟩, 5) := ⟨⟨by decide +kernel, by decide +kernel⟩, List.mem_of_getElem? (i := 138) (by decide +kernel), List.mem_of_getElem? (i := 545) (by decide +kernel), List.mem_of_getElem? (i := 546) (by decide +kernel)⟩
theorem lw_p44 : lw_okq (⟨"MentorPairs$Goals", "isGoal", "(I)Z"⟩, 5) := ⟨⟨by decide +kernel, by decide +kernel⟩, List.mem_of_getElem? (i := 138) (by decide +kernel), List.mem_of_getElem? (i := 549) (by decide +kernel), List.mem_of_getElem? (i := 550) (by decide +kernel)⟩
theorem lw_p45 : lw_okq (⟨"MentorPairs$Goals", "add", "(III)I"⟩, 5) := ⟨⟨by decide +kernel, by decide +kernel⟩, List.mem_of_getElem? (i := 138) (by decide +kernel), List.mem_of_getElem? (i := 553) (by decide +kernel), List.mem_of_getElem? (i := 554) (by decide +kernel)⟩
theorem lw_p46 : lw_okq (⟨"MentorPairs$Goals", "asOf", "(II)I"⟩, 5) := ⟨⟨by decide +kernel, by decide +kernel⟩, List.mem_of_getElem? (i := 138) (by decide +kernel), List.mem_of_getElem? (i := 566) (by decide +kernel), List.mem_of_getElem? (i := 567) (by decide +kernel)⟩
theorem lw_p47 : lw_okq (⟨"MentorPairs$Goals", "isReached", "(II)Z"⟩, 5) := ⟨⟨by decide +kernel, by decide +kernel⟩, List.mem_of_getElem? (i := 138) (by decide +kernel), List.mem_of_getElem? (i := 570) (by decide +kernel), List.mem_of_getElem? (i := 571) (by decide +kernel)⟩
def lw_privs_3 : List (MethodName × Nat) := [(⟨"MentorPairs$Row", "findLast", "(LMentorPairs$Circle;LMentorPairs$Pairing;I)I"⟩, 5), (⟨"MentorPairs$Row", "freeElderFor", "(LMentorPairs$Circle;LMentorPairs$Pairing;I)I"⟩, 5), (⟨"MentorPairs$Row", "isFree", "(LMentorPairs$Circle;LMentorPairs$Pairing;I)Z"⟩, 5), (⟨"MentorPairs$Row", "queueLeavers", "(LMentorPairs$Circle;LMentorPairs$Pairing;I)V"⟩, 5), (⟨"MentorPairs$Row", "queueLeaversOf", "(LMentorPairs$Circle;LMentorPairs$Pairing;II)V"⟩, 5), (⟨"MentorPairs$Row", "moveAll", "(LMentorPairs$Pairing;I)I"⟩, 5), (⟨"MentorPairs$Meetings", "add", "(II)I"⟩, 7), (⟨"MentorPairs$Meetings", "isMeeting", "(I)Z"⟩, 7), (⟨"MentorPairs$Meetings", "addTelling", "(IZI)V"⟩, 7), (⟨"MentorPairs$Meetings", "count", "(III)I"⟩, 7), (⟨"MentorPairs$Meetings", "knownOn", "(II)I"⟩, 7), (⟨"MentorPairs$Goals", "isGoalOf", "(II)Z"⟩, 5), (⟨"MentorPairs$Goals", "isGoal", "(I)Z"⟩, 5), (⟨"MentorPairs$Goals", "add", "(III)I"⟩, 5), (⟨"MentorPairs$Goals", "asOf", "(II)I"⟩, 5), (⟨"MentorPairs$Goals", "isReached", "(II)Z"⟩, 5)]
theorem lw_r3 : ∀ q ∈ lw_privs_3, lw_okq q := List.forall_mem_cons.mpr ⟨lw_p32, List.forall_mem_cons.mpr ⟨lw_p33, List.forall_mem_cons.mpr ⟨lw_p34, List.forall_mem_cons.mpr ⟨lw_p35, List.forall_mem_cons.mpr ⟨lw_p36, List.forall_mem_cons.mpr ⟨lw_p37, List.forall_mem_cons.mpr ⟨lw_p38, List.forall_mem_cons.mpr ⟨lw_p39, List.forall_mem_cons.mpr ⟨lw_p40, List.forall_mem_cons.mpr ⟨lw_p41, List.forall_mem_cons.mpr ⟨lw_p42, List.forall_mem_cons.mpr ⟨lw_p43, List.forall_mem_cons.mpr ⟨lw_p44, List.forall_mem_cons.mpr ⟨lw_p45, List.forall_mem_cons.mpr ⟨lw_p46, List.forall_mem_cons.mpr ⟨lw_p47, fun _ h => absurd h List.not_mem_nil⟩⟩⟩⟩⟩⟩⟩⟩⟩⟩⟩⟩⟩⟩⟩⟩
theorem lw_p48 : lw_okq (⟨"MentorPairs$Runs", "add", "(IZ)V"⟩, 3) := ⟨⟨by decide +kernel, by decide +kernel⟩, List.mem_of_getElem? (i := 162) (by decide +kernel), List.mem_of_getElem? (i := 578) (by decide +kernel), List.mem_of_getElem? (i := 579) (by decide +kernel)⟩
theorem lw_p49 : lw_okq (⟨"MentorPairs$Runs", "shareBeyond", "(ILMentorPairs$Fraction;)V"⟩, 3) := ⟨⟨by decide +kernel, by decide +kernel⟩, List.mem_of_getElem? (i := 162) (by decide +kernel), List.mem_of_getElem? (i := 590) (by decide +kernel), List.mem_of_getElem? (i := 591) (by decide +kernel)⟩
theorem lw_p50 : lw_okq (⟨"MentorPairs$Runs", "countEnded", "(I)I"⟩, 3) := ⟨⟨by decide +kernel, by decide +kernel⟩, List.mem_of_getElem? (i := 162) (by decide +kernel), List.mem_of_getElem? (i := 594) (by decide +kernel), List.mem_of_getElem? (i := 595) (by decide +kernel)⟩
theorem lw_p51 : lw_okq (⟨"MentorPairs$Runs", "countAtRisk", "(I)I"⟩, 3) := ⟨⟨by decide +kernel, by decide +kernel⟩, List.mem_of_getElem? (i := 162) (by decide +kernel), List.mem_of_getElem? (i := 598) (by decide +kernel), List.mem_of_getElem? (i := 599) (by decide +kernel)⟩
theorem lw_p52 : lw_okq (⟨"MentorPairs$Fraction", "become", "(JJ)V"⟩, 2) := ⟨⟨by decide +kernel, by decide +kernel⟩, List.mem_of_getElem? (i := 196) (by decide +kernel), List.mem_of_getElem? (i := 602) (by decide +kernel), List.mem_of_getElem? (i := 603) (by decide +kernel)⟩
theorem lw_p53 : lw_okq (⟨"MentorPairs", "trialFault", "(III)I"⟩, 10) := ⟨⟨by decide +kernel, by decide +kernel⟩, List.mem_of_getElem? (i := 17) (by decide +kernel), List.mem_of_getElem? (i := 624) (by decide +kernel), List.mem_of_getElem? (i := 625) (by decide +kernel)⟩
theorem lw_p54 : lw_okq (⟨"MentorPairs$Tray", "hasOutcomes", "(I)Z"⟩, 4) := ⟨⟨by decide +kernel, by decide +kernel⟩, List.mem_of_getElem? (i := 210) (by decide +kernel), List.mem_of_getElem? (i := 628) (by decide +kernel), List.mem_of_getElem? (i := 629) (by decide +kernel)⟩
theorem lw_p55 : lw_okq (⟨"MentorPairs$Trial", "lay", "(LMentorPairs$Tray;I)V"⟩, 3) := ⟨⟨by decide +kernel, by decide +kernel⟩, List.mem_of_getElem? (i := 179) (by decide +kernel), List.mem_of_getElem? (i := 633) (by decide +kernel), List.mem_of_getElem? (i := 634) (by decide +kernel)⟩
theorem lw_p56 : lw_okq (⟨"MentorPairs$Trial", "laySums", "(LMentorPairs$Tray;I[J)V"⟩, 3) := ⟨⟨by decide +kernel, by decide +kernel⟩, List.mem_of_getElem? (i := 179) (by decide +kernel), List.mem_of_getElem? (i := 637) (by decide +kernel), List.mem_of_getElem? (i := 638) (by decide +kernel)⟩
theorem lw_p57 : lw_okq (⟨"MentorPairs$Trial", "gainOf", "(ILMentorPairs$Fraction;)V"⟩, 3) := ⟨⟨by decide +kernel, by decide +kernel⟩, List.mem_of_getElem? (i := 179) (by decide +kernel), List.mem_of_getElem? (i := 645) (by decide +kernel), List.mem_of_getElem? (i := 646) (by decide +kernel)⟩
theorem lw_p58 : lw_okq (⟨"MentorPairs$Trial", "sumOf", "(I)J"⟩, 3) := ⟨⟨by decide +kernel, by decide +kernel⟩, List.mem_of_getElem? (i := 179) (by decide +kernel), List.mem_of_getElem? (i := 655) (by decide +kernel), List.mem_of_getElem? (i := 656) (by decide +kernel)⟩
theorem lw_p59 : lw_okq (⟨"MentorPairs$Trial", "chanceOf", "(ILMentorPairs$Fraction;)V"⟩, 3) := ⟨⟨by decide +kernel, by decide +kernel⟩, List.mem_of_getElem? (i := 179) (by decide +kernel), List.mem_of_getElem? (i := 664) (by decide +kernel), List.mem_of_getElem? (i := 665) (by decide +kernel)⟩
theorem lw_p60 : lw_okq (⟨"MentorPairsModel", "no", "(I)Z"⟩, 33) := ⟨⟨by decide +kernel, by decide +kernel⟩, List.mem_of_getElem? (i := 684) (by decide +kernel), List.mem_of_getElem? (i := 798) (by decide +kernel), List.mem_of_getElem? (i := 799) (by decide +kernel)⟩
theorem lw_p61 : lw_okq (⟨"MentorPairsModel", "placed", "(II)I"⟩, 33) := ⟨⟨by decide +kernel, by decide +kernel⟩, List.mem_of_getElem? (i := 684) (by decide +kernel), List.mem_of_getElem? (i := 806) (by decide +kernel), List.mem_of_getElem? (i := 807) (by decide +kernel)⟩
theorem lw_p62 : lw_okq (⟨"MentorPairsModel", "trayed", "(I)I"⟩, 33) := ⟨⟨by decide +kernel, by decide +kernel⟩, List.mem_of_getElem? (i := 684) (by decide +kernel), List.mem_of_getElem? (i := 810) (by decide +kernel), List.mem_of_getElem? (i := 811) (by decide +kernel)⟩
theorem lw_p63 : lw_okq (⟨"MentorPairsModel", "refuse", "(I)I"⟩, 33) := ⟨⟨by decide +kernel, by decide +kernel⟩, List.mem_of_getElem? (i := 684) (by decide +kernel), List.mem_of_getElem? (i := 830) (by decide +kernel), List.mem_of_getElem? (i := 831) (by decide +kernel)⟩
def lw_privs_4 : List (MethodName × Nat) := [(⟨"MentorPairs$Runs", "add", "(IZ)V"⟩, 3), (⟨"MentorPairs$Runs", "shareBeyond", "(ILMentorPairs$Fraction;)V"⟩, 3), (⟨"MentorPairs$Runs", "countEnded", "(I)I"⟩, 3), (⟨"MentorPairs$Runs", "countAtRisk", "(I)I"⟩, 3), (⟨"MentorPairs$Fraction", "become", "(JJ)V"⟩, 2), (⟨"MentorPairs", "trialFault", "(III)I"⟩, 10), (⟨"MentorPairs$Tray", "hasOutcomes", "(I)Z"⟩, 4), (⟨"MentorPairs$Trial", "lay", "(LMentorPairs$Tray;I)V"⟩, 3), (⟨"MentorPairs$Trial", "laySums", "(LMentorPairs$Tray;I[J)V"⟩, 3), (⟨"MentorPairs$Trial", "gainOf", "(ILMentorPairs$Fraction;)V"⟩, 3), (⟨"MentorPairs$Trial", "sumOf", "(I)J"⟩, 3), (⟨"MentorPairs$Trial", "chanceOf", "(ILMentorPairs$Fraction;)V"⟩, 3), (⟨"MentorPairsModel", "no", "(I)Z"⟩, 33), (⟨"MentorPairsModel", "placed", "(II)I"⟩, 33), (⟨"MentorPairsModel", "trayed", "(I)I"⟩, 33), (⟨"MentorPairsModel", "refuse", "(I)I"⟩, 33)]
theorem lw_r4 : ∀ q ∈ lw_privs_4, lw_okq q := List.forall_mem_cons.mpr ⟨lw_p48, List.forall_mem_cons.mpr ⟨lw_p49, List.forall_mem_cons.mpr ⟨lw_p50, List.forall_mem_cons.mpr ⟨lw_p51, List.forall_mem_cons.mpr ⟨lw_p52, List.forall_mem_cons.mpr ⟨lw_p53, List.forall_mem_cons.mpr ⟨lw_p54, List.forall_mem_cons.mpr ⟨lw_p55, List.forall_mem_cons.mpr ⟨lw_p56, List.forall_mem_cons.mpr ⟨lw_p57, List.forall_mem_cons.mpr ⟨lw_p58, List.forall_mem_cons.mpr ⟨lw_p59, List.forall_mem_cons.mpr ⟨lw_p60, List.forall_mem_cons.mpr ⟨lw_p61, List.forall_mem_cons.mpr ⟨lw_p62, List.forall_mem_cons.mpr ⟨lw_p63, fun _ h => absurd h List.not_mem_nil⟩⟩⟩⟩⟩⟩⟩⟩⟩⟩⟩⟩⟩⟩⟩⟩
theorem lw_p64 : lw_okq (⟨"MentorPairsModel", "isElder", "(I)Z"⟩, 33) := ⟨⟨by decide +kernel, by decide +kernel⟩, List.mem_of_getElem? (i := 684) (by decide +kernel), List.mem_of_getElem? (i := 842) (by decide +kernel), List.mem_of_getElem? (i := 843) (by decide +kernel)⟩
theorem lw_p65 : lw_okq (⟨"MentorPairsModel", "isBeginner", "(I)Z"⟩, 33) := ⟨⟨by decide +kernel, by decide +kernel⟩, List.mem_of_getElem? (i := 684) (by decide +kernel), List.mem_of_getElem? (i := 850) (by decide +kernel), List.mem_of_getElem? (i := 851) (by decide +kernel)⟩
theorem lw_p66 : lw_okq (⟨"MentorPairsModel", "asked", "(II)I"⟩, 33) := ⟨⟨by decide +kernel, by decide +kernel⟩, List.mem_of_getElem? (i := 684) (by decide +kernel), List.mem_of_getElem? (i := 862) (by decide +kernel), List.mem_of_getElem? (i := 863) (by decide +kernel)⟩
theorem lw_p67 : lw_okq (⟨"MentorPairsModel", "can", "(II)Z"⟩, 33) := ⟨⟨by decide +kernel, by decide +kernel⟩, List.mem_of_getElem? (i := 684) (by decide +kernel), List.mem_of_getElem? (i := 866) (by decide +kernel), List.mem_of_getElem? (i := 867) (by decide +kernel)⟩
theorem lw_p68 : lw_okq (⟨"MentorPairsModel", "rank", "(II)I"⟩, 33) := ⟨⟨by decide +kernel, by decide +kernel⟩, List.mem_of_getElem? (i := 684) (by decide +kernel), List.mem_of_getElem? (i := 870) (by decide +kernel), List.mem_of_getElem? (i := 871) (by decide +kernel)⟩
theorem lw_p69 : lw_okq (⟨"MentorPairsModel", "beginnerPrefers", "(III)Z"⟩, 33) := ⟨⟨by decide +kernel, by decide +kernel⟩, List.mem_of_getElem? (i := 684) (by decide +kernel), List.mem_of_getElem? (i := 874) (by decide +kernel), List.mem_of_getElem? (i := 875) (by decide +kernel)⟩
theorem lw_p70 : lw_okq (⟨"MentorPairsModel", "hasOf", "(I)I"⟩, 33) := ⟨⟨by decide +kernel, by decide +kernel⟩, List.mem_of_getElem? (i := 684) (by decide +kernel), List.mem_of_getElem? (i := 878) (by decide +kernel), List.mem_of_getElem? (i := 879) (by decide +kernel)⟩
theorem lw_p71 : lw_okq (⟨"MentorPairsModel", "worst", "(I)I"⟩, 33) := ⟨⟨by decide +kernel, by decide +kernel⟩, List.mem_of_getElem? (i := 684) (by decide +kernel), List.mem_of_getElem? (i := 882) (by decide +kernel), List.mem_of_getElem? (i := 883) (by decide +kernel)⟩
theorem lw_p72 : lw_okq (⟨"MentorPairsModel", "elderPrefers", "(III)Z"⟩, 33) := ⟨⟨by decide +kernel, by decide +kernel⟩, List.mem_of_getElem? (i := 684) (by decide +kernel), List.mem_of_getElem? (i := 886) (by decide +kernel), List.mem_of_getElem? (i := 887) (by decide +kernel)⟩
theorem lw_p73 : lw_okq (⟨"MentorPairsModel", "isBlock", "(II)Z"⟩, 33) := ⟨⟨by decide +kernel, by decide +kernel⟩, List.mem_of_getElem? (i := 684) (by decide +kernel), List.mem_of_getElem? (i := 902) (by decide +kernel), List.mem_of_getElem? (i := 903) (by decide +kernel)⟩
theorem lw_p74 : lw_okq (⟨"MentorPairsModel", "countSteps", "(I)V"⟩, 33) := ⟨⟨by decide +kernel, by decide +kernel⟩, List.mem_of_getElem? (i := 684) (by decide +kernel), List.mem_of_getElem? (i := 914) (by decide +kernel), List.mem_of_getElem? (i := 915) (by decide +kernel)⟩
theorem lw_p75 : lw_okq (⟨"MentorPairsModel", "isFree", "(II)Z"⟩, 33) := ⟨⟨by decide +kernel, by decide +kernel⟩, List.mem_of_getElem? (i := 684) (by decide +kernel), List.mem_of_getElem? (i := 918) (by decide +kernel), List.mem_of_getElem? (i := 919) (by decide +kernel)⟩
theorem lw_p76 : lw_okq (⟨"MentorPairsModel", "takes", "(III)Z"⟩, 33) := ⟨⟨by decide +kernel, by decide +kernel⟩, List.mem_of_getElem? (i := 684) (by decide +kernel), List.mem_of_getElem? (i := 922) (by decide +kernel), List.mem_of_getElem? (i := 923) (by decide +kernel)⟩
theorem lw_p77 : lw_okq (⟨"MentorPairsModel", "isReached", "(II)Z"⟩, 33) := ⟨⟨by decide +kernel, by decide +kernel⟩, List.mem_of_getElem? (i := 684) (by decide +kernel), List.mem_of_getElem? (i := 953) (by decide +kernel), List.mem_of_getElem? (i := 954) (by decide +kernel)⟩
theorem lw_p78 : lw_okq (⟨"MentorPairsModel", "tells", "(JJ)Z"⟩, 33) := ⟨⟨by decide +kernel, by decide +kernel⟩, List.mem_of_getElem? (i := 684) (by decide +kernel), List.mem_of_getElem? (i := 969) (by decide +kernel), List.mem_of_getElem? (i := 970) (by decide +kernel)⟩
theorem lw_p79 : lw_okq (⟨"MentorPairsModel", "trial", "(III)I"⟩, 33) := ⟨⟨by decide +kernel, by decide +kernel⟩, List.mem_of_getElem? (i := 684) (by decide +kernel), List.mem_of_getElem? (i := 989) (by decide +kernel), List.mem_of_getElem? (i := 990) (by decide +kernel)⟩
def lw_privs_5 : List (MethodName × Nat) := [(⟨"MentorPairsModel", "isElder", "(I)Z"⟩, 33), (⟨"MentorPairsModel", "isBeginner", "(I)Z"⟩, 33), (⟨"MentorPairsModel", "asked", "(II)I"⟩, 33), (⟨"MentorPairsModel", "can", "(II)Z"⟩, 33), (⟨"MentorPairsModel", "rank", "(II)I"⟩, 33), (⟨"MentorPairsModel", "beginnerPrefers", "(III)Z"⟩, 33), (⟨"MentorPairsModel", "hasOf", "(I)I"⟩, 33), (⟨"MentorPairsModel", "worst", "(I)I"⟩, 33), (⟨"MentorPairsModel", "elderPrefers", "(III)Z"⟩, 33), (⟨"MentorPairsModel", "isBlock", "(II)Z"⟩, 33), (⟨"MentorPairsModel", "countSteps", "(I)V"⟩, 33), (⟨"MentorPairsModel", "isFree", "(II)Z"⟩, 33), (⟨"MentorPairsModel", "takes", "(III)Z"⟩, 33), (⟨"MentorPairsModel", "isReached", "(II)Z"⟩, 33), (⟨"MentorPairsModel", "tells", "(JJ)Z"⟩, 33), (⟨"MentorPairsModel", "trial", "(III)I"⟩, 33)]
theorem lw_r5 : ∀ q ∈ lw_privs_5, lw_okq q := List.forall_mem_cons.mpr ⟨lw_p64, List.forall_mem_cons.mpr ⟨lw_p65, List.forall_mem_cons.mpr ⟨lw_p66, List.forall_mem_cons.mpr ⟨lw_p67, List.forall_mem_cons.mpr ⟨lw_p68, List.forall_mem_cons.mpr ⟨lw_p69, List.forall_mem_cons.mpr ⟨lw_p70, List.forall_mem_cons.mpr ⟨lw_p71, List.forall_mem_cons.mpr ⟨lw_p72, List.forall_mem_cons.mpr ⟨lw_p73, List.forall_mem_cons.mpr ⟨lw_p74, List.forall_mem_cons.mpr ⟨lw_p75, List.forall_mem_cons.mpr ⟨lw_p76, List.forall_mem_cons.mpr ⟨lw_p77, List.forall_mem_cons.mpr ⟨lw_p78, List.forall_mem_cons.mpr ⟨lw_p79, fun _ h => absurd h List.not_mem_nil⟩⟩⟩⟩⟩⟩⟩⟩⟩⟩⟩⟩⟩⟩⟩⟩
theorem lw_p80 : lw_okq (⟨"MentorPairsModel", "sumOf", "(III)I"⟩, 33) := ⟨⟨by decide +kernel, by decide +kernel⟩, List.mem_of_getElem? (i := 684) (by decide +kernel), List.mem_of_getElem? (i := 995) (by decide +kernel), List.mem_of_getElem? (i := 996) (by decide +kernel)⟩
def lw_privs_6 : List (MethodName × Nat) := [(⟨"MentorPairsModel", "sumOf", "(III)I"⟩, 33)]
theorem lw_r6 : ∀ q ∈ lw_privs_6, lw_okq q := List.forall_mem_cons.mpr ⟨lw_p80, fun _ h => absurd h List.not_mem_nil⟩
def lw_privs : List (MethodName × Nat) := lw_privs_1 ++ (lw_privs_2 ++ (lw_privs_3 ++ (lw_privs_4 ++ (lw_privs_5 ++ (lw_privs_6)))))
def lw_tbl : List Cond := k2_sels lw_privs ++ tables_1
theorem lw_privs_ok : ∀ q ∈ lw_privs, lw_okq q := by
  show ∀ q ∈ lw_privs_1 ++ (lw_privs_2 ++ (lw_privs_3 ++ (lw_privs_4 ++ (lw_privs_5 ++ (lw_privs_6))))), lw_okq q
  exact List.forall_mem_append.mpr ⟨lw_r1, List.forall_mem_append.mpr ⟨lw_r2, List.forall_mem_append.mpr ⟨lw_r3, List.forall_mem_append.mpr ⟨lw_r4, List.forall_mem_append.mpr ⟨lw_r5, lw_r6⟩⟩⟩⟩⟩
/-! ===== BEGIN words of one list among another's, by their places ===== -/
theorem goodIn_r {big : List Cond} (ws : List Cond) (ps : List Nat) (hp : ws = ps.filterMap (fun i => big[i]?)) (h : ws.all goodWord = true) : GoodIn big ws := by
  intro w hw
  have h1 := List.all_eq_true.mp h w hw
  rw [hp] at hw
  obtain ⟨i, -, hi⟩ := List.mem_filterMap.mp hw
  have hm : w ∈ big := by first | exact List.mem_of_getElem? hi | exact List.getElem?_mem hi
  exact ⟨hm, good_of_word h1⟩
theorem goodIn_app {big a b : List Cond} (ha : GoodIn big a) (hb : GoodIn big b) : GoodIn big (a ++ b) := fun w h => (List.mem_append.mp h).elim (ha w) (hb w)
theorem goodIn_ca {big a b : List Cond} {c : Cond} (ha : GoodIn big (c :: a)) (hb : GoodIn big b) : GoodIn big (c :: (a ++ b)) := fun w h => (List.mem_cons.mp h).elim (fun e => ha w (List.mem_cons.mpr (Or.inl e))) (fun h => (List.mem_append.mp h).elim (fun h => ha w (List.mem_cons.mpr (Or.inr h))) (hb w))
theorem goodIn_sub {big ws : List Cond} (hm : ∀ w ∈ ws, w ∈ big) (h : ws.all goodWord = true) : GoodIn big ws := fun w hw => ⟨hm w hw, good_of_word (List.all_eq_true.mp h w hw)⟩
/-! ===== END ===== -/

/-! ===== BEGIN printed: names, fields, word lists, decode rows ===== -/
def RX0 : String := "MentorPairs$Circle"
def TX0 : u_T := fun k => match k with
  | 0 => ("MentorPairs$Circle", "placesOf", "[I", true)
  | 1 => ("MentorPairs$Circle", "likingByElder", "[I", true)
  | 2 => ("MentorPairs$Circle", "likingByBeginner", "[I", true)
  | 3 => ("MentorPairs$Circle", "barred", "[Z", true)
  | 4 => ("MentorPairs$Circle", "elders", "I", false)
  | _ => ("MentorPairs$Circle", "beginners", "I", false)
def tyX0 : Nat → FieldType := fun k => match k with
  | 0 => .array .int
  | 1 => .array .int
  | 2 => .array .int
  | 3 => .array .boolean
  | 4 => .int
  | _ => .int
abbrev wsX00 : List Cond := u_ws RX0 TX0 6
theorem nmX0 : ∀ a, a < 6 → ∀ b, b < 6 → a ≠ b → (TX0 a).2.1 ≠ (TX0 b).2.1 := by decide +kernel
theorem tyX0_ok : ∀ k, k < 6 → parseFieldDescriptor (TX0 k).2.2.1 = some (tyX0 k) := by decide +kernel
abbrev cX0_init : ByteArray := prog_2_method_1_code
def yX0_init : MethodName := ⟨RX0, "<init>", "()V"⟩
abbrev cX0_spot : ByteArray := prog_2_method_2_code
def yX0_spot : MethodName := ⟨RX0, "spot", "(II)I"⟩
abbrev cX0_isElder : ByteArray := prog_2_method_3_code
def yX0_isElder : MethodName := ⟨RX0, "isElder", "(I)Z"⟩
abbrev cX0_isBeginner : ByteArray := prog_2_method_4_code
def yX0_isBeginner : MethodName := ⟨RX0, "isBeginner", "(I)Z"⟩
abbrev cX0_areTwo : ByteArray := prog_2_method_5_code
def yX0_areTwo : MethodName := ⟨RX0, "areTwo", "(II)Z"⟩
abbrev cX0_addElder : ByteArray := prog_2_method_6_code
def yX0_addElder : MethodName := ⟨RX0, "addElder", "(I)I"⟩
abbrev cX0_addBeginner : ByteArray := prog_2_method_7_code
def yX0_addBeginner : MethodName := ⟨RX0, "addBeginner", "()I"⟩
abbrev cX0_setLiking : ByteArray := prog_2_method_8_code
def yX0_setLiking : MethodName := ⟨RX0, "setLiking", "(IIZI)V"⟩
abbrev cX0_isBarred : ByteArray := prog_2_method_9_code
def yX0_isBarred : MethodName := ⟨RX0, "isBarred", "(II)Z"⟩
abbrev cX0_setBarred : ByteArray := prog_2_method_10_code
def yX0_setBarred : MethodName := ⟨RX0, "setBarred", "(IIZ)V"⟩
abbrev cX0_canPair : ByteArray := prog_2_method_11_code
def yX0_canPair : MethodName := ⟨RX0, "canPair", "(II)Z"⟩
abbrev cX0_beginnerPrefers : ByteArray := prog_2_method_12_code
def yX0_beginnerPrefers : MethodName := ⟨RX0, "beginnerPrefers", "(III)Z"⟩
abbrev cX0_elderPrefers : ByteArray := prog_2_method_13_code
def yX0_elderPrefers : MethodName := ⟨RX0, "elderPrefers", "(III)Z"⟩
def RX1 : String := "MentorPairs$Fraction"
def TX1 : u_T := fun k => match k with
  | 0 => ("MentorPairs$Fraction", "above", "J", false)
  | _ => ("MentorPairs$Fraction", "below", "J", false)
def tyX1 : Nat → FieldType := fun k => match k with
  | 0 => .long
  | _ => .long
abbrev wsX10 : List Cond := u_ws RX1 TX1 2
theorem nmX1 : ∀ a, a < 2 → ∀ b, b < 2 → a ≠ b → (TX1 a).2.1 ≠ (TX1 b).2.1 := by decide +kernel
theorem tyX1_ok : ∀ k, k < 2 → parseFieldDescriptor (TX1 k).2.2.1 = some (tyX1 k) := by decide +kernel
abbrev cX1_init : ByteArray := prog_3_method_1_code
def yX1_init : MethodName := ⟨RX1, "<init>", "()V"⟩
abbrev cX1_become : ByteArray := prog_3_method_2_code
def yX1_become : MethodName := ⟨RX1, "become", "(JJ)V"⟩
abbrev cX1_commonDivisor : ByteArray := prog_3_method_3_code
def yX1_commonDivisor : MethodName := ⟨RX1, "commonDivisor", "(JJ)J"⟩
def RX2 : String := "MentorPairs$Goals"
def TX2 : u_T := fun k => match k with
  | 0 => ("MentorPairs$Goals", "beginnerOf", "[I", true)
  | 1 => ("MentorPairs$Goals", "dueOn", "[I", true)
  | 2 => ("MentorPairs$Goals", "behindGoal", "[I", true)
  | 3 => ("MentorPairs$Goals", "confirmedOn", "[I", true)
  | _ => ("MentorPairs$Goals", "many", "I", false)
def tyX2 : Nat → FieldType := fun k => match k with
  | 0 => .array .int
  | 1 => .array .int
  | 2 => .array .int
  | 3 => .array .int
  | _ => .int
abbrev wsX20 : List Cond := u_ws RX2 TX2 5
theorem nmX2 : ∀ a, a < 5 → ∀ b, b < 5 → a ≠ b → (TX2 a).2.1 ≠ (TX2 b).2.1 := by decide +kernel
theorem tyX2_ok : ∀ k, k < 5 → parseFieldDescriptor (TX2 k).2.2.1 = some (tyX2 k) := by decide +kernel
abbrev cX2_init : ByteArray := prog_4_method_1_code
def yX2_init : MethodName := ⟨RX2, "<init>", "()V"⟩
abbrev cX2_isGoal : ByteArray := prog_4_method_2_code
def yX2_isGoal : MethodName := ⟨RX2, "isGoal", "(I)Z"⟩
abbrev cX2_isGoalOf : ByteArray := prog_4_method_3_code
def yX2_isGoalOf : MethodName := ⟨RX2, "isGoalOf", "(II)Z"⟩
abbrev cX2_add : ByteArray := prog_4_method_4_code
def yX2_add : MethodName := ⟨RX2, "add", "(III)I"⟩
abbrev cX2_asOf : ByteArray := prog_4_method_5_code
def yX2_asOf : MethodName := ⟨RX2, "asOf", "(II)I"⟩
abbrev cX2_isReached : ByteArray := prog_4_method_6_code
def yX2_isReached : MethodName := ⟨RX2, "isReached", "(II)Z"⟩
def RX3 : String := "MentorPairs$Meetings"
def TX3 : u_T := fun k => match k with
  | 0 => ("MentorPairs$Meetings", "beginnerOf", "[I", true)
  | 1 => ("MentorPairs$Meetings", "dueOn", "[I", true)
  | 2 => ("MentorPairs$Meetings", "toldMeeting", "[I", true)
  | 3 => ("MentorPairs$Meetings", "toldDay", "[I", true)
  | 4 => ("MentorPairs$Meetings", "toldKept", "[Z", true)
  | 5 => ("MentorPairs$Meetings", "many", "I", false)
  | _ => ("MentorPairs$Meetings", "tellings", "I", false)
def tyX3 : Nat → FieldType := fun k => match k with
  | 0 => .array .int
  | 1 => .array .int
  | 2 => .array .int
  | 3 => .array .int
  | 4 => .array .boolean
  | 5 => .int
  | _ => .int
abbrev wsX30 : List Cond := u_ws RX3 TX3 7
theorem nmX3 : ∀ a, a < 7 → ∀ b, b < 7 → a ≠ b → (TX3 a).2.1 ≠ (TX3 b).2.1 := by decide +kernel
theorem tyX3_ok : ∀ k, k < 7 → parseFieldDescriptor (TX3 k).2.2.1 = some (tyX3 k) := by decide +kernel
abbrev cX3_init : ByteArray := prog_5_method_1_code
def yX3_init : MethodName := ⟨RX3, "<init>", "()V"⟩
abbrev cX3_isMeeting : ByteArray := prog_5_method_2_code
def yX3_isMeeting : MethodName := ⟨RX3, "isMeeting", "(I)Z"⟩
abbrev cX3_add : ByteArray := prog_5_method_3_code
def yX3_add : MethodName := ⟨RX3, "add", "(II)I"⟩
abbrev cX3_addTelling : ByteArray := prog_5_method_4_code
def yX3_addTelling : MethodName := ⟨RX3, "addTelling", "(IZI)V"⟩
abbrev cX3_count : ByteArray := prog_5_method_5_code
def yX3_count : MethodName := ⟨RX3, "count", "(III)I"⟩
abbrev cX3_knownOn : ByteArray := prog_5_method_6_code
def yX3_knownOn : MethodName := ⟨RX3, "knownOn", "(II)I"⟩
def RX4 : String := "MentorPairs$Pairing"
def TX4 : u_T := fun k => match k with
  | 0 => ("MentorPairs$Pairing", "elderBy", "[I", true)
  | 1 => ("MentorPairs$Pairing", "lastAsked", "[I", true)
  | _ => ("MentorPairs$Pairing", "given", "Z", false)
def tyX4 : Nat → FieldType := fun k => match k with
  | 0 => .array .int
  | 1 => .array .int
  | _ => .boolean
abbrev wsX40 : List Cond := u_ws RX4 TX4 3
theorem nmX4 : ∀ a, a < 3 → ∀ b, b < 3 → a ≠ b → (TX4 a).2.1 ≠ (TX4 b).2.1 := by decide +kernel
theorem tyX4_ok : ∀ k, k < 3 → parseFieldDescriptor (TX4 k).2.2.1 = some (tyX4 k) := by decide +kernel
abbrev cX4_init : ByteArray := prog_6_method_1_code
def yX4_init : MethodName := ⟨RX4, "<init>", "()V"⟩
abbrev cX4_countOf : ByteArray := prog_6_method_2_code
def yX4_countOf : MethodName := ⟨RX4, "countOf", "(I)I"⟩
abbrev cX4_hasPlaceLeft : ByteArray := prog_6_method_3_code
def yX4_hasPlaceLeft : MethodName := ⟨RX4, "hasPlaceLeft", "(LMentorPairs$Circle;I)Z"⟩
abbrev cX4_leastOf : ByteArray := prog_6_method_4_code
def yX4_leastOf : MethodName := ⟨RX4, "leastOf", "(LMentorPairs$Circle;I)I"⟩
abbrev cX4_makeBest : ByteArray := prog_6_method_5_code
def yX4_makeBest : MethodName := ⟨RX4, "makeBest", "(LMentorPairs$Circle;)I"⟩
abbrev cX4_countPairs : ByteArray := prog_6_method_6_code
def yX4_countPairs : MethodName := ⟨RX4, "countPairs", "()I"⟩
abbrev cX4_seat : ByteArray := prog_6_method_7_code
def yX4_seat : MethodName := ⟨RX4, "seat", "(LMentorPairs$Circle;I)V"⟩
abbrev cX4_nextChoice : ByteArray := prog_6_method_8_code
def yX4_nextChoice : MethodName := ⟨RX4, "nextChoice", "(LMentorPairs$Circle;I)I"⟩
abbrev cX4_askFor : ByteArray := prog_6_method_9_code
def yX4_askFor : MethodName := ⟨RX4, "askFor", "(LMentorPairs$Circle;II)I"⟩
abbrev cX4_isBlockedBy : ByteArray := prog_6_method_10_code
def yX4_isBlockedBy : MethodName := ⟨RX4, "isBlockedBy", "(LMentorPairs$Circle;II)Z"⟩
abbrev cX4_countBlocking : ByteArray := prog_6_method_11_code
def yX4_countBlocking : MethodName := ⟨RX4, "countBlocking", "(LMentorPairs$Circle;)I"⟩
def RX5 : String := "MentorPairs$Row"
def TX5 : u_T := fun k => match k with
  | 0 => ("MentorPairs$Row", "queue", "[I", true)
  | 1 => ("MentorPairs$Row", "takerFrom", "[I", true)
  | 2 => ("MentorPairs$Row", "queued", "I", false)
  | 3 => ("MentorPairs$Row", "first", "I", false)
  | _ => ("MentorPairs$Row", "freeElder", "I", false)
def tyX5 : Nat → FieldType := fun k => match k with
  | 0 => .array .int
  | 1 => .array .int
  | 2 => .int
  | 3 => .int
  | _ => .int
abbrev wsX50 : List Cond := u_ws RX5 TX5 5
theorem nmX5 : ∀ a, a < 5 → ∀ b, b < 5 → a ≠ b → (TX5 a).2.1 ≠ (TX5 b).2.1 := by decide +kernel
theorem tyX5_ok : ∀ k, k < 5 → parseFieldDescriptor (TX5 k).2.2.1 = some (tyX5 k) := by decide +kernel
abbrev cX5_init : ByteArray := prog_7_method_1_code
def yX5_init : MethodName := ⟨RX5, "<init>", "()V"⟩
abbrev cX5_findLast : ByteArray := prog_7_method_2_code
def yX5_findLast : MethodName := ⟨RX5, "findLast", "(LMentorPairs$Circle;LMentorPairs$Pairing;I)I"⟩
abbrev cX5_mayMove : ByteArray := prog_7_method_3_code
def yX5_mayMove : MethodName := ⟨RX5, "mayMove", "(LMentorPairs$Circle;LMentorPairs$Pairing;II)Z"⟩
abbrev cX5_freeElderFor : ByteArray := prog_7_method_4_code
def yX5_freeElderFor : MethodName := ⟨RX5, "freeElderFor", "(LMentorPairs$Circle;LMentorPairs$Pairing;I)I"⟩
abbrev cX5_isFree : ByteArray := prog_7_method_5_code
def yX5_isFree : MethodName := ⟨RX5, "isFree", "(LMentorPairs$Circle;LMentorPairs$Pairing;I)Z"⟩
abbrev cX5_queueLeavers : ByteArray := prog_7_method_6_code
def yX5_queueLeavers : MethodName := ⟨RX5, "queueLeavers", "(LMentorPairs$Circle;LMentorPairs$Pairing;I)V"⟩
abbrev cX5_queueLeaversOf : ByteArray := prog_7_method_7_code
def yX5_queueLeaversOf : MethodName := ⟨RX5, "queueLeaversOf", "(LMentorPairs$Circle;LMentorPairs$Pairing;II)V"⟩
abbrev cX5_moveAll : ByteArray := prog_7_method_8_code
def yX5_moveAll : MethodName := ⟨RX5, "moveAll", "(LMentorPairs$Pairing;I)I"⟩
def RX6 : String := "MentorPairs$Runs"
def TX6 : u_T := fun k => match k with
  | 0 => ("MentorPairs$Runs", "monthsOf", "[I", true)
  | 1 => ("MentorPairs$Runs", "hasEnded", "[Z", true)
  | _ => ("MentorPairs$Runs", "many", "I", false)
def tyX6 : Nat → FieldType := fun k => match k with
  | 0 => .array .int
  | 1 => .array .boolean
  | _ => .int
abbrev wsX60 : List Cond := u_ws RX6 TX6 3
theorem nmX6 : ∀ a, a < 3 → ∀ b, b < 3 → a ≠ b → (TX6 a).2.1 ≠ (TX6 b).2.1 := by decide +kernel
theorem tyX6_ok : ∀ k, k < 3 → parseFieldDescriptor (TX6 k).2.2.1 = some (tyX6 k) := by decide +kernel
abbrev cX6_init : ByteArray := prog_8_method_1_code
def yX6_init : MethodName := ⟨RX6, "<init>", "()V"⟩
abbrev cX6_add : ByteArray := prog_8_method_2_code
def yX6_add : MethodName := ⟨RX6, "add", "(IZ)V"⟩
abbrev cX6_shareBeyond : ByteArray := prog_8_method_3_code
def yX6_shareBeyond : MethodName := ⟨RX6, "shareBeyond", "(ILMentorPairs$Fraction;)V"⟩
abbrev cX6_countEnded : ByteArray := prog_8_method_4_code
def yX6_countEnded : MethodName := ⟨RX6, "countEnded", "(I)I"⟩
abbrev cX6_countAtRisk : ByteArray := prog_8_method_5_code
def yX6_countAtRisk : MethodName := ⟨RX6, "countAtRisk", "(I)I"⟩
def RX7 : String := "MentorPairs$Tray"
def TX7 : u_T := fun k => match k with
  | 0 => ("MentorPairs$Tray", "numbers", "[J", true)
  | 1 => ("MentorPairs$Tray", "missing", "Z", false)
  | 2 => ("MentorPairs$Tray", "sort", "I", false)
  | _ => ("MentorPairs$Tray", "length", "I", false)
def tyX7 : Nat → FieldType := fun k => match k with
  | 0 => .array .long
  | 1 => .boolean
  | 2 => .int
  | _ => .int
abbrev wsX70 : List Cond := u_ws RX7 TX7 4
theorem nmX7 : ∀ a, a < 4 → ∀ b, b < 4 → a ≠ b → (TX7 a).2.1 ≠ (TX7 b).2.1 := by decide +kernel
theorem tyX7_ok : ∀ k, k < 4 → parseFieldDescriptor (TX7 k).2.2.1 = some (tyX7 k) := by decide +kernel
abbrev cX7_init : ByteArray := prog_9_method_1_code
def yX7_init : MethodName := ⟨RX7, "<init>", "()V"⟩
abbrev cX7_make : ByteArray := prog_9_method_2_code
def yX7_make : MethodName := ⟨RX7, "make", "(II)V"⟩
abbrev cX7_hasPlaces : ByteArray := prog_9_method_3_code
def yX7_hasPlaces : MethodName := ⟨RX7, "hasPlaces", "(II)Z"⟩
abbrev cX7_put : ByteArray := prog_9_method_4_code
def yX7_put : MethodName := ⟨RX7, "put", "(IJ)V"⟩
abbrev cX7_cut : ByteArray := prog_9_method_5_code
def yX7_cut : MethodName := ⟨RX7, "cut", "(J)J"⟩
abbrev cX7_hasOutcomes : ByteArray := prog_9_method_6_code
def yX7_hasOutcomes : MethodName := ⟨RX7, "hasOutcomes", "(I)Z"⟩
def RX8 : String := "MentorPairs$Trial"
def TX8 : u_T := fun k => match k with
  | 0 => ("MentorPairs$Trial", "sumsOfFirst", "[J", true)
  | 1 => ("MentorPairs$Trial", "sumsOfRest", "[J", true)
  | _ => ("MentorPairs$Trial", "many", "I", false)
def tyX8 : Nat → FieldType := fun k => match k with
  | 0 => .array .long
  | 1 => .array .long
  | _ => .int
abbrev wsX80 : List Cond := u_ws RX8 TX8 3
theorem nmX8 : ∀ a, a < 3 → ∀ b, b < 3 → a ≠ b → (TX8 a).2.1 ≠ (TX8 b).2.1 := by decide +kernel
theorem tyX8_ok : ∀ k, k < 3 → parseFieldDescriptor (TX8 k).2.2.1 = some (tyX8 k) := by decide +kernel
abbrev cX8_init : ByteArray := prog_10_method_1_code
def yX8_init : MethodName := ⟨RX8, "<init>", "()V"⟩
abbrev cX8_lay : ByteArray := prog_10_method_2_code
def yX8_lay : MethodName := ⟨RX8, "lay", "(LMentorPairs$Tray;I)V"⟩
abbrev cX8_laySums : ByteArray := prog_10_method_3_code
def yX8_laySums : MethodName := ⟨RX8, "laySums", "(LMentorPairs$Tray;I[J)V"⟩
abbrev cX8_sumOf : ByteArray := prog_10_method_4_code
def yX8_sumOf : MethodName := ⟨RX8, "sumOf", "(I)J"⟩
abbrev cX8_gainOf : ByteArray := prog_10_method_5_code
def yX8_gainOf : MethodName := ⟨RX8, "gainOf", "(ILMentorPairs$Fraction;)V"⟩
abbrev cX8_chanceOf : ByteArray := prog_10_method_6_code
def yX8_chanceOf : MethodName := ⟨RX8, "chanceOf", "(ILMentorPairs$Fraction;)V"⟩
abbrev cX8_countSets : ByteArray := prog_10_method_7_code
def yX8_countSets : MethodName := ⟨RX8, "countSets", "(II)I"⟩
abbrev cX8_nextOfSameSize : ByteArray := prog_10_method_8_code
def yX8_nextOfSameSize : MethodName := ⟨RX8, "nextOfSameSize", "(I)I"⟩
abbrev cX8_drawnSet : ByteArray := prog_10_method_9_code
def yX8_drawnSet : MethodName := ⟨RX8, "drawnSet", "(III)I"⟩
def RX9 : String := "MentorPairs"
def TX9 : u_T := fun k => match k with
  | 0 => ("MentorPairs", "trays", "[LMentorPairs$Tray;", true)
  | 1 => ("MentorPairs", "circle", "LMentorPairs$Circle;", true)
  | 2 => ("MentorPairs", "pairing", "LMentorPairs$Pairing;", true)
  | 3 => ("MentorPairs", "row", "LMentorPairs$Row;", true)
  | 4 => ("MentorPairs", "meetings", "LMentorPairs$Meetings;", true)
  | 5 => ("MentorPairs", "goals", "LMentorPairs$Goals;", true)
  | 6 => ("MentorPairs", "runs", "LMentorPairs$Runs;", true)
  | 7 => ("MentorPairs", "trial", "LMentorPairs$Trial;", true)
  | 8 => ("MentorPairs", "fraction", "LMentorPairs$Fraction;", true)
  | _ => ("MentorPairs", "latest", "I", false)
def tyX9 : Nat → FieldType := fun k => match k with
  | 0 => .array (.object "MentorPairs$Tray")
  | 1 => .object "MentorPairs$Circle"
  | 2 => .object "MentorPairs$Pairing"
  | 3 => .object "MentorPairs$Row"
  | 4 => .object "MentorPairs$Meetings"
  | 5 => .object "MentorPairs$Goals"
  | 6 => .object "MentorPairs$Runs"
  | 7 => .object "MentorPairs$Trial"
  | 8 => .object "MentorPairs$Fraction"
  | _ => .int
abbrev wsX90 : List Cond := u_ws RX9 TX9 10
theorem nmX9 : ∀ a, a < 10 → ∀ b, b < 10 → a ≠ b → (TX9 a).2.1 ≠ (TX9 b).2.1 := by decide +kernel
theorem tyX9_ok : ∀ k, k < 10 → parseFieldDescriptor (TX9 k).2.2.1 = some (tyX9 k) := by decide +kernel
abbrev cX9_init : ByteArray := prog_1_method_1_code
def yX9_init : MethodName := ⟨RX9, "<init>", "()V"⟩
abbrev cX9_status : ByteArray := prog_1_method_2_code
def yX9_status : MethodName := ⟨RX9, "status", "()I"⟩
abbrev cX9_tray : ByteArray := prog_1_method_3_code
def yX9_tray : MethodName := ⟨RX9, "tray", "(III)Z"⟩
abbrev cX9_write : ByteArray := prog_1_method_4_code
def yX9_write : MethodName := ⟨RX9, "write", "(IIJ)Z"⟩
abbrev cX9_read : ByteArray := prog_1_method_5_code
def yX9_read : MethodName := ⟨RX9, "read", "(II)J"⟩
abbrev cX9_pour : ByteArray := prog_1_method_6_code
def yX9_pour : MethodName := ⟨RX9, "pour", "(IIIII)Z"⟩
abbrev cX9_elder : ByteArray := prog_1_method_7_code
def yX9_elder : MethodName := ⟨RX9, "elder", "(I)I"⟩
abbrev cX9_beginner : ByteArray := prog_1_method_8_code
def yX9_beginner : MethodName := ⟨RX9, "beginner", "()I"⟩
abbrev cX9_places : ByteArray := prog_1_method_9_code
def yX9_places : MethodName := ⟨RX9, "places", "(II)Z"⟩
abbrev cX9_like : ByteArray := prog_1_method_10_code
def yX9_like : MethodName := ⟨RX9, "like", "(IIZI)Z"⟩
abbrev cX9_bar : ByteArray := prog_1_method_11_code
def yX9_bar : MethodName := ⟨RX9, "bar", "(IIZ)Z"⟩
abbrev cX9_pair : ByteArray := prog_1_method_12_code
def yX9_pair : MethodName := ⟨RX9, "pair", "()I"⟩
abbrev cX9_elderOf : ByteArray := prog_1_method_13_code
def yX9_elderOf : MethodName := ⟨RX9, "elderOf", "(I)I"⟩
abbrev cX9_has : ByteArray := prog_1_method_14_code
def yX9_has : MethodName := ⟨RX9, "has", "(I)I"⟩
abbrev cX9_blocks : ByteArray := prog_1_method_15_code
def yX9_blocks : MethodName := ⟨RX9, "blocks", "()I"⟩
abbrev cX9_block : ByteArray := prog_1_method_16_code
def yX9_block : MethodName := ⟨RX9, "block", "(II)I"⟩
abbrev cX9_change : ByteArray := prog_1_method_17_code
def yX9_change : MethodName := ⟨RX9, "change", "(I)I"⟩
abbrev cX9_meeting : ByteArray := prog_1_method_18_code
def yX9_meeting : MethodName := ⟨RX9, "meeting", "(II)I"⟩
abbrev cX9_tell : ByteArray := prog_1_method_19_code
def yX9_tell : MethodName := ⟨RX9, "tell", "(IZI)Z"⟩
abbrev cX9_met : ByteArray := prog_1_method_20_code
def yX9_met : MethodName := ⟨RX9, "met", "(III)I"⟩
abbrev cX9_goal : ByteArray := prog_1_method_21_code
def yX9_goal : MethodName := ⟨RX9, "goal", "(III)I"⟩
abbrev cX9_confirm : ByteArray := prog_1_method_22_code
def yX9_confirm : MethodName := ⟨RX9, "confirm", "(II)Z"⟩
abbrev cX9_goalAt : ByteArray := prog_1_method_23_code
def yX9_goalAt : MethodName := ⟨RX9, "goalAt", "(II)I"⟩
abbrev cX9_run : ByteArray := prog_1_method_24_code
def yX9_run : MethodName := ⟨RX9, "run", "(IZ)Z"⟩
abbrev cX9_clear : ByteArray := prog_1_method_25_code
def yX9_clear : MethodName := ⟨RX9, "clear", "()Z"⟩
abbrev cX9_lasts : ByteArray := prog_1_method_26_code
def yX9_lasts : MethodName := ⟨RX9, "lasts", "(I)Z"⟩
abbrev cX9_upper : ByteArray := prog_1_method_27_code
def yX9_upper : MethodName := ⟨RX9, "upper", "()J"⟩
abbrev cX9_lower : ByteArray := prog_1_method_28_code
def yX9_lower : MethodName := ⟨RX9, "lower", "()J"⟩
abbrev cX9_gain : ByteArray := prog_1_method_29_code
def yX9_gain : MethodName := ⟨RX9, "gain", "(III)Z"⟩
abbrev cX9_chance : ByteArray := prog_1_method_30_code
def yX9_chance : MethodName := ⟨RX9, "chance", "(III)Z"⟩
abbrev cX9_draw : ByteArray := prog_1_method_31_code
def yX9_draw : MethodName := ⟨RX9, "draw", "(III)I"⟩
abbrev cX9_finish : ByteArray := prog_1_method_32_code
def yX9_finish : MethodName := ⟨RX9, "finish", "(I)Z"⟩
abbrev cX9_refused : ByteArray := prog_1_method_33_code
def yX9_refused : MethodName := ⟨RX9, "refused", "(I)I"⟩
abbrev cX9_answered : ByteArray := prog_1_method_34_code
def yX9_answered : MethodName := ⟨RX9, "answered", "(I)I"⟩
abbrev cX9_isTray : ByteArray := prog_1_method_35_code
def yX9_isTray : MethodName := ⟨RX9, "isTray", "(I)Z"⟩
abbrev cX9_isPlaces : ByteArray := prog_1_method_36_code
def yX9_isPlaces : MethodName := ⟨RX9, "isPlaces", "(I)Z"⟩
abbrev cX9_isDay : ByteArray := prog_1_method_37_code
def yX9_isDay : MethodName := ⟨RX9, "isDay", "(I)Z"⟩
abbrev cX9_trayFault : ByteArray := prog_1_method_38_code
def yX9_trayFault : MethodName := ⟨RX9, "trayFault", "(I)I"⟩
abbrev cX9_placeFault : ByteArray := prog_1_method_39_code
def yX9_placeFault : MethodName := ⟨RX9, "placeFault", "(II)I"⟩
abbrev cX9_pourFault : ByteArray := prog_1_method_40_code
def yX9_pourFault : MethodName := ⟨RX9, "pourFault", "(IIIII)I"⟩
abbrev cX9_pairedFault : ByteArray := prog_1_method_41_code
def yX9_pairedFault : MethodName := ⟨RX9, "pairedFault", "(I)I"⟩
abbrev cX9_trialFault : ByteArray := prog_1_method_42_code
def yX9_trialFault : MethodName := ⟨RX9, "trialFault", "(III)I"⟩
def RX10 : String := "MentorPairsModel"
def TX10 : u_T := fun k => match k with
  | 0 => ("MentorPairsModel", "status", "I", false)
  | 1 => ("MentorPairsModel", "thrown", "I", false)
  | 2 => ("MentorPairsModel", "above", "J", false)
  | 3 => ("MentorPairsModel", "under", "J", false)
  | 4 => ("MentorPairsModel", "traySort", "[I", true)
  | 5 => ("MentorPairsModel", "trayMany", "[I", true)
  | 6 => ("MentorPairsModel", "numbers", "[J", true)
  | 7 => ("MentorPairsModel", "elders", "I", false)
  | 8 => ("MentorPairsModel", "beginners", "I", false)
  | 9 => ("MentorPairsModel", "places", "[I", true)
  | 10 => ("MentorPairsModel", "ofElder", "[I", true)
  | 11 => ("MentorPairsModel", "ofBeginner", "[I", true)
  | 12 => ("MentorPairsModel", "isBarred", "[Z", true)
  | 13 => ("MentorPairsModel", "isGiven", "Z", false)
  | 14 => ("MentorPairsModel", "given", "[I", true)
  | 15 => ("MentorPairsModel", "asks", "[I", true)
  | 16 => ("MentorPairsModel", "steps", "[I", true)
  | 17 => ("MentorPairsModel", "meetings", "I", false)
  | 18 => ("MentorPairsModel", "told", "I", false)
  | 19 => ("MentorPairsModel", "meetingOf", "[I", true)
  | 20 => ("MentorPairsModel", "meetingDue", "[I", true)
  | 21 => ("MentorPairsModel", "toldOf", "[I", true)
  | 22 => ("MentorPairsModel", "toldDay", "[I", true)
  | 23 => ("MentorPairsModel", "toldKept", "[Z", true)
  | 24 => ("MentorPairsModel", "goals", "I", false)
  | 25 => ("MentorPairsModel", "goalOf", "[I", true)
  | 26 => ("MentorPairsModel", "goalDue", "[I", true)
  | 27 => ("MentorPairsModel", "goalBehind", "[I", true)
  | 28 => ("MentorPairsModel", "goalConfirmed", "[I", true)
  | 29 => ("MentorPairsModel", "runs", "I", false)
  | 30 => ("MentorPairsModel", "months", "[I", true)
  | 31 => ("MentorPairsModel", "hasEnded", "[Z", true)
  | _ => ("MentorPairsModel", "free", "[Z", true)
def tyX10 : Nat → FieldType := fun k => match k with
  | 0 => .int
  | 1 => .int
  | 2 => .long
  | 3 => .long
  | 4 => .array .int
  | 5 => .array .int
  | 6 => .array .long
  | 7 => .int
  | 8 => .int
  | 9 => .array .int
  | 10 => .array .int
  | 11 => .array .int
  | 12 => .array .boolean
  | 13 => .boolean
  | 14 => .array .int
  | 15 => .array .int
  | 16 => .array .int
  | 17 => .int
  | 18 => .int
  | 19 => .array .int
  | 20 => .array .int
  | 21 => .array .int
  | 22 => .array .int
  | 23 => .array .boolean
  | 24 => .int
  | 25 => .array .int
  | 26 => .array .int
  | 27 => .array .int
  | 28 => .array .int
  | 29 => .int
  | 30 => .array .int
  | 31 => .array .boolean
  | _ => .array .boolean
abbrev wsX100 : List Cond := u_ws RX10 TX10 33
theorem nmX10 : ∀ a, a < 33 → ∀ b, b < 33 → a ≠ b → (TX10 a).2.1 ≠ (TX10 b).2.1 := by decide +kernel
theorem tyX10_ok : ∀ k, k < 33 → parseFieldDescriptor (TX10 k).2.2.1 = some (tyX10 k) := by decide +kernel
abbrev cX10_init : ByteArray := prog_12_method_1_code
def yX10_init : MethodName := ⟨RX10, "<init>", "()V"⟩
abbrev cX10_status : ByteArray := prog_12_method_3_code
def yX10_status : MethodName := ⟨RX10, "status", "()I"⟩
abbrev cX10_refuse : ByteArray := prog_12_method_4_code
def yX10_refuse : MethodName := ⟨RX10, "refuse", "(I)I"⟩
abbrev cX10_no : ByteArray := prog_12_method_5_code
def yX10_no : MethodName := ⟨RX10, "no", "(I)Z"⟩
abbrev cX10_cut : ByteArray := prog_12_method_6_code
def yX10_cut : MethodName := ⟨RX10, "cut", "(IJ)J"⟩
abbrev cX10_tray : ByteArray := prog_12_method_7_code
def yX10_tray : MethodName := ⟨RX10, "tray", "(III)Z"⟩
abbrev cX10_trayed : ByteArray := prog_12_method_8_code
def yX10_trayed : MethodName := ⟨RX10, "trayed", "(I)I"⟩
abbrev cX10_placed : ByteArray := prog_12_method_9_code
def yX10_placed : MethodName := ⟨RX10, "placed", "(II)I"⟩
abbrev cX10_write : ByteArray := prog_12_method_10_code
def yX10_write : MethodName := ⟨RX10, "write", "(IIJ)Z"⟩
abbrev cX10_read : ByteArray := prog_12_method_11_code
def yX10_read : MethodName := ⟨RX10, "read", "(II)J"⟩
abbrev cX10_pour : ByteArray := prog_12_method_12_code
def yX10_pour : MethodName := ⟨RX10, "pour", "(IIIII)Z"⟩
abbrev cX10_isElder : ByteArray := prog_12_method_13_code
def yX10_isElder : MethodName := ⟨RX10, "isElder", "(I)Z"⟩
abbrev cX10_isBeginner : ByteArray := prog_12_method_14_code
def yX10_isBeginner : MethodName := ⟨RX10, "isBeginner", "(I)Z"⟩
abbrev cX10_elder : ByteArray := prog_12_method_15_code
def yX10_elder : MethodName := ⟨RX10, "elder", "(I)I"⟩
abbrev cX10_beginner : ByteArray := prog_12_method_16_code
def yX10_beginner : MethodName := ⟨RX10, "beginner", "()I"⟩
abbrev cX10_places : ByteArray := prog_12_method_17_code
def yX10_places : MethodName := ⟨RX10, "places", "(II)Z"⟩
abbrev cX10_like : ByteArray := prog_12_method_18_code
def yX10_like : MethodName := ⟨RX10, "like", "(IIZI)Z"⟩
abbrev cX10_bar : ByteArray := prog_12_method_19_code
def yX10_bar : MethodName := ⟨RX10, "bar", "(IIZ)Z"⟩
abbrev cX10_can : ByteArray := prog_12_method_20_code
def yX10_can : MethodName := ⟨RX10, "can", "(II)Z"⟩
abbrev cX10_elderPrefers : ByteArray := prog_12_method_21_code
def yX10_elderPrefers : MethodName := ⟨RX10, "elderPrefers", "(III)Z"⟩
abbrev cX10_beginnerPrefers : ByteArray := prog_12_method_22_code
def yX10_beginnerPrefers : MethodName := ⟨RX10, "beginnerPrefers", "(III)Z"⟩
abbrev cX10_hasOf : ByteArray := prog_12_method_23_code
def yX10_hasOf : MethodName := ⟨RX10, "hasOf", "(I)I"⟩
abbrev cX10_worst : ByteArray := prog_12_method_24_code
def yX10_worst : MethodName := ⟨RX10, "worst", "(I)I"⟩
abbrev cX10_rank : ByteArray := prog_12_method_25_code
def yX10_rank : MethodName := ⟨RX10, "rank", "(II)I"⟩
abbrev cX10_asked : ByteArray := prog_12_method_26_code
def yX10_asked : MethodName := ⟨RX10, "asked", "(II)I"⟩
abbrev cX10_pair : ByteArray := prog_12_method_27_code
def yX10_pair : MethodName := ⟨RX10, "pair", "()I"⟩
abbrev cX10_elderOf : ByteArray := prog_12_method_28_code
def yX10_elderOf : MethodName := ⟨RX10, "elderOf", "(I)I"⟩
abbrev cX10_has : ByteArray := prog_12_method_29_code
def yX10_has : MethodName := ⟨RX10, "has", "(I)I"⟩
abbrev cX10_isBlock : ByteArray := prog_12_method_30_code
def yX10_isBlock : MethodName := ⟨RX10, "isBlock", "(II)Z"⟩
abbrev cX10_blocks : ByteArray := prog_12_method_31_code
def yX10_blocks : MethodName := ⟨RX10, "blocks", "()I"⟩
abbrev cX10_block : ByteArray := prog_12_method_32_code
def yX10_block : MethodName := ⟨RX10, "block", "(II)I"⟩
abbrev cX10_isFree : ByteArray := prog_12_method_33_code
def yX10_isFree : MethodName := ⟨RX10, "isFree", "(II)Z"⟩
abbrev cX10_countSteps : ByteArray := prog_12_method_34_code
def yX10_countSteps : MethodName := ⟨RX10, "countSteps", "(I)V"⟩
abbrev cX10_change : ByteArray := prog_12_method_35_code
def yX10_change : MethodName := ⟨RX10, "change", "(I)I"⟩
abbrev cX10_takes : ByteArray := prog_12_method_36_code
def yX10_takes : MethodName := ⟨RX10, "takes", "(III)Z"⟩
abbrev cX10_isDay : ByteArray := prog_12_method_37_code
def yX10_isDay : MethodName := ⟨RX10, "isDay", "(I)Z"⟩
abbrev cX10_meeting : ByteArray := prog_12_method_38_code
def yX10_meeting : MethodName := ⟨RX10, "meeting", "(II)I"⟩
abbrev cX10_tell : ByteArray := prog_12_method_39_code
def yX10_tell : MethodName := ⟨RX10, "tell", "(IZI)Z"⟩
abbrev cX10_met : ByteArray := prog_12_method_40_code
def yX10_met : MethodName := ⟨RX10, "met", "(III)I"⟩
abbrev cX10_goal : ByteArray := prog_12_method_41_code
def yX10_goal : MethodName := ⟨RX10, "goal", "(III)I"⟩
abbrev cX10_confirm : ByteArray := prog_12_method_42_code
def yX10_confirm : MethodName := ⟨RX10, "confirm", "(II)Z"⟩
abbrev cX10_isReached : ByteArray := prog_12_method_43_code
def yX10_isReached : MethodName := ⟨RX10, "isReached", "(II)Z"⟩
abbrev cX10_goalAt : ByteArray := prog_12_method_44_code
def yX10_goalAt : MethodName := ⟨RX10, "goalAt", "(II)I"⟩
abbrev cX10_common : ByteArray := prog_12_method_45_code
def yX10_common : MethodName := ⟨RX10, "common", "(JJ)J"⟩
abbrev cX10_tells : ByteArray := prog_12_method_46_code
def yX10_tells : MethodName := ⟨RX10, "tells", "(JJ)Z"⟩
abbrev cX10_run : ByteArray := prog_12_method_47_code
def yX10_run : MethodName := ⟨RX10, "run", "(IZ)Z"⟩
abbrev cX10_clear : ByteArray := prog_12_method_48_code
def yX10_clear : MethodName := ⟨RX10, "clear", "()Z"⟩
abbrev cX10_lasts : ByteArray := prog_12_method_49_code
def yX10_lasts : MethodName := ⟨RX10, "lasts", "(I)Z"⟩
abbrev cX10_upper : ByteArray := prog_12_method_50_code
def yX10_upper : MethodName := ⟨RX10, "upper", "()J"⟩
abbrev cX10_lower : ByteArray := prog_12_method_51_code
def yX10_lower : MethodName := ⟨RX10, "lower", "()J"⟩
abbrev cX10_trial : ByteArray := prog_12_method_52_code
def yX10_trial : MethodName := ⟨RX10, "trial", "(III)I"⟩
abbrev cX10_sumOf : ByteArray := prog_12_method_53_code
def yX10_sumOf : MethodName := ⟨RX10, "sumOf", "(III)I"⟩
abbrev cX10_gain : ByteArray := prog_12_method_54_code
def yX10_gain : MethodName := ⟨RX10, "gain", "(III)Z"⟩
abbrev cX10_chance : ByteArray := prog_12_method_55_code
def yX10_chance : MethodName := ⟨RX10, "chance", "(III)Z"⟩
abbrev cX10_draw : ByteArray := prog_12_method_56_code
def yX10_draw : MethodName := ⟨RX10, "draw", "(III)I"⟩
def RJ6 : String := "java/lang/Integer"
def TJ6 : u_T := fun k => match k with
  | _ => ("", "", "", false)
def tyJ6 : Nat → FieldType := fun k => match k with
  | _ => .int
abbrev wsJ60 : List Cond := u_ws RJ6 TJ6 0
theorem nmJ6 : ∀ a, a < 0 → ∀ b, b < 0 → a ≠ b → (TJ6 a).2.1 ≠ (TJ6 b).2.1 := by decide +kernel
theorem tyJ6_ok : ∀ k, k < 0 → parseFieldDescriptor (TJ6 k).2.2.1 = some (tyJ6 k) := by decide +kernel
abbrev cJ6_numberOfTrailingZeros_0f7a4 : ByteArray := prog_13_method_48_code
def yJ6_numberOfTrailingZeros_0f7a4 : MethodName := ⟨RJ6, "numberOfTrailingZeros", "(I)I"⟩
abbrev cJ6_bitCount_0f7a4 : ByteArray := prog_13_method_49_code
def yJ6_bitCount_0f7a4 : MethodName := ⟨RJ6, "bitCount", "(I)I"⟩
def RJ9 : String := "java/lang/Math"
def TJ9 : u_T := fun k => match k with
  | _ => ("", "", "", false)
def tyJ9 : Nat → FieldType := fun k => match k with
  | _ => .int
abbrev wsJ90 : List Cond := u_ws RJ9 TJ9 0
theorem nmJ9 : ∀ a, a < 0 → ∀ b, b < 0 → a ≠ b → (TJ9 a).2.1 ≠ (TJ9 b).2.1 := by decide +kernel
theorem tyJ9_ok : ∀ k, k < 0 → parseFieldDescriptor (TJ9 k).2.2.1 = some (tyJ9 k) := by decide +kernel
abbrev cJ9_abs_067f4 : ByteArray := prog_14_method_61_code
def yJ9_abs_067f4 : MethodName := ⟨RJ9, "abs", "(J)J"⟩
def RJ10 : String := "java/lang/System"
def TJ10 : u_T := fun k => match k with
  | _ => ("", "", "", false)
def tyJ10 : Nat → FieldType := fun k => match k with
  | _ => .int
abbrev wsJ100 : List Cond := u_ws RJ10 TJ10 0
theorem nmJ10 : ∀ a, a < 0 → ∀ b, b < 0 → a ≠ b → (TJ10 a).2.1 ≠ (TJ10 b).2.1 := by decide +kernel
theorem tyJ10_ok : ∀ k, k < 0 → parseFieldDescriptor (TJ10 k).2.2.1 = some (tyJ10 k) := by decide +kernel
def RJ7 : String := "java/util/Arrays"
def TJ7 : u_T := fun k => match k with
  | _ => ("", "", "", false)
def tyJ7 : Nat → FieldType := fun k => match k with
  | _ => .int
abbrev wsJ70 : List Cond := u_ws RJ7 TJ7 0
theorem nmJ7 : ∀ a, a < 0 → ∀ b, b < 0 → a ≠ b → (TJ7 a).2.1 ≠ (TJ7 b).2.1 := by decide +kernel
theorem tyJ7_ok : ∀ k, k < 0 → parseFieldDescriptor (TJ7 k).2.2.1 = some (tyJ7 k) := by decide +kernel
abbrev cJ7_fill_d0a16 : ByteArray := prog_16_method_101_code
def yJ7_fill_d0a16 : MethodName := ⟨RJ7, "fill", "([JJ)V"⟩
abbrev cJ7_fill_53178 : ByteArray := prog_16_method_103_code
def yJ7_fill_53178 : MethodName := ⟨RJ7, "fill", "([II)V"⟩
def RL : String := "MentorPairsLaw"
def wsX0_init : List Cond := .code yX0_init cX0_init 1 none :: ([.methodLink RX0 3 objectInit, .instanceMethod objectInit, .code objectInit ⟨#[0xb1]⟩ 1 none, .arrayClass .int, .fieldLink RX0 9 "MentorPairs$Circle" "placesOf" "[I", .fieldLink RX0 15 "MentorPairs$Circle" "likingByElder" "[I", .fieldLink RX0 18 "MentorPairs$Circle" "likingByBeginner" "[I", .arrayClass .boolean, .fieldLink RX0 21 "MentorPairs$Circle" "barred" "[Z", .fieldLink RX0 25 "MentorPairs$Circle" "elders" "I", .fieldLink RX0 29 "MentorPairs$Circle" "beginners" "I"] ++ wsX00)
def wsX0_spot : List Cond := .code yX0_spot cX0_spot 2 (some .int) :: ([])
def wsX0_isElder : List Cond := .code yX0_isElder cX0_isElder 2 (some .boolean) :: ([.fieldLink RX0 25 "MentorPairs$Circle" "elders" "I"] ++ wsX00)
def wsX0_isBeginner : List Cond := .code yX0_isBeginner cX0_isBeginner 2 (some .boolean) :: ([.fieldLink RX0 29 "MentorPairs$Circle" "beginners" "I"] ++ wsX00)
def wsX0_areTwo : List Cond := .code yX0_areTwo cX0_areTwo 3 (some .boolean) :: ([.methodLink RX0 32 yX0_isElder, .instanceMethod yX0_isElder, .selects RX0 yX0_isElder yX0_isElder, .initialized RX0, .code yX0_isElder cX0_isElder 2 (some .boolean), .fieldLink RX0 25 "MentorPairs$Circle" "elders" "I", .methodLink RX0 36 yX0_isBeginner, .instanceMethod yX0_isBeginner, .selects RX0 yX0_isBeginner yX0_isBeginner, .code yX0_isBeginner cX0_isBeginner 2 (some .boolean), .fieldLink RX0 29 "MentorPairs$Circle" "beginners" "I"] ++ wsX00)
def wsX0_addElder : List Cond := .code yX0_addElder cX0_addElder 2 (some .int) :: ([.fieldLink RX0 9 "MentorPairs$Circle" "placesOf" "[I", .fieldLink RX0 25 "MentorPairs$Circle" "elders" "I"] ++ wsX00)
def wsX0_addBeginner : List Cond := .code yX0_addBeginner cX0_addBeginner 1 (some .int) :: ([.fieldLink RX0 29 "MentorPairs$Circle" "beginners" "I"] ++ wsX00)
def wsX0_setLiking : List Cond := .code yX0_setLiking cX0_setLiking 6 none :: ([.fieldLink RX0 15 "MentorPairs$Circle" "likingByElder" "[I", .fieldLink RX0 18 "MentorPairs$Circle" "likingByBeginner" "[I", .methodLink RX0 39 yX0_spot, .static yX0_spot, .initialized RX0, .code yX0_spot cX0_spot 2 (some .int)] ++ wsX00)
def wsX0_isBarred : List Cond := .code yX0_isBarred cX0_isBarred 3 (some .boolean) :: ([.fieldLink RX0 21 "MentorPairs$Circle" "barred" "[Z", .methodLink RX0 39 yX0_spot, .static yX0_spot, .initialized RX0, .code yX0_spot cX0_spot 2 (some .int)] ++ wsX00)
def wsX0_setBarred : List Cond := .code yX0_setBarred cX0_setBarred 4 none :: ([.fieldLink RX0 21 "MentorPairs$Circle" "barred" "[Z", .methodLink RX0 39 yX0_spot, .static yX0_spot, .initialized RX0, .code yX0_spot cX0_spot 2 (some .int)] ++ wsX00)
def wsX0_canPair : List Cond := .code yX0_canPair cX0_canPair 4 (some .boolean) :: ([.fieldLink RX0 15 "MentorPairs$Circle" "likingByElder" "[I", .fieldLink RX0 18 "MentorPairs$Circle" "likingByBeginner" "[I", .fieldLink RX0 21 "MentorPairs$Circle" "barred" "[Z", .methodLink RX0 39 yX0_spot, .static yX0_spot, .initialized RX0, .code yX0_spot cX0_spot 2 (some .int)] ++ wsX00)
def wsX0_beginnerPrefers : List Cond := .code yX0_beginnerPrefers cX0_beginnerPrefers 6 (some .boolean) :: ([.fieldLink RX0 18 "MentorPairs$Circle" "likingByBeginner" "[I", .methodLink RX0 39 yX0_spot, .static yX0_spot, .initialized RX0, .code yX0_spot cX0_spot 2 (some .int)] ++ wsX00)
def wsX0_elderPrefers : List Cond := .code yX0_elderPrefers cX0_elderPrefers 6 (some .boolean) :: ([.fieldLink RX0 15 "MentorPairs$Circle" "likingByElder" "[I", .methodLink RX0 39 yX0_spot, .static yX0_spot, .initialized RX0, .code yX0_spot cX0_spot 2 (some .int)] ++ wsX00)
def wsX1_init : List Cond := .code yX1_init cX1_init 1 none :: ([.methodLink RX1 1 objectInit, .instanceMethod objectInit, .code objectInit ⟨#[0xb1]⟩ 1 none, .fieldLink RX1 7 "MentorPairs$Fraction" "above" "J", .fieldLink RX1 13 "MentorPairs$Fraction" "below" "J"] ++ wsX10)
def wsX1_commonDivisor : List Cond := .code yX1_commonDivisor cX1_commonDivisor 11 (some .long) :: ([])
def wsX1_become : List Cond := .code yX1_become cX1_become 7 none :: ([.methodLink RX1 16 Lib.MathLoose.abs_long.x, .static Lib.MathLoose.abs_long.x, .initialized "java/lang/Math", .code Lib.MathLoose.abs_long.x Lib.MathLoose.abs_long.code 2 (some .long), .fieldLink RX1 7 "MentorPairs$Fraction" "above" "J", .fieldLink RX1 13 "MentorPairs$Fraction" "below" "J", .methodLink RX1 22 yX1_commonDivisor, .static yX1_commonDivisor, .initialized RX1, .code yX1_commonDivisor cX1_commonDivisor 11 (some .long)] ++ wsX10)
def wsX2_init : List Cond := .code yX2_init cX2_init 1 none :: ([.methodLink RX2 3 objectInit, .instanceMethod objectInit, .code objectInit ⟨#[0xb1]⟩ 1 none, .arrayClass .int, .fieldLink RX2 9 "MentorPairs$Goals" "beginnerOf" "[I", .fieldLink RX2 15 "MentorPairs$Goals" "dueOn" "[I", .fieldLink RX2 18 "MentorPairs$Goals" "behindGoal" "[I", .fieldLink RX2 21 "MentorPairs$Goals" "confirmedOn" "[I", .fieldLink RX2 24 "MentorPairs$Goals" "many" "I"] ++ wsX20)
def wsX2_isGoal : List Cond := .code yX2_isGoal cX2_isGoal 2 (some .boolean) :: ([.fieldLink RX2 24 "MentorPairs$Goals" "many" "I"] ++ wsX20)
def wsX2_isGoalOf : List Cond := .code yX2_isGoalOf cX2_isGoalOf 3 (some .boolean) :: ([.fieldLink RX2 9 "MentorPairs$Goals" "beginnerOf" "[I", .methodLink RX2 28 yX2_isGoal, .instanceMethod yX2_isGoal, .selects RX2 yX2_isGoal yX2_isGoal, .initialized RX2, .code yX2_isGoal cX2_isGoal 2 (some .boolean), .fieldLink RX2 24 "MentorPairs$Goals" "many" "I"] ++ wsX20)
def wsX2_add : List Cond := .code yX2_add cX2_add 4 (some .int) :: ([.fieldLink RX2 9 "MentorPairs$Goals" "beginnerOf" "[I", .fieldLink RX2 24 "MentorPairs$Goals" "many" "I", .fieldLink RX2 15 "MentorPairs$Goals" "dueOn" "[I", .fieldLink RX2 18 "MentorPairs$Goals" "behindGoal" "[I", .fieldLink RX2 21 "MentorPairs$Goals" "confirmedOn" "[I"] ++ wsX20)
def wsX2_isReached : List Cond := .code yX2_isReached cX2_isReached 7 (some .boolean) :: ([.fieldLink RX2 21 "MentorPairs$Goals" "confirmedOn" "[I", .fieldLink RX2 15 "MentorPairs$Goals" "dueOn" "[I", .fieldLink RX2 18 "MentorPairs$Goals" "behindGoal" "[I"] ++ wsX20)
def wsX2_asOf : List Cond := .code yX2_asOf cX2_asOf 3 (some .int) :: ([.fieldLink RX2 15 "MentorPairs$Goals" "dueOn" "[I", .methodLink RX2 32 yX2_isReached, .instanceMethod yX2_isReached, .selects RX2 yX2_isReached yX2_isReached, .initialized RX2, .code yX2_isReached cX2_isReached 7 (some .boolean), .fieldLink RX2 21 "MentorPairs$Goals" "confirmedOn" "[I", .fieldLink RX2 18 "MentorPairs$Goals" "behindGoal" "[I"] ++ wsX20)
def wsX3_init : List Cond := .code yX3_init cX3_init 1 none :: ([.methodLink RX3 3 objectInit, .instanceMethod objectInit, .code objectInit ⟨#[0xb1]⟩ 1 none, .arrayClass .int, .fieldLink RX3 9 "MentorPairs$Meetings" "beginnerOf" "[I", .fieldLink RX3 15 "MentorPairs$Meetings" "dueOn" "[I", .fieldLink RX3 18 "MentorPairs$Meetings" "toldMeeting" "[I", .fieldLink RX3 21 "MentorPairs$Meetings" "toldDay" "[I", .arrayClass .boolean, .fieldLink RX3 24 "MentorPairs$Meetings" "toldKept" "[Z", .fieldLink RX3 28 "MentorPairs$Meetings" "many" "I", .fieldLink RX3 32 "MentorPairs$Meetings" "tellings" "I"] ++ wsX30)
def wsX3_isMeeting : List Cond := .code yX3_isMeeting cX3_isMeeting 2 (some .boolean) :: ([.fieldLink RX3 28 "MentorPairs$Meetings" "many" "I"] ++ wsX30)
def wsX3_add : List Cond := .code yX3_add cX3_add 3 (some .int) :: ([.fieldLink RX3 9 "MentorPairs$Meetings" "beginnerOf" "[I", .fieldLink RX3 28 "MentorPairs$Meetings" "many" "I", .fieldLink RX3 15 "MentorPairs$Meetings" "dueOn" "[I"] ++ wsX30)
def wsX3_addTelling : List Cond := .code yX3_addTelling cX3_addTelling 4 none :: ([.fieldLink RX3 18 "MentorPairs$Meetings" "toldMeeting" "[I", .fieldLink RX3 32 "MentorPairs$Meetings" "tellings" "I", .fieldLink RX3 24 "MentorPairs$Meetings" "toldKept" "[Z", .fieldLink RX3 21 "MentorPairs$Meetings" "toldDay" "[I"] ++ wsX30)
def wsX3_knownOn : List Cond := .code yX3_knownOn cX3_knownOn 6 (some .int) :: ([.fieldLink RX3 32 "MentorPairs$Meetings" "tellings" "I", .fieldLink RX3 18 "MentorPairs$Meetings" "toldMeeting" "[I", .fieldLink RX3 21 "MentorPairs$Meetings" "toldDay" "[I", .fieldLink RX3 24 "MentorPairs$Meetings" "toldKept" "[Z"] ++ wsX30)
def wsX3_count : List Cond := .code yX3_count cX3_count 6 (some .int) :: ([.fieldLink RX3 28 "MentorPairs$Meetings" "many" "I", .fieldLink RX3 9 "MentorPairs$Meetings" "beginnerOf" "[I", .fieldLink RX3 15 "MentorPairs$Meetings" "dueOn" "[I", .methodLink RX3 35 yX3_knownOn, .instanceMethod yX3_knownOn, .selects RX3 yX3_knownOn yX3_knownOn, .initialized RX3, .code yX3_knownOn cX3_knownOn 6 (some .int), .fieldLink RX3 32 "MentorPairs$Meetings" "tellings" "I", .fieldLink RX3 18 "MentorPairs$Meetings" "toldMeeting" "[I", .fieldLink RX3 21 "MentorPairs$Meetings" "toldDay" "[I", .fieldLink RX3 24 "MentorPairs$Meetings" "toldKept" "[Z"] ++ wsX30)
def wsJ7_fill_53178 : List Cond := .code yJ7_fill_53178 cJ7_fill_53178 4 none :: ([])
def wsX4_init : List Cond := .code yX4_init cX4_init 1 none :: ([.methodLink RX4 3 objectInit, .instanceMethod objectInit, .code objectInit ⟨#[0xb1]⟩ 1 none, .arrayClass .int, .fieldLink RX4 9 "MentorPairs$Pairing" "elderBy" "[I", .fieldLink RX4 15 "MentorPairs$Pairing" "lastAsked" "[I", .fieldLink RX4 18 "MentorPairs$Pairing" "given" "Z", .methodLink RX4 22 yJ7_fill_53178, .static yJ7_fill_53178, .initialized RJ7, .code yJ7_fill_53178 cJ7_fill_53178 4 none] ++ wsX40)
def wsX4_countOf : List Cond := .code yX4_countOf cX4_countOf 4 (some .int) :: ([.fieldLink RX4 9 "MentorPairs$Pairing" "elderBy" "[I"] ++ wsX40)
def wsX4_hasPlaceLeft : List Cond := .code yX4_hasPlaceLeft cX4_hasPlaceLeft 3 (some .boolean) :: ([.methodLink RX4 28 yX4_countOf, .instanceMethod yX4_countOf, .selects RX4 yX4_countOf yX4_countOf, .initialized RX4, .code yX4_countOf cX4_countOf 4 (some .int), .fieldLink RX4 9 "MentorPairs$Pairing" "elderBy" "[I"] ++ wsX00 ++ wsX40)
def wsX4_leastOf : List Cond := .code yX4_leastOf cX4_leastOf 5 (some .int) :: ([.fieldLink RX4 9 "MentorPairs$Pairing" "elderBy" "[I", .instanceMethod yX0_elderPrefers, .initialized RX0, .selects RX0 yX0_elderPrefers yX0_elderPrefers, .code yX0_elderPrefers cX0_elderPrefers 6 (some .boolean), .fieldLink RX0 15 "MentorPairs$Circle" "likingByElder" "[I", .methodLink RX0 39 yX0_spot, .static yX0_spot, .code yX0_spot cX0_spot 2 (some .int)] ++ wsX00 ++ wsX40)
def wsX4_nextChoice : List Cond := .code yX4_nextChoice cX4_nextChoice 7 (some .int) :: ([.fieldLink RX4 15 "MentorPairs$Pairing" "lastAsked" "[I", .instanceMethod yX0_canPair, .initialized RX0, .selects RX0 yX0_canPair yX0_canPair, .code yX0_canPair cX0_canPair 4 (some .boolean), .fieldLink RX0 15 "MentorPairs$Circle" "likingByElder" "[I", .fieldLink RX0 18 "MentorPairs$Circle" "likingByBeginner" "[I", .fieldLink RX0 21 "MentorPairs$Circle" "barred" "[Z", .methodLink RX0 39 yX0_spot, .static yX0_spot, .code yX0_spot cX0_spot 2 (some .int), .instanceMethod yX0_beginnerPrefers, .selects RX0 yX0_beginnerPrefers yX0_beginnerPrefers, .code yX0_beginnerPrefers cX0_beginnerPrefers 6 (some .boolean)] ++ wsX40 ++ wsX00)
def wsX4_askFor : List Cond := .code yX4_askFor cX4_askFor 5 (some .int) :: ([.fieldLink RX4 9 "MentorPairs$Pairing" "elderBy" "[I", .methodLink RX4 71 yX4_hasPlaceLeft, .instanceMethod yX4_hasPlaceLeft, .selects RX4 yX4_hasPlaceLeft yX4_hasPlaceLeft, .initialized RX4, .code yX4_hasPlaceLeft cX4_hasPlaceLeft 3 (some .boolean), .methodLink RX4 28 yX4_countOf, .instanceMethod yX4_countOf, .selects RX4 yX4_countOf yX4_countOf, .code yX4_countOf cX4_countOf 4 (some .int), .methodLink RX4 75 yX4_leastOf, .instanceMethod yX4_leastOf, .selects RX4 yX4_leastOf yX4_leastOf, .code yX4_leastOf cX4_leastOf 5 (some .int), .instanceMethod yX0_elderPrefers, .initialized RX0, .selects RX0 yX0_elderPrefers yX0_elderPrefers, .code yX0_elderPrefers cX0_elderPrefers 6 (some .boolean), .fieldLink RX0 15 "MentorPairs$Circle" "likingByElder" "[I", .methodLink RX0 39 yX0_spot, .static yX0_spot, .code yX0_spot cX0_spot 2 (some .int)] ++ wsX40 ++ wsX00)
def wsX4_seat_r1 : List Cond := [Cond.fieldLink RX4 15 "MentorPairs$Pairing" "lastAsked" "[I", Cond.methodLink RX4 53 yX4_nextChoice, Cond.instanceMethod yX4_nextChoice, Cond.selects RX4 yX4_nextChoice yX4_nextChoice, Cond.initialized RX4, Cond.code yX4_nextChoice cX4_nextChoice 7 (some .int), Cond.instanceMethod yX0_canPair, Cond.initialized RX0, Cond.selects RX0 yX0_canPair yX0_canPair, Cond.code yX0_canPair cX0_canPair 4 (some .boolean), Cond.fieldLink RX0 15 "MentorPairs$Circle" "likingByElder" "[I", Cond.fieldLink RX0 18 "MentorPairs$Circle" "likingByBeginner" "[I", Cond.fieldLink RX0 21 "MentorPairs$Circle" "barred" "[Z", Cond.methodLink RX0 39 yX0_spot, Cond.static yX0_spot, Cond.code yX0_spot cX0_spot 2 (some .int), Cond.instanceMethod yX0_beginnerPrefers, Cond.selects RX0 yX0_beginnerPrefers yX0_beginnerPrefers, Cond.code yX0_beginnerPrefers cX0_beginnerPrefers 6 (some .boolean), Cond.methodLink RX4 57 yX4_askFor, Cond.instanceMethod yX4_askFor, Cond.selects RX4 yX4_askFor yX4_askFor, Cond.code yX4_askFor cX4_askFor 5 (some .int), Cond.fieldLink RX4 9 "MentorPairs$Pairing" "elderBy" "[I"]
def wsX4_seat_r2 : List Cond := [Cond.methodLink RX4 71 yX4_hasPlaceLeft, Cond.instanceMethod yX4_hasPlaceLeft, Cond.selects RX4 yX4_hasPlaceLeft yX4_hasPlaceLeft, Cond.code yX4_hasPlaceLeft cX4_hasPlaceLeft 3 (some .boolean), Cond.methodLink RX4 28 yX4_countOf, Cond.instanceMethod yX4_countOf, Cond.selects RX4 yX4_countOf yX4_countOf, Cond.code yX4_countOf cX4_countOf 4 (some .int), Cond.methodLink RX4 75 yX4_leastOf, Cond.instanceMethod yX4_leastOf, Cond.selects RX4 yX4_leastOf yX4_leastOf, Cond.code yX4_leastOf cX4_leastOf 5 (some .int), Cond.instanceMethod yX0_elderPrefers, Cond.selects RX0 yX0_elderPrefers yX0_elderPrefers, Cond.code yX0_elderPrefers cX0_elderPrefers 6 (some .boolean)]
def wsX4_seat : List Cond := .code yX4_seat cX4_seat 6 none :: ((wsX4_seat_r1 ++ wsX4_seat_r2) ++ wsX40 ++ wsX00)
def wsX4_countPairs : List Cond := .code yX4_countPairs cX4_countPairs 3 (some .int) :: ([.fieldLink RX4 9 "MentorPairs$Pairing" "elderBy" "[I"] ++ wsX40)
def wsX4_makeBest_r1 : List Cond := [Cond.fieldLink RX4 18 "MentorPairs$Pairing" "given" "Z", Cond.fieldLink RX4 9 "MentorPairs$Pairing" "elderBy" "[I", Cond.fieldLink RX4 15 "MentorPairs$Pairing" "lastAsked" "[I", Cond.methodLink RX4 22 yJ7_fill_53178, Cond.static yJ7_fill_53178, Cond.initialized RJ7, Cond.code yJ7_fill_53178 cJ7_fill_53178 4 none, Cond.methodLink RX4 45 yX4_seat, Cond.instanceMethod yX4_seat, Cond.selects RX4 yX4_seat yX4_seat, Cond.initialized RX4, Cond.code yX4_seat cX4_seat 6 none, Cond.methodLink RX4 53 yX4_nextChoice, Cond.instanceMethod yX4_nextChoice, Cond.selects RX4 yX4_nextChoice yX4_nextChoice, Cond.code yX4_nextChoice cX4_nextChoice 7 (some .int), Cond.instanceMethod yX0_canPair, Cond.initialized RX0, Cond.selects RX0 yX0_canPair yX0_canPair, Cond.code yX0_canPair cX0_canPair 4 (some .boolean), Cond.fieldLink RX0 15 "MentorPairs$Circle" "likingByElder" "[I", Cond.fieldLink RX0 18 "MentorPairs$Circle" "likingByBeginner" "[I", Cond.fieldLink RX0 21 "MentorPairs$Circle" "barred" "[Z", Cond.methodLink RX0 39 yX0_spot]
def wsX4_makeBest_r2 : List Cond := [Cond.static yX0_spot, Cond.code yX0_spot cX0_spot 2 (some .int), Cond.instanceMethod yX0_beginnerPrefers, Cond.selects RX0 yX0_beginnerPrefers yX0_beginnerPrefers, Cond.code yX0_beginnerPrefers cX0_beginnerPrefers 6 (some .boolean), Cond.methodLink RX4 57 yX4_askFor, Cond.instanceMethod yX4_askFor, Cond.selects RX4 yX4_askFor yX4_askFor, Cond.code yX4_askFor cX4_askFor 5 (some .int), Cond.methodLink RX4 71 yX4_hasPlaceLeft, Cond.instanceMethod yX4_hasPlaceLeft, Cond.selects RX4 yX4_hasPlaceLeft yX4_hasPlaceLeft, Cond.code yX4_hasPlaceLeft cX4_hasPlaceLeft 3 (some .boolean), Cond.methodLink RX4 28 yX4_countOf, Cond.instanceMethod yX4_countOf, Cond.selects RX4 yX4_countOf yX4_countOf, Cond.code yX4_countOf cX4_countOf 4 (some .int), Cond.methodLink RX4 75 yX4_leastOf, Cond.instanceMethod yX4_leastOf, Cond.selects RX4 yX4_leastOf yX4_leastOf, Cond.code yX4_leastOf cX4_leastOf 5 (some .int), Cond.instanceMethod yX0_elderPrefers, Cond.selects RX0 yX0_elderPrefers yX0_elderPrefers, Cond.code yX0_elderPrefers cX0_elderPrefers 6 (some .boolean)]
def wsX4_makeBest_r3 : List Cond := [Cond.methodLink RX4 49 yX4_countPairs, Cond.instanceMethod yX4_countPairs, Cond.selects RX4 yX4_countPairs yX4_countPairs, Cond.code yX4_countPairs cX4_countPairs 3 (some .int)]
def wsX4_makeBest : List Cond := .code yX4_makeBest cX4_makeBest 3 (some .int) :: ((wsX4_makeBest_r1 ++ (wsX4_makeBest_r2 ++ wsX4_makeBest_r3)) ++ wsX40 ++ wsX00)
def wsX4_isBlockedBy_r1 : List Cond := [Cond.fieldLink RX4 9 "MentorPairs$Pairing" "elderBy" "[I", Cond.instanceMethod yX0_canPair, Cond.initialized RX0, Cond.selects RX0 yX0_canPair yX0_canPair, Cond.code yX0_canPair cX0_canPair 4 (some .boolean), Cond.fieldLink RX0 15 "MentorPairs$Circle" "likingByElder" "[I", Cond.fieldLink RX0 18 "MentorPairs$Circle" "likingByBeginner" "[I", Cond.fieldLink RX0 21 "MentorPairs$Circle" "barred" "[Z", Cond.methodLink RX0 39 yX0_spot, Cond.static yX0_spot, Cond.code yX0_spot cX0_spot 2 (some .int), Cond.instanceMethod yX0_beginnerPrefers, Cond.selects RX0 yX0_beginnerPrefers yX0_beginnerPrefers, Cond.code yX0_beginnerPrefers cX0_beginnerPrefers 6 (some .boolean), Cond.methodLink RX4 71 yX4_hasPlaceLeft, Cond.instanceMethod yX4_hasPlaceLeft, Cond.selects RX4 yX4_hasPlaceLeft yX4_hasPlaceLeft, Cond.initialized RX4, Cond.code yX4_hasPlaceLeft cX4_hasPlaceLeft 3 (some .boolean), Cond.methodLink RX4 28 yX4_countOf, Cond.instanceMethod yX4_countOf, Cond.selects RX4 yX4_countOf yX4_countOf, Cond.code yX4_countOf cX4_countOf 4 (some .int), Cond.methodLink RX4 75 yX4_leastOf]
def wsX4_isBlockedBy_r2 : List Cond := [Cond.instanceMethod yX4_leastOf, Cond.selects RX4 yX4_leastOf yX4_leastOf, Cond.code yX4_leastOf cX4_leastOf 5 (some .int), Cond.instanceMethod yX0_elderPrefers, Cond.selects RX0 yX0_elderPrefers yX0_elderPrefers, Cond.code yX0_elderPrefers cX0_elderPrefers 6 (some .boolean)]
def wsX4_isBlockedBy : List Cond := .code yX4_isBlockedBy cX4_isBlockedBy 6 (some .boolean) :: ((wsX4_isBlockedBy_r1 ++ wsX4_isBlockedBy_r2) ++ wsX40 ++ wsX00)
def wsX4_countBlocking_r1 : List Cond := [Cond.methodLink RX4 78 yX4_isBlockedBy, Cond.instanceMethod yX4_isBlockedBy, Cond.selects RX4 yX4_isBlockedBy yX4_isBlockedBy, Cond.initialized RX4, Cond.code yX4_isBlockedBy cX4_isBlockedBy 6 (some .boolean), Cond.fieldLink RX4 9 "MentorPairs$Pairing" "elderBy" "[I", Cond.instanceMethod yX0_canPair, Cond.initialized RX0, Cond.selects RX0 yX0_canPair yX0_canPair, Cond.code yX0_canPair cX0_canPair 4 (some .boolean), Cond.fieldLink RX0 15 "MentorPairs$Circle" "likingByElder" "[I", Cond.fieldLink RX0 18 "MentorPairs$Circle" "likingByBeginner" "[I", Cond.fieldLink RX0 21 "MentorPairs$Circle" "barred" "[Z", Cond.methodLink RX0 39 yX0_spot, Cond.static yX0_spot, Cond.code yX0_spot cX0_spot 2 (some .int), Cond.instanceMethod yX0_beginnerPrefers, Cond.selects RX0 yX0_beginnerPrefers yX0_beginnerPrefers, Cond.code yX0_beginnerPrefers cX0_beginnerPrefers 6 (some .boolean), Cond.methodLink RX4 71 yX4_hasPlaceLeft, Cond.instanceMethod yX4_hasPlaceLeft, Cond.selects RX4 yX4_hasPlaceLeft yX4_hasPlaceLeft, Cond.code yX4_hasPlaceLeft cX4_hasPlaceLeft 3 (some .boolean), Cond.methodLink RX4 28 yX4_countOf]
def wsX4_countBlocking_r2 : List Cond := [Cond.instanceMethod yX4_countOf, Cond.selects RX4 yX4_countOf yX4_countOf, Cond.code yX4_countOf cX4_countOf 4 (some .int), Cond.methodLink RX4 75 yX4_leastOf, Cond.instanceMethod yX4_leastOf, Cond.selects RX4 yX4_leastOf yX4_leastOf, Cond.code yX4_leastOf cX4_leastOf 5 (some .int), Cond.instanceMethod yX0_elderPrefers, Cond.selects RX0 yX0_elderPrefers yX0_elderPrefers, Cond.code yX0_elderPrefers cX0_elderPrefers 6 (some .boolean)]
def wsX4_countBlocking : List Cond := .code yX4_countBlocking cX4_countBlocking 5 (some .int) :: ((wsX4_countBlocking_r1 ++ wsX4_countBlocking_r2) ++ wsX00 ++ wsX40)
def wsX5_init : List Cond := .code yX5_init cX5_init 1 none :: ([.methodLink RX5 3 objectInit, .instanceMethod objectInit, .code objectInit ⟨#[0xb1]⟩ 1 none, .arrayClass .int, .fieldLink RX5 9 "MentorPairs$Row" "queue" "[I", .fieldLink RX5 15 "MentorPairs$Row" "takerFrom" "[I", .fieldLink RX5 18 "MentorPairs$Row" "queued" "I", .fieldLink RX5 22 "MentorPairs$Row" "first" "I", .fieldLink RX5 25 "MentorPairs$Row" "freeElder" "I"] ++ wsX50)
def wsX5_mayMove : List Cond := .code yX5_mayMove cX5_mayMove 4 (some .boolean) :: ([.instanceMethod yX0_canPair, .initialized RX0, .selects RX0 yX0_canPair yX0_canPair, .code yX0_canPair cX0_canPair 4 (some .boolean), .fieldLink RX0 15 "MentorPairs$Circle" "likingByElder" "[I", .fieldLink RX0 18 "MentorPairs$Circle" "likingByBeginner" "[I", .fieldLink RX0 21 "MentorPairs$Circle" "barred" "[Z", .methodLink RX0 39 yX0_spot, .static yX0_spot, .code yX0_spot cX0_spot 2 (some .int)] ++ wsX40 ++ wsX00)
def wsX5_isFree : List Cond := .code yX5_isFree cX5_isFree 5 (some .boolean) :: ([.fieldLink RX5 22 "MentorPairs$Row" "first" "I", .instanceMethod yX4_countOf, .initialized RX4, .selects RX4 yX4_countOf yX4_countOf, .code yX4_countOf cX4_countOf 4 (some .int), .fieldLink RX4 9 "MentorPairs$Pairing" "elderBy" "[I"] ++ wsX40 ++ wsX50 ++ wsX00)
def wsX5_freeElderFor : List Cond := .code yX5_freeElderFor cX5_freeElderFor 5 (some .int) :: ([.methodLink RX5 56 yX5_mayMove, .static yX5_mayMove, .initialized RX5, .code yX5_mayMove cX5_mayMove 4 (some .boolean), .instanceMethod yX0_canPair, .initialized RX0, .selects RX0 yX0_canPair yX0_canPair, .code yX0_canPair cX0_canPair 4 (some .boolean), .fieldLink RX0 15 "MentorPairs$Circle" "likingByElder" "[I", .fieldLink RX0 18 "MentorPairs$Circle" "likingByBeginner" "[I", .fieldLink RX0 21 "MentorPairs$Circle" "barred" "[Z", .methodLink RX0 39 yX0_spot, .static yX0_spot, .code yX0_spot cX0_spot 2 (some .int), .methodLink RX5 60 yX5_isFree, .instanceMethod yX5_isFree, .selects RX5 yX5_isFree yX5_isFree, .code yX5_isFree cX5_isFree 5 (some .boolean), .fieldLink RX5 22 "MentorPairs$Row" "first" "I", .instanceMethod yX4_countOf, .initialized RX4, .selects RX4 yX4_countOf yX4_countOf, .code yX4_countOf cX4_countOf 4 (some .int), .fieldLink RX4 9 "MentorPairs$Pairing" "elderBy" "[I"] ++ wsX00 ++ wsX40 ++ wsX50)
def wsX5_queueLeaversOf : List Cond := .code yX5_queueLeaversOf cX5_queueLeaversOf 7 none :: ([.fieldLink RX5 22 "MentorPairs$Row" "first" "I", .fieldLink RX5 15 "MentorPairs$Row" "takerFrom" "[I", .fieldLink RX5 18 "MentorPairs$Row" "queued" "I", .fieldLink RX5 9 "MentorPairs$Row" "queue" "[I"] ++ wsX00 ++ wsX50 ++ wsX40)
def wsX5_queueLeavers : List Cond := .code yX5_queueLeavers cX5_queueLeavers 5 none :: ([.methodLink RX5 56 yX5_mayMove, .static yX5_mayMove, .initialized RX5, .code yX5_mayMove cX5_mayMove 4 (some .boolean), .instanceMethod yX0_canPair, .initialized RX0, .selects RX0 yX0_canPair yX0_canPair, .code yX0_canPair cX0_canPair 4 (some .boolean), .fieldLink RX0 15 "MentorPairs$Circle" "likingByElder" "[I", .fieldLink RX0 18 "MentorPairs$Circle" "likingByBeginner" "[I", .fieldLink RX0 21 "MentorPairs$Circle" "barred" "[Z", .methodLink RX0 39 yX0_spot, .static yX0_spot, .code yX0_spot cX0_spot 2 (some .int), .methodLink RX5 71 yX5_queueLeaversOf, .instanceMethod yX5_queueLeaversOf, .selects RX5 yX5_queueLeaversOf yX5_queueLeaversOf, .code yX5_queueLeaversOf cX5_queueLeaversOf 7 none, .fieldLink RX5 22 "MentorPairs$Row" "first" "I", .fieldLink RX5 15 "MentorPairs$Row" "takerFrom" "[I", .fieldLink RX5 18 "MentorPairs$Row" "queued" "I", .fieldLink RX5 9 "MentorPairs$Row" "queue" "[I"] ++ wsX00 ++ wsX40 ++ wsX50)
def wsX5_findLast_r1 : List Cond := [Cond.fieldLink RX5 15 "MentorPairs$Row" "takerFrom" "[I", Cond.fieldLink RX5 22 "MentorPairs$Row" "first" "I", Cond.fieldLink RX5 9 "MentorPairs$Row" "queue" "[I", Cond.fieldLink RX5 18 "MentorPairs$Row" "queued" "I", Cond.fieldLink RX5 25 "MentorPairs$Row" "freeElder" "I", Cond.methodLink RX5 28 yJ7_fill_53178, Cond.static yJ7_fill_53178, Cond.initialized RJ7, Cond.code yJ7_fill_53178 cJ7_fill_53178 4 none, Cond.methodLink RX5 34 yX5_freeElderFor, Cond.instanceMethod yX5_freeElderFor, Cond.selects RX5 yX5_freeElderFor yX5_freeElderFor, Cond.initialized RX5, Cond.code yX5_freeElderFor cX5_freeElderFor 5 (some .int), Cond.methodLink RX5 56 yX5_mayMove, Cond.static yX5_mayMove, Cond.code yX5_mayMove cX5_mayMove 4 (some .boolean), Cond.instanceMethod yX0_canPair, Cond.initialized RX0, Cond.selects RX0 yX0_canPair yX0_canPair, Cond.code yX0_canPair cX0_canPair 4 (some .boolean), Cond.fieldLink RX0 15 "MentorPairs$Circle" "likingByElder" "[I", Cond.fieldLink RX0 18 "MentorPairs$Circle" "likingByBeginner" "[I", Cond.fieldLink RX0 21 "MentorPairs$Circle" "barred" "[Z"]
def wsX5_findLast_r2 : List Cond := [Cond.methodLink RX0 39 yX0_spot, Cond.static yX0_spot, Cond.code yX0_spot cX0_spot 2 (some .int), Cond.methodLink RX5 60 yX5_isFree, Cond.instanceMethod yX5_isFree, Cond.selects RX5 yX5_isFree yX5_isFree, Cond.code yX5_isFree cX5_isFree 5 (some .boolean), Cond.instanceMethod yX4_countOf, Cond.initialized RX4, Cond.selects RX4 yX4_countOf yX4_countOf, Cond.code yX4_countOf cX4_countOf 4 (some .int), Cond.fieldLink RX4 9 "MentorPairs$Pairing" "elderBy" "[I", Cond.methodLink RX5 38 yX5_queueLeavers, Cond.instanceMethod yX5_queueLeavers, Cond.selects RX5 yX5_queueLeavers yX5_queueLeavers, Cond.code yX5_queueLeavers cX5_queueLeavers 5 none, Cond.methodLink RX5 71 yX5_queueLeaversOf, Cond.instanceMethod yX5_queueLeaversOf, Cond.selects RX5 yX5_queueLeaversOf yX5_queueLeaversOf, Cond.code yX5_queueLeaversOf cX5_queueLeaversOf 7 none]
def wsX5_findLast : List Cond := .code yX5_findLast cX5_findLast 6 (some .int) :: ((wsX5_findLast_r1 ++ wsX5_findLast_r2) ++ wsX50 ++ wsX00 ++ wsX40)
def wsX5_moveAll : List Cond := .code yX5_moveAll cX5_moveAll 7 (some .int) :: ([.fieldLink RX5 25 "MentorPairs$Row" "freeElder" "I", .fieldLink RX5 15 "MentorPairs$Row" "takerFrom" "[I"] ++ wsX50 ++ wsX40)
def wsX6_init : List Cond := .code yX6_init cX6_init 1 none :: ([.methodLink RX6 3 objectInit, .instanceMethod objectInit, .code objectInit ⟨#[0xb1]⟩ 1 none, .arrayClass .int, .fieldLink RX6 9 "MentorPairs$Runs" "monthsOf" "[I", .arrayClass .boolean, .fieldLink RX6 15 "MentorPairs$Runs" "hasEnded" "[Z", .fieldLink RX6 19 "MentorPairs$Runs" "many" "I"] ++ wsX60)
def wsX6_add : List Cond := .code yX6_add cX6_add 3 none :: ([.fieldLink RX6 9 "MentorPairs$Runs" "monthsOf" "[I", .fieldLink RX6 19 "MentorPairs$Runs" "many" "I", .fieldLink RX6 15 "MentorPairs$Runs" "hasEnded" "[Z"] ++ wsX60)
def wsX6_countEnded : List Cond := .code yX6_countEnded cX6_countEnded 4 (some .int) :: ([.fieldLink RX6 19 "MentorPairs$Runs" "many" "I", .fieldLink RX6 15 "MentorPairs$Runs" "hasEnded" "[Z", .fieldLink RX6 9 "MentorPairs$Runs" "monthsOf" "[I"] ++ wsX60)
def wsX6_countAtRisk : List Cond := .code yX6_countAtRisk cX6_countAtRisk 4 (some .int) :: ([.fieldLink RX6 19 "MentorPairs$Runs" "many" "I", .fieldLink RX6 9 "MentorPairs$Runs" "monthsOf" "[I"] ++ wsX60)
def wsX6_shareBeyond_r1 : List Cond := [Cond.methodLink RX6 23 yX6_countEnded, Cond.instanceMethod yX6_countEnded, Cond.selects RX6 yX6_countEnded yX6_countEnded, Cond.initialized RX6, Cond.code yX6_countEnded cX6_countEnded 4 (some .int), Cond.fieldLink RX6 19 "MentorPairs$Runs" "many" "I", Cond.fieldLink RX6 15 "MentorPairs$Runs" "hasEnded" "[Z", Cond.fieldLink RX6 9 "MentorPairs$Runs" "monthsOf" "[I", Cond.methodLink RX6 27 yX6_countAtRisk, Cond.instanceMethod yX6_countAtRisk, Cond.selects RX6 yX6_countAtRisk yX6_countAtRisk, Cond.code yX6_countAtRisk cX6_countAtRisk 4 (some .int), Cond.instanceMethod yX1_become, Cond.initialized RX1, Cond.selects RX1 yX1_become yX1_become, Cond.code yX1_become cX1_become 7 none, Cond.methodLink RX1 16 Lib.MathLoose.abs_long.x, Cond.static Lib.MathLoose.abs_long.x, Cond.initialized "java/lang/Math", Cond.code Lib.MathLoose.abs_long.x Lib.MathLoose.abs_long.code 2 (some .long), Cond.fieldLink RX1 7 "MentorPairs$Fraction" "above" "J", Cond.fieldLink RX1 13 "MentorPairs$Fraction" "below" "J", Cond.methodLink RX1 22 yX1_commonDivisor, Cond.static yX1_commonDivisor]
def wsX6_shareBeyond_r2 : List Cond := [Cond.code yX1_commonDivisor cX1_commonDivisor 11 (some .long)]
def wsX6_shareBeyond : List Cond := .code yX6_shareBeyond cX6_shareBeyond 10 none :: ((wsX6_shareBeyond_r1 ++ wsX6_shareBeyond_r2) ++ wsX60 ++ wsX10)
def wsX7_init : List Cond := .code yX7_init cX7_init 1 none :: ([.methodLink RX7 3 objectInit, .instanceMethod objectInit, .code objectInit ⟨#[0xb1]⟩ 1 none, .arrayClass .long, .fieldLink RX7 9 "MentorPairs$Tray" "numbers" "[J", .fieldLink RX7 15 "MentorPairs$Tray" "missing" "Z", .fieldLink RX7 19 "MentorPairs$Tray" "sort" "I", .fieldLink RX7 23 "MentorPairs$Tray" "length" "I"] ++ wsX70)
def wsJ7_fill_d0a16 : List Cond := .code yJ7_fill_d0a16 cJ7_fill_d0a16 5 none :: ([])
def wsX7_make : List Cond := .code yX7_make cX7_make 3 none :: ([.fieldLink RX7 15 "MentorPairs$Tray" "missing" "Z", .fieldLink RX7 19 "MentorPairs$Tray" "sort" "I", .fieldLink RX7 23 "MentorPairs$Tray" "length" "I", .fieldLink RX7 9 "MentorPairs$Tray" "numbers" "[J", .methodLink RX7 26 yJ7_fill_d0a16, .static yJ7_fill_d0a16, .initialized RJ7, .code yJ7_fill_d0a16 cJ7_fill_d0a16 5 none] ++ wsX70)
def wsX7_hasPlaces : List Cond := .code yX7_hasPlaces cX7_hasPlaces 3 (some .boolean) :: ([.fieldLink RX7 23 "MentorPairs$Tray" "length" "I"] ++ wsX70)
def wsX7_cut : List Cond := .code yX7_cut cX7_cut 3 (some .long) :: ([.fieldLink RX7 19 "MentorPairs$Tray" "sort" "I"] ++ wsX70)
def wsX7_put : List Cond := .code yX7_put cX7_put 4 none :: ([.fieldLink RX7 9 "MentorPairs$Tray" "numbers" "[J", .methodLink RX7 32 yX7_cut, .instanceMethod yX7_cut, .selects RX7 yX7_cut yX7_cut, .initialized RX7, .code yX7_cut cX7_cut 3 (some .long), .fieldLink RX7 19 "MentorPairs$Tray" "sort" "I"] ++ wsX70)
def wsX7_hasOutcomes : List Cond := .code yX7_hasOutcomes cX7_hasOutcomes 3 (some .boolean) :: ([.fieldLink RX7 9 "MentorPairs$Tray" "numbers" "[J", .constantLong RX7 36 (100)] ++ wsX70)
def wsX8_init : List Cond := .code yX8_init cX8_init 1 none :: ([.methodLink RX8 1 objectInit, .instanceMethod objectInit, .code objectInit ⟨#[0xb1]⟩ 1 none, .arrayClass .long, .fieldLink RX8 9 "MentorPairs$Trial" "sumsOfFirst" "[J", .fieldLink RX8 13 "MentorPairs$Trial" "sumsOfRest" "[J", .fieldLink RX8 16 "MentorPairs$Trial" "many" "I"] ++ wsX80)
def wsJ6_numberOfTrailingZeros_0f7a4 : List Cond := .code yJ6_numberOfTrailingZeros_0f7a4 cJ6_numberOfTrailingZeros_0f7a4 2 (some .int) :: ([.constant RJ6 264 (65536)])
def wsX8_laySums : List Cond := .code yX8_laySums cX8_laySums 8 none :: ([.fieldLink RX8 16 "MentorPairs$Trial" "many" "I", .methodLink RX8 24 yJ6_numberOfTrailingZeros_0f7a4, .static yJ6_numberOfTrailingZeros_0f7a4, .initialized RJ6, .code yJ6_numberOfTrailingZeros_0f7a4 cJ6_numberOfTrailingZeros_0f7a4 2 (some .int), .constant RJ6 264 (65536)] ++ wsX80 ++ wsX70)
def wsX8_lay : List Cond := .code yX8_lay cX8_lay 3 none :: ([.fieldLink RX8 16 "MentorPairs$Trial" "many" "I", .fieldLink RX8 9 "MentorPairs$Trial" "sumsOfFirst" "[J", .fieldLink RX8 13 "MentorPairs$Trial" "sumsOfRest" "[J", .methodLink RX8 20 yX8_laySums, .instanceMethod yX8_laySums, .selects RX8 yX8_laySums yX8_laySums, .initialized RX8, .code yX8_laySums cX8_laySums 8 none, .methodLink RX8 24 yJ6_numberOfTrailingZeros_0f7a4, .static yJ6_numberOfTrailingZeros_0f7a4, .initialized RJ6, .code yJ6_numberOfTrailingZeros_0f7a4 cJ6_numberOfTrailingZeros_0f7a4 2 (some .int), .constant RJ6 264 (65536)] ++ wsX80 ++ wsX70)
def wsX8_sumOf : List Cond := .code yX8_sumOf cX8_sumOf 2 (some .long) :: ([.fieldLink RX8 9 "MentorPairs$Trial" "sumsOfFirst" "[J", .fieldLink RX8 13 "MentorPairs$Trial" "sumsOfRest" "[J"] ++ wsX80)
def wsJ6_bitCount_0f7a4 : List Cond := .code yJ6_bitCount_0f7a4 cJ6_bitCount_0f7a4 1 (some .int) :: ([.constant RJ6 265 (1431655765), .constant RJ6 266 (858993459), .constant RJ6 267 (252645135)])
def wsX8_gainOf_r1 : List Cond := [Cond.fieldLink RX8 16 "MentorPairs$Trial" "many" "I", Cond.methodLink RX8 35 yJ6_bitCount_0f7a4, Cond.static yJ6_bitCount_0f7a4, Cond.initialized RJ6, Cond.code yJ6_bitCount_0f7a4 cJ6_bitCount_0f7a4 1 (some .int), Cond.constant RJ6 265 (1431655765), Cond.constant RJ6 266 (858993459), Cond.constant RJ6 267 (252645135), Cond.methodLink RX8 38 yX8_sumOf, Cond.instanceMethod yX8_sumOf, Cond.selects RX8 yX8_sumOf yX8_sumOf, Cond.initialized RX8, Cond.code yX8_sumOf cX8_sumOf 2 (some .long), Cond.fieldLink RX8 9 "MentorPairs$Trial" "sumsOfFirst" "[J", Cond.fieldLink RX8 13 "MentorPairs$Trial" "sumsOfRest" "[J", Cond.instanceMethod yX1_become, Cond.initialized RX1, Cond.selects RX1 yX1_become yX1_become, Cond.code yX1_become cX1_become 7 none, Cond.methodLink RX1 16 Lib.MathLoose.abs_long.x, Cond.static Lib.MathLoose.abs_long.x, Cond.initialized "java/lang/Math", Cond.code Lib.MathLoose.abs_long.x Lib.MathLoose.abs_long.code 2 (some .long), Cond.fieldLink RX1 7 "MentorPairs$Fraction" "above" "J"]
def wsX8_gainOf_r2 : List Cond := [Cond.fieldLink RX1 13 "MentorPairs$Fraction" "below" "J", Cond.methodLink RX1 22 yX1_commonDivisor, Cond.static yX1_commonDivisor, Cond.code yX1_commonDivisor cX1_commonDivisor 11 (some .long)]
def wsX8_gainOf : List Cond := .code yX8_gainOf cX8_gainOf 11 none :: ((wsX8_gainOf_r1 ++ wsX8_gainOf_r2) ++ wsX80 ++ wsX10)
def wsX8_countSets : List Cond := .code yX8_countSets cX8_countSets 4 (some .int) :: ([])
def wsX8_nextOfSameSize : List Cond := .code yX8_nextOfSameSize cX8_nextOfSameSize 4 (some .int) :: ([.methodLink RX8 24 yJ6_numberOfTrailingZeros_0f7a4, .static yJ6_numberOfTrailingZeros_0f7a4, .initialized RJ6, .code yJ6_numberOfTrailingZeros_0f7a4 cJ6_numberOfTrailingZeros_0f7a4 2 (some .int), .constant RJ6 264 (65536)])
def wsX8_chanceOf_r1 : List Cond := [Cond.fieldLink RX8 16 "MentorPairs$Trial" "many" "I", Cond.methodLink RX8 35 yJ6_bitCount_0f7a4, Cond.static yJ6_bitCount_0f7a4, Cond.initialized RJ6, Cond.code yJ6_bitCount_0f7a4 cJ6_bitCount_0f7a4 1 (some .int), Cond.constant RJ6 265 (1431655765), Cond.constant RJ6 266 (858993459), Cond.constant RJ6 267 (252645135), Cond.methodLink RX8 48 yX8_countSets, Cond.static yX8_countSets, Cond.initialized RX8, Cond.code yX8_countSets cX8_countSets 4 (some .int), Cond.methodLink RX8 38 yX8_sumOf, Cond.instanceMethod yX8_sumOf, Cond.selects RX8 yX8_sumOf yX8_sumOf, Cond.code yX8_sumOf cX8_sumOf 2 (some .long), Cond.fieldLink RX8 9 "MentorPairs$Trial" "sumsOfFirst" "[J", Cond.fieldLink RX8 13 "MentorPairs$Trial" "sumsOfRest" "[J", Cond.methodLink RX8 52 yX8_nextOfSameSize, Cond.static yX8_nextOfSameSize, Cond.code yX8_nextOfSameSize cX8_nextOfSameSize 4 (some .int), Cond.methodLink RX8 24 yJ6_numberOfTrailingZeros_0f7a4, Cond.static yJ6_numberOfTrailingZeros_0f7a4, Cond.code yJ6_numberOfTrailingZeros_0f7a4 cJ6_numberOfTrailingZeros_0f7a4 2 (some .int)]
def wsX8_chanceOf_r2 : List Cond := [Cond.constant RJ6 264 (65536), Cond.instanceMethod yX1_become, Cond.initialized RX1, Cond.selects RX1 yX1_become yX1_become, Cond.code yX1_become cX1_become 7 none, Cond.methodLink RX1 16 Lib.MathLoose.abs_long.x, Cond.static Lib.MathLoose.abs_long.x, Cond.initialized "java/lang/Math", Cond.code Lib.MathLoose.abs_long.x Lib.MathLoose.abs_long.code 2 (some .long), Cond.fieldLink RX1 7 "MentorPairs$Fraction" "above" "J", Cond.fieldLink RX1 13 "MentorPairs$Fraction" "below" "J", Cond.methodLink RX1 22 yX1_commonDivisor, Cond.static yX1_commonDivisor, Cond.code yX1_commonDivisor cX1_commonDivisor 11 (some .long)]
def wsX8_chanceOf : List Cond := .code yX8_chanceOf cX8_chanceOf 10 none :: ((wsX8_chanceOf_r1 ++ wsX8_chanceOf_r2) ++ wsX80 ++ wsX10)
def wsX8_drawnSet : List Cond := .code yX8_drawnSet cX8_drawnSet 8 (some .int) :: ([.constantLong RX8 55 (1103515245), .constantLong RX8 57 (12345), .constantLong RX8 59 (2147483647)])
def wsX9_init_r1 : List Cond := [Cond.methodLink RX9 1 objectInit, Cond.instanceMethod objectInit, Cond.code objectInit ⟨#[0xb1]⟩ 1 none, Cond.classLink RX9 9 RX7, Cond.fieldLink RX9 11 "MentorPairs" "trays" "[LMentorPairs$Tray;", Cond.classLink RX9 15 RX0, Cond.instantiable RX0 6, Cond.initialized RX0, Cond.fieldLink RX9 18 "MentorPairs" "circle" "LMentorPairs$Circle;", Cond.classLink RX9 22 RX4, Cond.instantiable RX4 3, Cond.initialized RX4, Cond.fieldLink RX9 25 "MentorPairs" "pairing" "LMentorPairs$Pairing;", Cond.classLink RX9 29 RX5, Cond.instantiable RX5 5, Cond.initialized RX5, Cond.fieldLink RX9 32 "MentorPairs" "row" "LMentorPairs$Row;", Cond.classLink RX9 36 RX3, Cond.instantiable RX3 7, Cond.initialized RX3, Cond.fieldLink RX9 39 "MentorPairs" "meetings" "LMentorPairs$Meetings;", Cond.classLink RX9 43 RX2, Cond.instantiable RX2 5, Cond.initialized RX2]
def wsX9_init_r2 : List Cond := [Cond.fieldLink RX9 46 "MentorPairs" "goals" "LMentorPairs$Goals;", Cond.classLink RX9 50 RX6, Cond.instantiable RX6 3, Cond.initialized RX6, Cond.fieldLink RX9 53 "MentorPairs" "runs" "LMentorPairs$Runs;", Cond.classLink RX9 57 RX8, Cond.instantiable RX8 3, Cond.initialized RX8, Cond.fieldLink RX9 60 "MentorPairs" "trial" "LMentorPairs$Trial;", Cond.classLink RX9 64 RX1, Cond.instantiable RX1 2, Cond.initialized RX1, Cond.fieldLink RX9 67 "MentorPairs" "fraction" "LMentorPairs$Fraction;", Cond.fieldLink RX9 71 "MentorPairs" "latest" "I", Cond.instantiable RX7 4, Cond.initialized RX7, Cond.instanceMethod yX0_init, Cond.code yX0_init cX0_init 1 none, Cond.methodLink RX0 3 objectInit, Cond.arrayClass .int, Cond.fieldLink RX0 9 "MentorPairs$Circle" "placesOf" "[I", Cond.fieldLink RX0 15 "MentorPairs$Circle" "likingByElder" "[I", Cond.fieldLink RX0 18 "MentorPairs$Circle" "likingByBeginner" "[I", Cond.arrayClass .boolean]
def wsX9_init_r3 : List Cond := [Cond.fieldLink RX0 21 "MentorPairs$Circle" "barred" "[Z", Cond.fieldLink RX0 25 "MentorPairs$Circle" "elders" "I", Cond.fieldLink RX0 29 "MentorPairs$Circle" "beginners" "I", Cond.instanceMethod yX4_init, Cond.code yX4_init cX4_init 1 none, Cond.methodLink RX4 3 objectInit, Cond.fieldLink RX4 9 "MentorPairs$Pairing" "elderBy" "[I", Cond.fieldLink RX4 15 "MentorPairs$Pairing" "lastAsked" "[I", Cond.fieldLink RX4 18 "MentorPairs$Pairing" "given" "Z", Cond.methodLink RX4 22 yJ7_fill_53178, Cond.static yJ7_fill_53178, Cond.initialized RJ7, Cond.code yJ7_fill_53178 cJ7_fill_53178 4 none, Cond.instanceMethod yX5_init, Cond.code yX5_init cX5_init 1 none, Cond.methodLink RX5 3 objectInit, Cond.fieldLink RX5 9 "MentorPairs$Row" "queue" "[I", Cond.fieldLink RX5 15 "MentorPairs$Row" "takerFrom" "[I", Cond.fieldLink RX5 18 "MentorPairs$Row" "queued" "I", Cond.fieldLink RX5 22 "MentorPairs$Row" "first" "I", Cond.fieldLink RX5 25 "MentorPairs$Row" "freeElder" "I", Cond.instanceMethod yX3_init, Cond.code yX3_init cX3_init 1 none, Cond.methodLink RX3 3 objectInit]
def wsX9_init_r4 : List Cond := [Cond.fieldLink RX3 9 "MentorPairs$Meetings" "beginnerOf" "[I", Cond.fieldLink RX3 15 "MentorPairs$Meetings" "dueOn" "[I", Cond.fieldLink RX3 18 "MentorPairs$Meetings" "toldMeeting" "[I", Cond.fieldLink RX3 21 "MentorPairs$Meetings" "toldDay" "[I", Cond.fieldLink RX3 24 "MentorPairs$Meetings" "toldKept" "[Z", Cond.fieldLink RX3 28 "MentorPairs$Meetings" "many" "I", Cond.fieldLink RX3 32 "MentorPairs$Meetings" "tellings" "I", Cond.instanceMethod yX2_init, Cond.code yX2_init cX2_init 1 none, Cond.methodLink RX2 3 objectInit, Cond.fieldLink RX2 9 "MentorPairs$Goals" "beginnerOf" "[I", Cond.fieldLink RX2 15 "MentorPairs$Goals" "dueOn" "[I", Cond.fieldLink RX2 18 "MentorPairs$Goals" "behindGoal" "[I", Cond.fieldLink RX2 21 "MentorPairs$Goals" "confirmedOn" "[I", Cond.fieldLink RX2 24 "MentorPairs$Goals" "many" "I", Cond.instanceMethod yX6_init, Cond.code yX6_init cX6_init 1 none, Cond.methodLink RX6 3 objectInit, Cond.fieldLink RX6 9 "MentorPairs$Runs" "monthsOf" "[I", Cond.fieldLink RX6 15 "MentorPairs$Runs" "hasEnded" "[Z", Cond.fieldLink RX6 19 "MentorPairs$Runs" "many" "I", Cond.instanceMethod yX8_init, Cond.code yX8_init cX8_init 1 none, Cond.methodLink RX8 1 objectInit]
def wsX9_init_r5 : List Cond := [Cond.arrayClass .long, Cond.fieldLink RX8 9 "MentorPairs$Trial" "sumsOfFirst" "[J", Cond.fieldLink RX8 13 "MentorPairs$Trial" "sumsOfRest" "[J", Cond.fieldLink RX8 16 "MentorPairs$Trial" "many" "I", Cond.instanceMethod yX1_init, Cond.code yX1_init cX1_init 1 none, Cond.methodLink RX1 1 objectInit, Cond.fieldLink RX1 7 "MentorPairs$Fraction" "above" "J", Cond.fieldLink RX1 13 "MentorPairs$Fraction" "below" "J", Cond.instanceMethod yX7_init, Cond.code yX7_init cX7_init 1 none, Cond.methodLink RX7 3 objectInit, Cond.fieldLink RX7 9 "MentorPairs$Tray" "numbers" "[J", Cond.fieldLink RX7 15 "MentorPairs$Tray" "missing" "Z", Cond.fieldLink RX7 19 "MentorPairs$Tray" "sort" "I", Cond.fieldLink RX7 23 "MentorPairs$Tray" "length" "I"]
def wsX9_init : List Cond := .code yX9_init cX9_init 2 none :: ((wsX9_init_r1 ++ (wsX9_init_r2 ++ (wsX9_init_r3 ++ (wsX9_init_r4 ++ wsX9_init_r5)))) ++ wsX90 ++ wsX00 ++ wsX40 ++ wsX50 ++ wsX30 ++ wsX20 ++ wsX60 ++ wsX80 ++ wsX10 ++ wsX70)
def wsX9_status : List Cond := .code yX9_status cX9_status 1 (some .int) :: ([.fieldLink RX9 71 "MentorPairs" "latest" "I"] ++ wsX90)
def wsX9_isTray : List Cond := .code yX9_isTray cX9_isTray 1 (some .boolean) :: ([])
def wsX9_finish : List Cond := .code yX9_finish cX9_finish 2 (some .boolean) :: ([.fieldLink RX9 71 "MentorPairs" "latest" "I"] ++ wsX90)
def wsX9_tray : List Cond := .code yX9_tray cX9_tray 4 (some .boolean) :: ([.fieldLink RX9 11 "MentorPairs" "trays" "[LMentorPairs$Tray;", .methodLink RX9 76 yX9_isTray, .static yX9_isTray, .initialized RX9, .code yX9_isTray cX9_isTray 1 (some .boolean), .methodLink RX9 80 yX9_finish, .instanceMethod yX9_finish, .selects RX9 yX9_finish yX9_finish, .code yX9_finish cX9_finish 2 (some .boolean), .fieldLink RX9 71 "MentorPairs" "latest" "I", .instanceMethod yX7_make, .initialized RX7, .selects RX7 yX7_make yX7_make, .code yX7_make cX7_make 3 none, .fieldLink RX7 15 "MentorPairs$Tray" "missing" "Z", .fieldLink RX7 19 "MentorPairs$Tray" "sort" "I", .fieldLink RX7 23 "MentorPairs$Tray" "length" "I", .fieldLink RX7 9 "MentorPairs$Tray" "numbers" "[J", .methodLink RX7 26 yJ7_fill_d0a16, .static yJ7_fill_d0a16, .initialized RJ7, .code yJ7_fill_d0a16 cJ7_fill_d0a16 5 none] ++ wsX90 ++ wsX70)
def wsX9_trayFault : List Cond := .code yX9_trayFault cX9_trayFault 2 (some .int) :: ([.fieldLink RX9 11 "MentorPairs" "trays" "[LMentorPairs$Tray;", .methodLink RX9 76 yX9_isTray, .static yX9_isTray, .initialized RX9, .code yX9_isTray cX9_isTray 1 (some .boolean)] ++ wsX90 ++ wsX70)
def wsX9_placeFault : List Cond := .code yX9_placeFault cX9_placeFault 4 (some .int) :: ([.fieldLink RX9 11 "MentorPairs" "trays" "[LMentorPairs$Tray;", .methodLink RX9 266 yX9_trayFault, .instanceMethod yX9_trayFault, .selects RX9 yX9_trayFault yX9_trayFault, .initialized RX9, .code yX9_trayFault cX9_trayFault 2 (some .int), .methodLink RX9 76 yX9_isTray, .static yX9_isTray, .code yX9_isTray cX9_isTray 1 (some .boolean), .instanceMethod yX7_hasPlaces, .initialized RX7, .selects RX7 yX7_hasPlaces yX7_hasPlaces, .code yX7_hasPlaces cX7_hasPlaces 3 (some .boolean), .fieldLink RX7 23 "MentorPairs$Tray" "length" "I"] ++ wsX90 ++ wsX70)
def wsX9_write_r1 : List Cond := [Cond.fieldLink RX9 11 "MentorPairs" "trays" "[LMentorPairs$Tray;", Cond.methodLink RX9 87 yX9_placeFault, Cond.instanceMethod yX9_placeFault, Cond.selects RX9 yX9_placeFault yX9_placeFault, Cond.initialized RX9, Cond.code yX9_placeFault cX9_placeFault 4 (some .int), Cond.methodLink RX9 266 yX9_trayFault, Cond.instanceMethod yX9_trayFault, Cond.selects RX9 yX9_trayFault yX9_trayFault, Cond.code yX9_trayFault cX9_trayFault 2 (some .int), Cond.methodLink RX9 76 yX9_isTray, Cond.static yX9_isTray, Cond.code yX9_isTray cX9_isTray 1 (some .boolean), Cond.instanceMethod yX7_hasPlaces, Cond.initialized RX7, Cond.selects RX7 yX7_hasPlaces yX7_hasPlaces, Cond.code yX7_hasPlaces cX7_hasPlaces 3 (some .boolean), Cond.fieldLink RX7 23 "MentorPairs$Tray" "length" "I", Cond.instanceMethod yX7_put, Cond.selects RX7 yX7_put yX7_put, Cond.code yX7_put cX7_put 4 none, Cond.fieldLink RX7 9 "MentorPairs$Tray" "numbers" "[J", Cond.methodLink RX7 32 yX7_cut, Cond.instanceMethod yX7_cut]
def wsX9_write_r2 : List Cond := [Cond.selects RX7 yX7_cut yX7_cut, Cond.code yX7_cut cX7_cut 3 (some .long), Cond.fieldLink RX7 19 "MentorPairs$Tray" "sort" "I", Cond.methodLink RX9 80 yX9_finish, Cond.instanceMethod yX9_finish, Cond.selects RX9 yX9_finish yX9_finish, Cond.code yX9_finish cX9_finish 2 (some .boolean), Cond.fieldLink RX9 71 "MentorPairs" "latest" "I"]
def wsX9_write : List Cond := .code yX9_write cX9_write 6 (some .boolean) :: ((wsX9_write_r1 ++ wsX9_write_r2) ++ wsX90 ++ wsX70)
def wsX9_read : List Cond := .code yX9_read cX9_read 4 (some .long) :: ([.fieldLink RX9 11 "MentorPairs" "trays" "[LMentorPairs$Tray;", .constantLong RX9 99 (-1), .methodLink RX9 87 yX9_placeFault, .instanceMethod yX9_placeFault, .selects RX9 yX9_placeFault yX9_placeFault, .initialized RX9, .code yX9_placeFault cX9_placeFault 4 (some .int), .methodLink RX9 266 yX9_trayFault, .instanceMethod yX9_trayFault, .selects RX9 yX9_trayFault yX9_trayFault, .code yX9_trayFault cX9_trayFault 2 (some .int), .methodLink RX9 76 yX9_isTray, .static yX9_isTray, .code yX9_isTray cX9_isTray 1 (some .boolean), .instanceMethod yX7_hasPlaces, .initialized RX7, .selects RX7 yX7_hasPlaces yX7_hasPlaces, .code yX7_hasPlaces cX7_hasPlaces 3 (some .boolean), .fieldLink RX7 23 "MentorPairs$Tray" "length" "I", .methodLink RX9 80 yX9_finish, .instanceMethod yX9_finish, .selects RX9 yX9_finish yX9_finish, .code yX9_finish cX9_finish 2 (some .boolean), .fieldLink RX9 71 "MentorPairs" "latest" "I"] ++ wsX90 ++ wsX70)
def wsX9_pourFault : List Cond := .code yX9_pourFault cX9_pourFault 7 (some .int) :: ([.fieldLink RX9 11 "MentorPairs" "trays" "[LMentorPairs$Tray;", .methodLink RX9 76 yX9_isTray, .static yX9_isTray, .initialized RX9, .code yX9_isTray cX9_isTray 1 (some .boolean), .instanceMethod yX7_hasPlaces, .initialized RX7, .selects RX7 yX7_hasPlaces yX7_hasPlaces, .code yX7_hasPlaces cX7_hasPlaces 3 (some .boolean), .fieldLink RX7 23 "MentorPairs$Tray" "length" "I"] ++ wsX90 ++ wsX70)
def wsX9_pour : List Cond := .code yX9_pour cX9_pour 7 (some .boolean) :: ([.fieldLink RX9 11 "MentorPairs" "trays" "[LMentorPairs$Tray;", .methodLink RX9 105 arraycopyName, .native arraycopyName, .static arraycopyName, .initialized "java/lang/System", .methodLink RX9 101 yX9_pourFault, .instanceMethod yX9_pourFault, .selects RX9 yX9_pourFault yX9_pourFault, .initialized RX9, .code yX9_pourFault cX9_pourFault 7 (some .int), .methodLink RX9 76 yX9_isTray, .static yX9_isTray, .code yX9_isTray cX9_isTray 1 (some .boolean), .instanceMethod yX7_hasPlaces, .initialized RX7, .selects RX7 yX7_hasPlaces yX7_hasPlaces, .code yX7_hasPlaces cX7_hasPlaces 3 (some .boolean), .fieldLink RX7 23 "MentorPairs$Tray" "length" "I", .methodLink RX9 80 yX9_finish, .instanceMethod yX9_finish, .selects RX9 yX9_finish yX9_finish, .code yX9_finish cX9_finish 2 (some .boolean), .fieldLink RX9 71 "MentorPairs" "latest" "I"] ++ wsX90 ++ wsX70)
def wsX9_isPlaces : List Cond := .code yX9_isPlaces cX9_isPlaces 1 (some .boolean) :: ([])
def wsX9_refused : List Cond := .code yX9_refused cX9_refused 2 (some .int) :: ([.fieldLink RX9 71 "MentorPairs" "latest" "I"] ++ wsX90)
def wsX9_answered : List Cond := .code yX9_answered cX9_answered 2 (some .int) :: ([.fieldLink RX9 71 "MentorPairs" "latest" "I"] ++ wsX90)
def wsX9_elder : List Cond := .code yX9_elder cX9_elder 2 (some .int) :: ([.fieldLink RX9 18 "MentorPairs" "circle" "LMentorPairs$Circle;", .methodLink RX9 111 yX9_isPlaces, .static yX9_isPlaces, .initialized RX9, .code yX9_isPlaces cX9_isPlaces 1 (some .boolean), .methodLink RX9 114 yX9_refused, .instanceMethod yX9_refused, .selects RX9 yX9_refused yX9_refused, .code yX9_refused cX9_refused 2 (some .int), .fieldLink RX9 71 "MentorPairs" "latest" "I", .instanceMethod yX0_addElder, .initialized RX0, .selects RX0 yX0_addElder yX0_addElder, .code yX0_addElder cX0_addElder 2 (some .int), .fieldLink RX0 9 "MentorPairs$Circle" "placesOf" "[I", .fieldLink RX0 25 "MentorPairs$Circle" "elders" "I", .methodLink RX9 124 yX9_answered, .instanceMethod yX9_answered, .selects RX9 yX9_answered yX9_answered, .code yX9_answered cX9_answered 2 (some .int)] ++ wsX90 ++ wsX00)
def wsX9_beginner : List Cond := .code yX9_beginner cX9_beginner 1 (some .int) :: ([.fieldLink RX9 18 "MentorPairs" "circle" "LMentorPairs$Circle;", .methodLink RX9 114 yX9_refused, .instanceMethod yX9_refused, .selects RX9 yX9_refused yX9_refused, .initialized RX9, .code yX9_refused cX9_refused 2 (some .int), .fieldLink RX9 71 "MentorPairs" "latest" "I", .instanceMethod yX0_addBeginner, .initialized RX0, .selects RX0 yX0_addBeginner yX0_addBeginner, .code yX0_addBeginner cX0_addBeginner 1 (some .int), .fieldLink RX0 29 "MentorPairs$Circle" "beginners" "I", .methodLink RX9 124 yX9_answered, .instanceMethod yX9_answered, .selects RX9 yX9_answered yX9_answered, .code yX9_answered cX9_answered 2 (some .int)] ++ wsX90 ++ wsX00)
def wsX9_places : List Cond := .code yX9_places cX9_places 3 (some .boolean) :: ([.fieldLink RX9 18 "MentorPairs" "circle" "LMentorPairs$Circle;", .instanceMethod yX0_isElder, .initialized RX0, .selects RX0 yX0_isElder yX0_isElder, .code yX0_isElder cX0_isElder 2 (some .boolean), .fieldLink RX0 25 "MentorPairs$Circle" "elders" "I", .methodLink RX9 80 yX9_finish, .instanceMethod yX9_finish, .selects RX9 yX9_finish yX9_finish, .initialized RX9, .code yX9_finish cX9_finish 2 (some .boolean), .fieldLink RX9 71 "MentorPairs" "latest" "I", .methodLink RX9 111 yX9_isPlaces, .static yX9_isPlaces, .code yX9_isPlaces cX9_isPlaces 1 (some .boolean)] ++ wsX90 ++ wsX00)
def wsX9_like_r1 : List Cond := [Cond.fieldLink RX9 18 "MentorPairs" "circle" "LMentorPairs$Circle;", Cond.instanceMethod yX0_areTwo, Cond.initialized RX0, Cond.selects RX0 yX0_areTwo yX0_areTwo, Cond.code yX0_areTwo cX0_areTwo 3 (some .boolean), Cond.methodLink RX0 32 yX0_isElder, Cond.instanceMethod yX0_isElder, Cond.selects RX0 yX0_isElder yX0_isElder, Cond.code yX0_isElder cX0_isElder 2 (some .boolean), Cond.fieldLink RX0 25 "MentorPairs$Circle" "elders" "I", Cond.methodLink RX0 36 yX0_isBeginner, Cond.instanceMethod yX0_isBeginner, Cond.selects RX0 yX0_isBeginner yX0_isBeginner, Cond.code yX0_isBeginner cX0_isBeginner 2 (some .boolean), Cond.fieldLink RX0 29 "MentorPairs$Circle" "beginners" "I", Cond.methodLink RX9 80 yX9_finish, Cond.instanceMethod yX9_finish, Cond.selects RX9 yX9_finish yX9_finish, Cond.initialized RX9, Cond.code yX9_finish cX9_finish 2 (some .boolean), Cond.fieldLink RX9 71 "MentorPairs" "latest" "I", Cond.instanceMethod yX0_setLiking, Cond.selects RX0 yX0_setLiking yX0_setLiking, Cond.code yX0_setLiking cX0_setLiking 6 none]
def wsX9_like_r2 : List Cond := [Cond.fieldLink RX0 15 "MentorPairs$Circle" "likingByElder" "[I", Cond.fieldLink RX0 18 "MentorPairs$Circle" "likingByBeginner" "[I", Cond.methodLink RX0 39 yX0_spot, Cond.static yX0_spot, Cond.code yX0_spot cX0_spot 2 (some .int)]
def wsX9_like : List Cond := .code yX9_like cX9_like 5 (some .boolean) :: ((wsX9_like_r1 ++ wsX9_like_r2) ++ wsX90 ++ wsX00)
def wsX9_bar_r1 : List Cond := [Cond.fieldLink RX9 18 "MentorPairs" "circle" "LMentorPairs$Circle;", Cond.instanceMethod yX0_areTwo, Cond.initialized RX0, Cond.selects RX0 yX0_areTwo yX0_areTwo, Cond.code yX0_areTwo cX0_areTwo 3 (some .boolean), Cond.methodLink RX0 32 yX0_isElder, Cond.instanceMethod yX0_isElder, Cond.selects RX0 yX0_isElder yX0_isElder, Cond.code yX0_isElder cX0_isElder 2 (some .boolean), Cond.fieldLink RX0 25 "MentorPairs$Circle" "elders" "I", Cond.methodLink RX0 36 yX0_isBeginner, Cond.instanceMethod yX0_isBeginner, Cond.selects RX0 yX0_isBeginner yX0_isBeginner, Cond.code yX0_isBeginner cX0_isBeginner 2 (some .boolean), Cond.fieldLink RX0 29 "MentorPairs$Circle" "beginners" "I", Cond.methodLink RX9 80 yX9_finish, Cond.instanceMethod yX9_finish, Cond.selects RX9 yX9_finish yX9_finish, Cond.initialized RX9, Cond.code yX9_finish cX9_finish 2 (some .boolean), Cond.fieldLink RX9 71 "MentorPairs" "latest" "I", Cond.instanceMethod yX0_isBarred, Cond.selects RX0 yX0_isBarred yX0_isBarred, Cond.code yX0_isBarred cX0_isBarred 3 (some .boolean)]
def wsX9_bar_r2 : List Cond := [Cond.fieldLink RX0 21 "MentorPairs$Circle" "barred" "[Z", Cond.methodLink RX0 39 yX0_spot, Cond.static yX0_spot, Cond.code yX0_spot cX0_spot 2 (some .int), Cond.instanceMethod yX0_setBarred, Cond.selects RX0 yX0_setBarred yX0_setBarred, Cond.code yX0_setBarred cX0_setBarred 4 none]
def wsX9_bar : List Cond := .code yX9_bar cX9_bar 4 (some .boolean) :: ((wsX9_bar_r1 ++ wsX9_bar_r2) ++ wsX90 ++ wsX00)
def wsX9_pair_r1 : List Cond := [Cond.fieldLink RX9 25 "MentorPairs" "pairing" "LMentorPairs$Pairing;", Cond.fieldLink RX9 18 "MentorPairs" "circle" "LMentorPairs$Circle;", Cond.instanceMethod yX4_makeBest, Cond.initialized RX4, Cond.selects RX4 yX4_makeBest yX4_makeBest, Cond.code yX4_makeBest cX4_makeBest 3 (some .int), Cond.fieldLink RX4 18 "MentorPairs$Pairing" "given" "Z", Cond.fieldLink RX4 9 "MentorPairs$Pairing" "elderBy" "[I", Cond.fieldLink RX4 15 "MentorPairs$Pairing" "lastAsked" "[I", Cond.methodLink RX4 22 yJ7_fill_53178, Cond.static yJ7_fill_53178, Cond.initialized RJ7, Cond.code yJ7_fill_53178 cJ7_fill_53178 4 none, Cond.methodLink RX4 45 yX4_seat, Cond.instanceMethod yX4_seat, Cond.selects RX4 yX4_seat yX4_seat, Cond.code yX4_seat cX4_seat 6 none, Cond.methodLink RX4 53 yX4_nextChoice, Cond.instanceMethod yX4_nextChoice, Cond.selects RX4 yX4_nextChoice yX4_nextChoice, Cond.code yX4_nextChoice cX4_nextChoice 7 (some .int), Cond.instanceMethod yX0_canPair, Cond.initialized RX0, Cond.selects RX0 yX0_canPair yX0_canPair]
def wsX9_pair_r2 : List Cond := [Cond.code yX0_canPair cX0_canPair 4 (some .boolean), Cond.fieldLink RX0 15 "MentorPairs$Circle" "likingByElder" "[I", Cond.fieldLink RX0 18 "MentorPairs$Circle" "likingByBeginner" "[I", Cond.fieldLink RX0 21 "MentorPairs$Circle" "barred" "[Z", Cond.methodLink RX0 39 yX0_spot, Cond.static yX0_spot, Cond.code yX0_spot cX0_spot 2 (some .int), Cond.instanceMethod yX0_beginnerPrefers, Cond.selects RX0 yX0_beginnerPrefers yX0_beginnerPrefers, Cond.code yX0_beginnerPrefers cX0_beginnerPrefers 6 (some .boolean), Cond.methodLink RX4 57 yX4_askFor, Cond.instanceMethod yX4_askFor, Cond.selects RX4 yX4_askFor yX4_askFor, Cond.code yX4_askFor cX4_askFor 5 (some .int), Cond.methodLink RX4 71 yX4_hasPlaceLeft, Cond.instanceMethod yX4_hasPlaceLeft, Cond.selects RX4 yX4_hasPlaceLeft yX4_hasPlaceLeft, Cond.code yX4_hasPlaceLeft cX4_hasPlaceLeft 3 (some .boolean), Cond.methodLink RX4 28 yX4_countOf, Cond.instanceMethod yX4_countOf, Cond.selects RX4 yX4_countOf yX4_countOf, Cond.code yX4_countOf cX4_countOf 4 (some .int), Cond.methodLink RX4 75 yX4_leastOf, Cond.instanceMethod yX4_leastOf]
def wsX9_pair_r3 : List Cond := [Cond.selects RX4 yX4_leastOf yX4_leastOf, Cond.code yX4_leastOf cX4_leastOf 5 (some .int), Cond.instanceMethod yX0_elderPrefers, Cond.selects RX0 yX0_elderPrefers yX0_elderPrefers, Cond.code yX0_elderPrefers cX0_elderPrefers 6 (some .boolean), Cond.methodLink RX4 49 yX4_countPairs, Cond.instanceMethod yX4_countPairs, Cond.selects RX4 yX4_countPairs yX4_countPairs, Cond.code yX4_countPairs cX4_countPairs 3 (some .int), Cond.methodLink RX9 124 yX9_answered, Cond.instanceMethod yX9_answered, Cond.selects RX9 yX9_answered yX9_answered, Cond.initialized RX9, Cond.code yX9_answered cX9_answered 2 (some .int), Cond.fieldLink RX9 71 "MentorPairs" "latest" "I"]
def wsX9_pair : List Cond := .code yX9_pair cX9_pair 1 (some .int) :: ((wsX9_pair_r1 ++ (wsX9_pair_r2 ++ wsX9_pair_r3)) ++ wsX90 ++ wsX40 ++ wsX00)
def wsX9_pairedFault : List Cond := .code yX9_pairedFault cX9_pairedFault 2 (some .int) :: ([.fieldLink RX9 18 "MentorPairs" "circle" "LMentorPairs$Circle;", .fieldLink RX9 25 "MentorPairs" "pairing" "LMentorPairs$Pairing;", .instanceMethod yX0_isBeginner, .initialized RX0, .selects RX0 yX0_isBeginner yX0_isBeginner, .code yX0_isBeginner cX0_isBeginner 2 (some .boolean), .fieldLink RX0 29 "MentorPairs$Circle" "beginners" "I"] ++ wsX90 ++ wsX40 ++ wsX00)
def wsX9_elderOf : List Cond := .code yX9_elderOf cX9_elderOf 3 (some .int) :: ([.fieldLink RX9 25 "MentorPairs" "pairing" "LMentorPairs$Pairing;", .methodLink RX9 160 yX9_pairedFault, .instanceMethod yX9_pairedFault, .selects RX9 yX9_pairedFault yX9_pairedFault, .initialized RX9, .code yX9_pairedFault cX9_pairedFault 2 (some .int), .fieldLink RX9 18 "MentorPairs" "circle" "LMentorPairs$Circle;", .instanceMethod yX0_isBeginner, .initialized RX0, .selects RX0 yX0_isBeginner yX0_isBeginner, .code yX0_isBeginner cX0_isBeginner 2 (some .boolean), .fieldLink RX0 29 "MentorPairs$Circle" "beginners" "I", .methodLink RX9 124 yX9_answered, .instanceMethod yX9_answered, .selects RX9 yX9_answered yX9_answered, .code yX9_answered cX9_answered 2 (some .int), .fieldLink RX9 71 "MentorPairs" "latest" "I", .methodLink RX9 114 yX9_refused, .instanceMethod yX9_refused, .selects RX9 yX9_refused yX9_refused, .code yX9_refused cX9_refused 2 (some .int)] ++ wsX90 ++ wsX40 ++ wsX00)
def wsX9_has : List Cond := .code yX9_has cX9_has 2 (some .int) :: ([.fieldLink RX9 18 "MentorPairs" "circle" "LMentorPairs$Circle;", .fieldLink RX9 25 "MentorPairs" "pairing" "LMentorPairs$Pairing;", .instanceMethod yX0_isElder, .initialized RX0, .selects RX0 yX0_isElder yX0_isElder, .code yX0_isElder cX0_isElder 2 (some .boolean), .fieldLink RX0 25 "MentorPairs$Circle" "elders" "I", .methodLink RX9 114 yX9_refused, .instanceMethod yX9_refused, .selects RX9 yX9_refused yX9_refused, .initialized RX9, .code yX9_refused cX9_refused 2 (some .int), .fieldLink RX9 71 "MentorPairs" "latest" "I", .instanceMethod yX4_countOf, .initialized RX4, .selects RX4 yX4_countOf yX4_countOf, .code yX4_countOf cX4_countOf 4 (some .int), .fieldLink RX4 9 "MentorPairs$Pairing" "elderBy" "[I", .methodLink RX9 124 yX9_answered, .instanceMethod yX9_answered, .selects RX9 yX9_answered yX9_answered, .code yX9_answered cX9_answered 2 (some .int)] ++ wsX90 ++ wsX40 ++ wsX00)
def wsX9_blocks_r1 : List Cond := [Cond.fieldLink RX9 25 "MentorPairs" "pairing" "LMentorPairs$Pairing;", Cond.fieldLink RX9 18 "MentorPairs" "circle" "LMentorPairs$Circle;", Cond.methodLink RX9 114 yX9_refused, Cond.instanceMethod yX9_refused, Cond.selects RX9 yX9_refused yX9_refused, Cond.initialized RX9, Cond.code yX9_refused cX9_refused 2 (some .int), Cond.fieldLink RX9 71 "MentorPairs" "latest" "I", Cond.instanceMethod yX4_countBlocking, Cond.initialized RX4, Cond.selects RX4 yX4_countBlocking yX4_countBlocking, Cond.code yX4_countBlocking cX4_countBlocking 5 (some .int), Cond.methodLink RX4 78 yX4_isBlockedBy, Cond.instanceMethod yX4_isBlockedBy, Cond.selects RX4 yX4_isBlockedBy yX4_isBlockedBy, Cond.code yX4_isBlockedBy cX4_isBlockedBy 6 (some .boolean), Cond.fieldLink RX4 9 "MentorPairs$Pairing" "elderBy" "[I", Cond.instanceMethod yX0_canPair, Cond.initialized RX0, Cond.selects RX0 yX0_canPair yX0_canPair, Cond.code yX0_canPair cX0_canPair 4 (some .boolean), Cond.fieldLink RX0 15 "MentorPairs$Circle" "likingByElder" "[I", Cond.fieldLink RX0 18 "MentorPairs$Circle" "likingByBeginner" "[I", Cond.fieldLink RX0 21 "MentorPairs$Circle" "barred" "[Z"]
def wsX9_blocks_r2 : List Cond := [Cond.methodLink RX0 39 yX0_spot, Cond.static yX0_spot, Cond.code yX0_spot cX0_spot 2 (some .int), Cond.instanceMethod yX0_beginnerPrefers, Cond.selects RX0 yX0_beginnerPrefers yX0_beginnerPrefers, Cond.code yX0_beginnerPrefers cX0_beginnerPrefers 6 (some .boolean), Cond.methodLink RX4 71 yX4_hasPlaceLeft, Cond.instanceMethod yX4_hasPlaceLeft, Cond.selects RX4 yX4_hasPlaceLeft yX4_hasPlaceLeft, Cond.code yX4_hasPlaceLeft cX4_hasPlaceLeft 3 (some .boolean), Cond.methodLink RX4 28 yX4_countOf, Cond.instanceMethod yX4_countOf, Cond.selects RX4 yX4_countOf yX4_countOf, Cond.code yX4_countOf cX4_countOf 4 (some .int), Cond.methodLink RX4 75 yX4_leastOf, Cond.instanceMethod yX4_leastOf, Cond.selects RX4 yX4_leastOf yX4_leastOf, Cond.code yX4_leastOf cX4_leastOf 5 (some .int), Cond.instanceMethod yX0_elderPrefers, Cond.selects RX0 yX0_elderPrefers yX0_elderPrefers, Cond.code yX0_elderPrefers cX0_elderPrefers 6 (some .boolean), Cond.methodLink RX9 124 yX9_answered, Cond.instanceMethod yX9_answered, Cond.selects RX9 yX9_answered yX9_answered]
def wsX9_blocks_r3 : List Cond := [Cond.code yX9_answered cX9_answered 2 (some .int)]
def wsX9_blocks : List Cond := .code yX9_blocks cX9_blocks 1 (some .int) :: ((wsX9_blocks_r1 ++ (wsX9_blocks_r2 ++ wsX9_blocks_r3)) ++ wsX90 ++ wsX40 ++ wsX00)
def wsX9_block_r1 : List Cond := [Cond.fieldLink RX9 18 "MentorPairs" "circle" "LMentorPairs$Circle;", Cond.fieldLink RX9 25 "MentorPairs" "pairing" "LMentorPairs$Pairing;", Cond.instanceMethod yX0_areTwo, Cond.initialized RX0, Cond.selects RX0 yX0_areTwo yX0_areTwo, Cond.code yX0_areTwo cX0_areTwo 3 (some .boolean), Cond.methodLink RX0 32 yX0_isElder, Cond.instanceMethod yX0_isElder, Cond.selects RX0 yX0_isElder yX0_isElder, Cond.code yX0_isElder cX0_isElder 2 (some .boolean), Cond.fieldLink RX0 25 "MentorPairs$Circle" "elders" "I", Cond.methodLink RX0 36 yX0_isBeginner, Cond.instanceMethod yX0_isBeginner, Cond.selects RX0 yX0_isBeginner yX0_isBeginner, Cond.code yX0_isBeginner cX0_isBeginner 2 (some .boolean), Cond.fieldLink RX0 29 "MentorPairs$Circle" "beginners" "I", Cond.methodLink RX9 114 yX9_refused, Cond.instanceMethod yX9_refused, Cond.selects RX9 yX9_refused yX9_refused, Cond.initialized RX9, Cond.code yX9_refused cX9_refused 2 (some .int), Cond.fieldLink RX9 71 "MentorPairs" "latest" "I", Cond.instanceMethod yX4_isBlockedBy, Cond.initialized RX4]
def wsX9_block_r2 : List Cond := [Cond.selects RX4 yX4_isBlockedBy yX4_isBlockedBy, Cond.code yX4_isBlockedBy cX4_isBlockedBy 6 (some .boolean), Cond.fieldLink RX4 9 "MentorPairs$Pairing" "elderBy" "[I", Cond.instanceMethod yX0_canPair, Cond.selects RX0 yX0_canPair yX0_canPair, Cond.code yX0_canPair cX0_canPair 4 (some .boolean), Cond.fieldLink RX0 15 "MentorPairs$Circle" "likingByElder" "[I", Cond.fieldLink RX0 18 "MentorPairs$Circle" "likingByBeginner" "[I", Cond.fieldLink RX0 21 "MentorPairs$Circle" "barred" "[Z", Cond.methodLink RX0 39 yX0_spot, Cond.static yX0_spot, Cond.code yX0_spot cX0_spot 2 (some .int), Cond.instanceMethod yX0_beginnerPrefers, Cond.selects RX0 yX0_beginnerPrefers yX0_beginnerPrefers, Cond.code yX0_beginnerPrefers cX0_beginnerPrefers 6 (some .boolean), Cond.methodLink RX4 71 yX4_hasPlaceLeft, Cond.instanceMethod yX4_hasPlaceLeft, Cond.selects RX4 yX4_hasPlaceLeft yX4_hasPlaceLeft, Cond.code yX4_hasPlaceLeft cX4_hasPlaceLeft 3 (some .boolean), Cond.methodLink RX4 28 yX4_countOf, Cond.instanceMethod yX4_countOf, Cond.selects RX4 yX4_countOf yX4_countOf, Cond.code yX4_countOf cX4_countOf 4 (some .int), Cond.methodLink RX4 75 yX4_leastOf]
def wsX9_block_r3 : List Cond := [Cond.instanceMethod yX4_leastOf, Cond.selects RX4 yX4_leastOf yX4_leastOf, Cond.code yX4_leastOf cX4_leastOf 5 (some .int), Cond.instanceMethod yX0_elderPrefers, Cond.selects RX0 yX0_elderPrefers yX0_elderPrefers, Cond.code yX0_elderPrefers cX0_elderPrefers 6 (some .boolean), Cond.methodLink RX9 124 yX9_answered, Cond.instanceMethod yX9_answered, Cond.selects RX9 yX9_answered yX9_answered, Cond.code yX9_answered cX9_answered 2 (some .int)]
def wsX9_block : List Cond := .code yX9_block cX9_block 3 (some .int) :: ((wsX9_block_r1 ++ (wsX9_block_r2 ++ wsX9_block_r3)) ++ wsX90 ++ wsX40 ++ wsX00)
def wsX9_change_r1 : List Cond := [Cond.fieldLink RX9 25 "MentorPairs" "pairing" "LMentorPairs$Pairing;", Cond.fieldLink RX9 32 "MentorPairs" "row" "LMentorPairs$Row;", Cond.fieldLink RX9 18 "MentorPairs" "circle" "LMentorPairs$Circle;", Cond.methodLink RX9 160 yX9_pairedFault, Cond.instanceMethod yX9_pairedFault, Cond.selects RX9 yX9_pairedFault yX9_pairedFault, Cond.initialized RX9, Cond.code yX9_pairedFault cX9_pairedFault 2 (some .int), Cond.instanceMethod yX0_isBeginner, Cond.initialized RX0, Cond.selects RX0 yX0_isBeginner yX0_isBeginner, Cond.code yX0_isBeginner cX0_isBeginner 2 (some .boolean), Cond.fieldLink RX0 29 "MentorPairs$Circle" "beginners" "I", Cond.methodLink RX9 114 yX9_refused, Cond.instanceMethod yX9_refused, Cond.selects RX9 yX9_refused yX9_refused, Cond.code yX9_refused cX9_refused 2 (some .int), Cond.fieldLink RX9 71 "MentorPairs" "latest" "I", Cond.instanceMethod yX5_findLast, Cond.initialized RX5, Cond.selects RX5 yX5_findLast yX5_findLast, Cond.code yX5_findLast cX5_findLast 6 (some .int), Cond.fieldLink RX5 15 "MentorPairs$Row" "takerFrom" "[I", Cond.fieldLink RX5 22 "MentorPairs$Row" "first" "I"]
def wsX9_change_r2 : List Cond := [Cond.fieldLink RX5 9 "MentorPairs$Row" "queue" "[I", Cond.fieldLink RX5 18 "MentorPairs$Row" "queued" "I", Cond.fieldLink RX5 25 "MentorPairs$Row" "freeElder" "I", Cond.methodLink RX5 28 yJ7_fill_53178, Cond.static yJ7_fill_53178, Cond.initialized RJ7, Cond.code yJ7_fill_53178 cJ7_fill_53178 4 none, Cond.methodLink RX5 34 yX5_freeElderFor, Cond.instanceMethod yX5_freeElderFor, Cond.selects RX5 yX5_freeElderFor yX5_freeElderFor, Cond.code yX5_freeElderFor cX5_freeElderFor 5 (some .int), Cond.methodLink RX5 56 yX5_mayMove, Cond.static yX5_mayMove, Cond.code yX5_mayMove cX5_mayMove 4 (some .boolean), Cond.instanceMethod yX0_canPair, Cond.selects RX0 yX0_canPair yX0_canPair, Cond.code yX0_canPair cX0_canPair 4 (some .boolean), Cond.fieldLink RX0 15 "MentorPairs$Circle" "likingByElder" "[I", Cond.fieldLink RX0 18 "MentorPairs$Circle" "likingByBeginner" "[I", Cond.fieldLink RX0 21 "MentorPairs$Circle" "barred" "[Z", Cond.methodLink RX0 39 yX0_spot, Cond.static yX0_spot, Cond.code yX0_spot cX0_spot 2 (some .int), Cond.methodLink RX5 60 yX5_isFree]
def wsX9_change_r3 : List Cond := [Cond.instanceMethod yX5_isFree, Cond.selects RX5 yX5_isFree yX5_isFree, Cond.code yX5_isFree cX5_isFree 5 (some .boolean), Cond.instanceMethod yX4_countOf, Cond.initialized RX4, Cond.selects RX4 yX4_countOf yX4_countOf, Cond.code yX4_countOf cX4_countOf 4 (some .int), Cond.fieldLink RX4 9 "MentorPairs$Pairing" "elderBy" "[I", Cond.methodLink RX5 38 yX5_queueLeavers, Cond.instanceMethod yX5_queueLeavers, Cond.selects RX5 yX5_queueLeavers yX5_queueLeavers, Cond.code yX5_queueLeavers cX5_queueLeavers 5 none, Cond.methodLink RX5 71 yX5_queueLeaversOf, Cond.instanceMethod yX5_queueLeaversOf, Cond.selects RX5 yX5_queueLeaversOf yX5_queueLeaversOf, Cond.code yX5_queueLeaversOf cX5_queueLeaversOf 7 none, Cond.instanceMethod yX0_setBarred, Cond.selects RX0 yX0_setBarred yX0_setBarred, Cond.code yX0_setBarred cX0_setBarred 4 none, Cond.instanceMethod yX5_moveAll, Cond.selects RX5 yX5_moveAll yX5_moveAll, Cond.code yX5_moveAll cX5_moveAll 7 (some .int), Cond.methodLink RX9 124 yX9_answered, Cond.instanceMethod yX9_answered]
def wsX9_change_r4 : List Cond := [Cond.selects RX9 yX9_answered yX9_answered, Cond.code yX9_answered cX9_answered 2 (some .int)]
def wsX9_change : List Cond := .code yX9_change cX9_change 5 (some .int) :: ((wsX9_change_r1 ++ (wsX9_change_r2 ++ (wsX9_change_r3 ++ wsX9_change_r4))) ++ wsX90 ++ wsX40 ++ wsX00 ++ wsX50)
def wsX9_isDay : List Cond := .code yX9_isDay cX9_isDay 1 (some .boolean) :: ([])
def wsX9_meeting_r1 : List Cond := [Cond.fieldLink RX9 18 "MentorPairs" "circle" "LMentorPairs$Circle;", Cond.fieldLink RX9 39 "MentorPairs" "meetings" "LMentorPairs$Meetings;", Cond.instanceMethod yX0_isBeginner, Cond.initialized RX0, Cond.selects RX0 yX0_isBeginner yX0_isBeginner, Cond.code yX0_isBeginner cX0_isBeginner 2 (some .boolean), Cond.fieldLink RX0 29 "MentorPairs$Circle" "beginners" "I", Cond.methodLink RX9 114 yX9_refused, Cond.instanceMethod yX9_refused, Cond.selects RX9 yX9_refused yX9_refused, Cond.initialized RX9, Cond.code yX9_refused cX9_refused 2 (some .int), Cond.fieldLink RX9 71 "MentorPairs" "latest" "I", Cond.methodLink RX9 191 yX9_isDay, Cond.static yX9_isDay, Cond.code yX9_isDay cX9_isDay 1 (some .boolean), Cond.instanceMethod yX3_add, Cond.initialized RX3, Cond.selects RX3 yX3_add yX3_add, Cond.code yX3_add cX3_add 3 (some .int), Cond.fieldLink RX3 9 "MentorPairs$Meetings" "beginnerOf" "[I", Cond.fieldLink RX3 28 "MentorPairs$Meetings" "many" "I", Cond.fieldLink RX3 15 "MentorPairs$Meetings" "dueOn" "[I", Cond.methodLink RX9 124 yX9_answered]
def wsX9_meeting_r2 : List Cond := [Cond.instanceMethod yX9_answered, Cond.selects RX9 yX9_answered yX9_answered, Cond.code yX9_answered cX9_answered 2 (some .int)]
def wsX9_meeting : List Cond := .code yX9_meeting cX9_meeting 3 (some .int) :: ((wsX9_meeting_r1 ++ wsX9_meeting_r2) ++ wsX90 ++ wsX30 ++ wsX00)
def wsX9_tell : List Cond := .code yX9_tell cX9_tell 4 (some .boolean) :: ([.fieldLink RX9 39 "MentorPairs" "meetings" "LMentorPairs$Meetings;", .instanceMethod yX3_isMeeting, .initialized RX3, .selects RX3 yX3_isMeeting yX3_isMeeting, .code yX3_isMeeting cX3_isMeeting 2 (some .boolean), .fieldLink RX3 28 "MentorPairs$Meetings" "many" "I", .methodLink RX9 80 yX9_finish, .instanceMethod yX9_finish, .selects RX9 yX9_finish yX9_finish, .initialized RX9, .code yX9_finish cX9_finish 2 (some .boolean), .fieldLink RX9 71 "MentorPairs" "latest" "I", .methodLink RX9 191 yX9_isDay, .static yX9_isDay, .code yX9_isDay cX9_isDay 1 (some .boolean), .instanceMethod yX3_addTelling, .selects RX3 yX3_addTelling yX3_addTelling, .code yX3_addTelling cX3_addTelling 4 none, .fieldLink RX3 18 "MentorPairs$Meetings" "toldMeeting" "[I", .fieldLink RX3 32 "MentorPairs$Meetings" "tellings" "I", .fieldLink RX3 24 "MentorPairs$Meetings" "toldKept" "[Z", .fieldLink RX3 21 "MentorPairs$Meetings" "toldDay" "[I"] ++ wsX90 ++ wsX30)
def wsX9_met_r1 : List Cond := [Cond.fieldLink RX9 18 "MentorPairs" "circle" "LMentorPairs$Circle;", Cond.fieldLink RX9 39 "MentorPairs" "meetings" "LMentorPairs$Meetings;", Cond.instanceMethod yX0_isBeginner, Cond.initialized RX0, Cond.selects RX0 yX0_isBeginner yX0_isBeginner, Cond.code yX0_isBeginner cX0_isBeginner 2 (some .boolean), Cond.fieldLink RX0 29 "MentorPairs$Circle" "beginners" "I", Cond.methodLink RX9 114 yX9_refused, Cond.instanceMethod yX9_refused, Cond.selects RX9 yX9_refused yX9_refused, Cond.initialized RX9, Cond.code yX9_refused cX9_refused 2 (some .int), Cond.fieldLink RX9 71 "MentorPairs" "latest" "I", Cond.methodLink RX9 191 yX9_isDay, Cond.static yX9_isDay, Cond.code yX9_isDay cX9_isDay 1 (some .boolean), Cond.instanceMethod yX3_count, Cond.initialized RX3, Cond.selects RX3 yX3_count yX3_count, Cond.code yX3_count cX3_count 6 (some .int), Cond.fieldLink RX3 28 "MentorPairs$Meetings" "many" "I", Cond.fieldLink RX3 9 "MentorPairs$Meetings" "beginnerOf" "[I", Cond.fieldLink RX3 15 "MentorPairs$Meetings" "dueOn" "[I", Cond.methodLink RX3 35 yX3_knownOn]
def wsX9_met_r2 : List Cond := [Cond.instanceMethod yX3_knownOn, Cond.selects RX3 yX3_knownOn yX3_knownOn, Cond.code yX3_knownOn cX3_knownOn 6 (some .int), Cond.fieldLink RX3 32 "MentorPairs$Meetings" "tellings" "I", Cond.fieldLink RX3 18 "MentorPairs$Meetings" "toldMeeting" "[I", Cond.fieldLink RX3 21 "MentorPairs$Meetings" "toldDay" "[I", Cond.fieldLink RX3 24 "MentorPairs$Meetings" "toldKept" "[Z", Cond.methodLink RX9 124 yX9_answered, Cond.instanceMethod yX9_answered, Cond.selects RX9 yX9_answered yX9_answered, Cond.code yX9_answered cX9_answered 2 (some .int)]
def wsX9_met : List Cond := .code yX9_met cX9_met 4 (some .int) :: ((wsX9_met_r1 ++ wsX9_met_r2) ++ wsX90 ++ wsX00 ++ wsX30)
def wsX9_goal_r1 : List Cond := [Cond.fieldLink RX9 18 "MentorPairs" "circle" "LMentorPairs$Circle;", Cond.fieldLink RX9 46 "MentorPairs" "goals" "LMentorPairs$Goals;", Cond.instanceMethod yX0_isBeginner, Cond.initialized RX0, Cond.selects RX0 yX0_isBeginner yX0_isBeginner, Cond.code yX0_isBeginner cX0_isBeginner 2 (some .boolean), Cond.fieldLink RX0 29 "MentorPairs$Circle" "beginners" "I", Cond.methodLink RX9 114 yX9_refused, Cond.instanceMethod yX9_refused, Cond.selects RX9 yX9_refused yX9_refused, Cond.initialized RX9, Cond.code yX9_refused cX9_refused 2 (some .int), Cond.fieldLink RX9 71 "MentorPairs" "latest" "I", Cond.instanceMethod yX2_isGoalOf, Cond.initialized RX2, Cond.selects RX2 yX2_isGoalOf yX2_isGoalOf, Cond.code yX2_isGoalOf cX2_isGoalOf 3 (some .boolean), Cond.fieldLink RX2 9 "MentorPairs$Goals" "beginnerOf" "[I", Cond.methodLink RX2 28 yX2_isGoal, Cond.instanceMethod yX2_isGoal, Cond.selects RX2 yX2_isGoal yX2_isGoal, Cond.code yX2_isGoal cX2_isGoal 2 (some .boolean), Cond.fieldLink RX2 24 "MentorPairs$Goals" "many" "I", Cond.methodLink RX9 191 yX9_isDay]
def wsX9_goal_r2 : List Cond := [Cond.static yX9_isDay, Cond.code yX9_isDay cX9_isDay 1 (some .boolean), Cond.instanceMethod yX2_add, Cond.selects RX2 yX2_add yX2_add, Cond.code yX2_add cX2_add 4 (some .int), Cond.fieldLink RX2 15 "MentorPairs$Goals" "dueOn" "[I", Cond.fieldLink RX2 18 "MentorPairs$Goals" "behindGoal" "[I", Cond.fieldLink RX2 21 "MentorPairs$Goals" "confirmedOn" "[I", Cond.methodLink RX9 124 yX9_answered, Cond.instanceMethod yX9_answered, Cond.selects RX9 yX9_answered yX9_answered, Cond.code yX9_answered cX9_answered 2 (some .int)]
def wsX9_goal : List Cond := .code yX9_goal cX9_goal 4 (some .int) :: ((wsX9_goal_r1 ++ wsX9_goal_r2) ++ wsX90 ++ wsX20 ++ wsX00)
def wsX9_confirm : List Cond := .code yX9_confirm cX9_confirm 3 (some .boolean) :: ([.fieldLink RX9 46 "MentorPairs" "goals" "LMentorPairs$Goals;", .instanceMethod yX2_isGoal, .initialized RX2, .selects RX2 yX2_isGoal yX2_isGoal, .code yX2_isGoal cX2_isGoal 2 (some .boolean), .fieldLink RX2 24 "MentorPairs$Goals" "many" "I", .methodLink RX9 80 yX9_finish, .instanceMethod yX9_finish, .selects RX9 yX9_finish yX9_finish, .initialized RX9, .code yX9_finish cX9_finish 2 (some .boolean), .fieldLink RX9 71 "MentorPairs" "latest" "I", .methodLink RX9 191 yX9_isDay, .static yX9_isDay, .code yX9_isDay cX9_isDay 1 (some .boolean)] ++ wsX90 ++ wsX20)
def wsX9_goalAt_r1 : List Cond := [Cond.fieldLink RX9 46 "MentorPairs" "goals" "LMentorPairs$Goals;", Cond.instanceMethod yX2_isGoal, Cond.initialized RX2, Cond.selects RX2 yX2_isGoal yX2_isGoal, Cond.code yX2_isGoal cX2_isGoal 2 (some .boolean), Cond.fieldLink RX2 24 "MentorPairs$Goals" "many" "I", Cond.methodLink RX9 114 yX9_refused, Cond.instanceMethod yX9_refused, Cond.selects RX9 yX9_refused yX9_refused, Cond.initialized RX9, Cond.code yX9_refused cX9_refused 2 (some .int), Cond.fieldLink RX9 71 "MentorPairs" "latest" "I", Cond.methodLink RX9 191 yX9_isDay, Cond.static yX9_isDay, Cond.code yX9_isDay cX9_isDay 1 (some .boolean), Cond.instanceMethod yX2_asOf, Cond.selects RX2 yX2_asOf yX2_asOf, Cond.code yX2_asOf cX2_asOf 3 (some .int), Cond.fieldLink RX2 15 "MentorPairs$Goals" "dueOn" "[I", Cond.methodLink RX2 32 yX2_isReached, Cond.instanceMethod yX2_isReached, Cond.selects RX2 yX2_isReached yX2_isReached, Cond.code yX2_isReached cX2_isReached 7 (some .boolean), Cond.fieldLink RX2 21 "MentorPairs$Goals" "confirmedOn" "[I"]
def wsX9_goalAt_r2 : List Cond := [Cond.fieldLink RX2 18 "MentorPairs$Goals" "behindGoal" "[I", Cond.methodLink RX9 124 yX9_answered, Cond.instanceMethod yX9_answered, Cond.selects RX9 yX9_answered yX9_answered, Cond.code yX9_answered cX9_answered 2 (some .int)]
def wsX9_goalAt : List Cond := .code yX9_goalAt cX9_goalAt 3 (some .int) :: ((wsX9_goalAt_r1 ++ wsX9_goalAt_r2) ++ wsX90 ++ wsX20)
def wsX9_run : List Cond := .code yX9_run cX9_run 3 (some .boolean) :: ([.fieldLink RX9 53 "MentorPairs" "runs" "LMentorPairs$Runs;", .methodLink RX9 80 yX9_finish, .instanceMethod yX9_finish, .selects RX9 yX9_finish yX9_finish, .initialized RX9, .code yX9_finish cX9_finish 2 (some .boolean), .fieldLink RX9 71 "MentorPairs" "latest" "I", .instanceMethod yX6_add, .initialized RX6, .selects RX6 yX6_add yX6_add, .code yX6_add cX6_add 3 none, .fieldLink RX6 9 "MentorPairs$Runs" "monthsOf" "[I", .fieldLink RX6 19 "MentorPairs$Runs" "many" "I", .fieldLink RX6 15 "MentorPairs$Runs" "hasEnded" "[Z"] ++ wsX90 ++ wsX60)
def wsX9_clear : List Cond := .code yX9_clear cX9_clear 1 (some .boolean) :: ([.fieldLink RX9 53 "MentorPairs" "runs" "LMentorPairs$Runs;", .methodLink RX9 80 yX9_finish, .instanceMethod yX9_finish, .selects RX9 yX9_finish yX9_finish, .initialized RX9, .code yX9_finish cX9_finish 2 (some .boolean), .fieldLink RX9 71 "MentorPairs" "latest" "I"] ++ wsX90 ++ wsX60)
def wsX9_lasts_r1 : List Cond := [Cond.fieldLink RX9 53 "MentorPairs" "runs" "LMentorPairs$Runs;", Cond.fieldLink RX9 67 "MentorPairs" "fraction" "LMentorPairs$Fraction;", Cond.methodLink RX9 80 yX9_finish, Cond.instanceMethod yX9_finish, Cond.selects RX9 yX9_finish yX9_finish, Cond.initialized RX9, Cond.code yX9_finish cX9_finish 2 (some .boolean), Cond.fieldLink RX9 71 "MentorPairs" "latest" "I", Cond.instanceMethod yX6_shareBeyond, Cond.initialized RX6, Cond.selects RX6 yX6_shareBeyond yX6_shareBeyond, Cond.code yX6_shareBeyond cX6_shareBeyond 10 none, Cond.methodLink RX6 23 yX6_countEnded, Cond.instanceMethod yX6_countEnded, Cond.selects RX6 yX6_countEnded yX6_countEnded, Cond.code yX6_countEnded cX6_countEnded 4 (some .int), Cond.fieldLink RX6 19 "MentorPairs$Runs" "many" "I", Cond.fieldLink RX6 15 "MentorPairs$Runs" "hasEnded" "[Z", Cond.fieldLink RX6 9 "MentorPairs$Runs" "monthsOf" "[I", Cond.methodLink RX6 27 yX6_countAtRisk, Cond.instanceMethod yX6_countAtRisk, Cond.selects RX6 yX6_countAtRisk yX6_countAtRisk, Cond.code yX6_countAtRisk cX6_countAtRisk 4 (some .int), Cond.instanceMethod yX1_become]
def wsX9_lasts_r2 : List Cond := [Cond.initialized RX1, Cond.selects RX1 yX1_become yX1_become, Cond.code yX1_become cX1_become 7 none, Cond.methodLink RX1 16 Lib.MathLoose.abs_long.x, Cond.static Lib.MathLoose.abs_long.x, Cond.initialized "java/lang/Math", Cond.code Lib.MathLoose.abs_long.x Lib.MathLoose.abs_long.code 2 (some .long), Cond.fieldLink RX1 7 "MentorPairs$Fraction" "above" "J", Cond.fieldLink RX1 13 "MentorPairs$Fraction" "below" "J", Cond.methodLink RX1 22 yX1_commonDivisor, Cond.static yX1_commonDivisor, Cond.code yX1_commonDivisor cX1_commonDivisor 11 (some .long)]
def wsX9_lasts : List Cond := .code yX9_lasts cX9_lasts 2 (some .boolean) :: ((wsX9_lasts_r1 ++ wsX9_lasts_r2) ++ wsX90 ++ wsX60 ++ wsX10)
def wsX9_upper : List Cond := .code yX9_upper cX9_upper 1 (some .long) :: ([.fieldLink RX9 67 "MentorPairs" "fraction" "LMentorPairs$Fraction;"] ++ wsX90 ++ wsX10)
def wsX9_lower : List Cond := .code yX9_lower cX9_lower 1 (some .long) :: ([.fieldLink RX9 67 "MentorPairs" "fraction" "LMentorPairs$Fraction;"] ++ wsX90 ++ wsX10)
def wsX9_trialFault : List Cond := .code yX9_trialFault cX9_trialFault 7 (some .int) :: ([.fieldLink RX9 11 "MentorPairs" "trays" "[LMentorPairs$Tray;", .methodLink RX9 266 yX9_trayFault, .instanceMethod yX9_trayFault, .selects RX9 yX9_trayFault yX9_trayFault, .initialized RX9, .code yX9_trayFault cX9_trayFault 2 (some .int), .methodLink RX9 76 yX9_isTray, .static yX9_isTray, .code yX9_isTray cX9_isTray 1 (some .boolean), .instanceMethod yX7_hasPlaces, .initialized RX7, .selects RX7 yX7_hasPlaces yX7_hasPlaces, .code yX7_hasPlaces cX7_hasPlaces 3 (some .boolean), .fieldLink RX7 23 "MentorPairs$Tray" "length" "I", .instanceMethod yX7_hasOutcomes, .selects RX7 yX7_hasOutcomes yX7_hasOutcomes, .code yX7_hasOutcomes cX7_hasOutcomes 3 (some .boolean), .fieldLink RX7 9 "MentorPairs$Tray" "numbers" "[J", .constantLong RX7 36 (100)] ++ wsX90 ++ wsX70)
def wsX9_gain_r1 : List Cond := [Cond.fieldLink RX9 60 "MentorPairs" "trial" "LMentorPairs$Trial;", Cond.fieldLink RX9 11 "MentorPairs" "trays" "[LMentorPairs$Tray;", Cond.fieldLink RX9 67 "MentorPairs" "fraction" "LMentorPairs$Fraction;", Cond.methodLink RX9 247 yX9_trialFault, Cond.instanceMethod yX9_trialFault, Cond.selects RX9 yX9_trialFault yX9_trialFault, Cond.initialized RX9, Cond.code yX9_trialFault cX9_trialFault 7 (some .int), Cond.methodLink RX9 266 yX9_trayFault, Cond.instanceMethod yX9_trayFault, Cond.selects RX9 yX9_trayFault yX9_trayFault, Cond.code yX9_trayFault cX9_trayFault 2 (some .int), Cond.methodLink RX9 76 yX9_isTray, Cond.static yX9_isTray, Cond.code yX9_isTray cX9_isTray 1 (some .boolean), Cond.instanceMethod yX7_hasPlaces, Cond.initialized RX7, Cond.selects RX7 yX7_hasPlaces yX7_hasPlaces, Cond.code yX7_hasPlaces cX7_hasPlaces 3 (some .boolean), Cond.fieldLink RX7 23 "MentorPairs$Tray" "length" "I", Cond.instanceMethod yX7_hasOutcomes, Cond.selects RX7 yX7_hasOutcomes yX7_hasOutcomes, Cond.code yX7_hasOutcomes cX7_hasOutcomes 3 (some .boolean), Cond.fieldLink RX7 9 "MentorPairs$Tray" "numbers" "[J"]
def wsX9_gain_r2 : List Cond := [Cond.constantLong RX7 36 (100), Cond.instanceMethod yX8_lay, Cond.initialized RX8, Cond.selects RX8 yX8_lay yX8_lay, Cond.code yX8_lay cX8_lay 3 none, Cond.fieldLink RX8 16 "MentorPairs$Trial" "many" "I", Cond.fieldLink RX8 9 "MentorPairs$Trial" "sumsOfFirst" "[J", Cond.fieldLink RX8 13 "MentorPairs$Trial" "sumsOfRest" "[J", Cond.methodLink RX8 20 yX8_laySums, Cond.instanceMethod yX8_laySums, Cond.selects RX8 yX8_laySums yX8_laySums, Cond.code yX8_laySums cX8_laySums 8 none, Cond.methodLink RX8 24 yJ6_numberOfTrailingZeros_0f7a4, Cond.static yJ6_numberOfTrailingZeros_0f7a4, Cond.initialized RJ6, Cond.code yJ6_numberOfTrailingZeros_0f7a4 cJ6_numberOfTrailingZeros_0f7a4 2 (some .int), Cond.constant RJ6 264 (65536), Cond.instanceMethod yX8_gainOf, Cond.selects RX8 yX8_gainOf yX8_gainOf, Cond.code yX8_gainOf cX8_gainOf 11 none, Cond.methodLink RX8 35 yJ6_bitCount_0f7a4, Cond.static yJ6_bitCount_0f7a4, Cond.code yJ6_bitCount_0f7a4 cJ6_bitCount_0f7a4 1 (some .int), Cond.constant RJ6 265 (1431655765)]
def wsX9_gain_r3 : List Cond := [Cond.constant RJ6 266 (858993459), Cond.constant RJ6 267 (252645135), Cond.methodLink RX8 38 yX8_sumOf, Cond.instanceMethod yX8_sumOf, Cond.selects RX8 yX8_sumOf yX8_sumOf, Cond.code yX8_sumOf cX8_sumOf 2 (some .long), Cond.instanceMethod yX1_become, Cond.initialized RX1, Cond.selects RX1 yX1_become yX1_become, Cond.code yX1_become cX1_become 7 none, Cond.methodLink RX1 16 Lib.MathLoose.abs_long.x, Cond.static Lib.MathLoose.abs_long.x, Cond.initialized "java/lang/Math", Cond.code Lib.MathLoose.abs_long.x Lib.MathLoose.abs_long.code 2 (some .long), Cond.fieldLink RX1 7 "MentorPairs$Fraction" "above" "J", Cond.fieldLink RX1 13 "MentorPairs$Fraction" "below" "J", Cond.methodLink RX1 22 yX1_commonDivisor, Cond.static yX1_commonDivisor, Cond.code yX1_commonDivisor cX1_commonDivisor 11 (some .long), Cond.methodLink RX9 80 yX9_finish, Cond.instanceMethod yX9_finish, Cond.selects RX9 yX9_finish yX9_finish, Cond.code yX9_finish cX9_finish 2 (some .boolean), Cond.fieldLink RX9 71 "MentorPairs" "latest" "I"]
def wsX9_gain : List Cond := .code yX9_gain cX9_gain 5 (some .boolean) :: ((wsX9_gain_r1 ++ (wsX9_gain_r2 ++ wsX9_gain_r3)) ++ wsX90 ++ wsX70 ++ wsX80 ++ wsX10)
def wsX9_chance_r1 : List Cond := [Cond.fieldLink RX9 60 "MentorPairs" "trial" "LMentorPairs$Trial;", Cond.fieldLink RX9 11 "MentorPairs" "trays" "[LMentorPairs$Tray;", Cond.fieldLink RX9 67 "MentorPairs" "fraction" "LMentorPairs$Fraction;", Cond.methodLink RX9 247 yX9_trialFault, Cond.instanceMethod yX9_trialFault, Cond.selects RX9 yX9_trialFault yX9_trialFault, Cond.initialized RX9, Cond.code yX9_trialFault cX9_trialFault 7 (some .int), Cond.methodLink RX9 266 yX9_trayFault, Cond.instanceMethod yX9_trayFault, Cond.selects RX9 yX9_trayFault yX9_trayFault, Cond.code yX9_trayFault cX9_trayFault 2 (some .int), Cond.methodLink RX9 76 yX9_isTray, Cond.static yX9_isTray, Cond.code yX9_isTray cX9_isTray 1 (some .boolean), Cond.instanceMethod yX7_hasPlaces, Cond.initialized RX7, Cond.selects RX7 yX7_hasPlaces yX7_hasPlaces, Cond.code yX7_hasPlaces cX7_hasPlaces 3 (some .boolean), Cond.fieldLink RX7 23 "MentorPairs$Tray" "length" "I", Cond.instanceMethod yX7_hasOutcomes, Cond.selects RX7 yX7_hasOutcomes yX7_hasOutcomes, Cond.code yX7_hasOutcomes cX7_hasOutcomes 3 (some .boolean), Cond.fieldLink RX7 9 "MentorPairs$Tray" "numbers" "[J"]
def wsX9_chance_r2 : List Cond := [Cond.constantLong RX7 36 (100), Cond.instanceMethod yX8_lay, Cond.initialized RX8, Cond.selects RX8 yX8_lay yX8_lay, Cond.code yX8_lay cX8_lay 3 none, Cond.fieldLink RX8 16 "MentorPairs$Trial" "many" "I", Cond.fieldLink RX8 9 "MentorPairs$Trial" "sumsOfFirst" "[J", Cond.fieldLink RX8 13 "MentorPairs$Trial" "sumsOfRest" "[J", Cond.methodLink RX8 20 yX8_laySums, Cond.instanceMethod yX8_laySums, Cond.selects RX8 yX8_laySums yX8_laySums, Cond.code yX8_laySums cX8_laySums 8 none, Cond.methodLink RX8 24 yJ6_numberOfTrailingZeros_0f7a4, Cond.static yJ6_numberOfTrailingZeros_0f7a4, Cond.initialized RJ6, Cond.code yJ6_numberOfTrailingZeros_0f7a4 cJ6_numberOfTrailingZeros_0f7a4 2 (some .int), Cond.constant RJ6 264 (65536), Cond.instanceMethod yX8_chanceOf, Cond.selects RX8 yX8_chanceOf yX8_chanceOf, Cond.code yX8_chanceOf cX8_chanceOf 10 none, Cond.methodLink RX8 35 yJ6_bitCount_0f7a4, Cond.static yJ6_bitCount_0f7a4, Cond.code yJ6_bitCount_0f7a4 cJ6_bitCount_0f7a4 1 (some .int), Cond.constant RJ6 265 (1431655765)]
def wsX9_chance_r3 : List Cond := [Cond.constant RJ6 266 (858993459), Cond.constant RJ6 267 (252645135), Cond.methodLink RX8 48 yX8_countSets, Cond.static yX8_countSets, Cond.code yX8_countSets cX8_countSets 4 (some .int), Cond.methodLink RX8 38 yX8_sumOf, Cond.instanceMethod yX8_sumOf, Cond.selects RX8 yX8_sumOf yX8_sumOf, Cond.code yX8_sumOf cX8_sumOf 2 (some .long), Cond.methodLink RX8 52 yX8_nextOfSameSize, Cond.static yX8_nextOfSameSize, Cond.code yX8_nextOfSameSize cX8_nextOfSameSize 4 (some .int), Cond.instanceMethod yX1_become, Cond.initialized RX1, Cond.selects RX1 yX1_become yX1_become, Cond.code yX1_become cX1_become 7 none, Cond.methodLink RX1 16 Lib.MathLoose.abs_long.x, Cond.static Lib.MathLoose.abs_long.x, Cond.initialized "java/lang/Math", Cond.code Lib.MathLoose.abs_long.x Lib.MathLoose.abs_long.code 2 (some .long), Cond.fieldLink RX1 7 "MentorPairs$Fraction" "above" "J", Cond.fieldLink RX1 13 "MentorPairs$Fraction" "below" "J", Cond.methodLink RX1 22 yX1_commonDivisor, Cond.static yX1_commonDivisor]
def wsX9_chance_r4 : List Cond := [Cond.code yX1_commonDivisor cX1_commonDivisor 11 (some .long), Cond.methodLink RX9 80 yX9_finish, Cond.instanceMethod yX9_finish, Cond.selects RX9 yX9_finish yX9_finish, Cond.code yX9_finish cX9_finish 2 (some .boolean), Cond.fieldLink RX9 71 "MentorPairs" "latest" "I"]
def wsX9_chance : List Cond := .code yX9_chance cX9_chance 5 (some .boolean) :: ((wsX9_chance_r1 ++ (wsX9_chance_r2 ++ (wsX9_chance_r3 ++ wsX9_chance_r4))) ++ wsX90 ++ wsX70 ++ wsX80 ++ wsX10)
def wsX9_draw : List Cond := .code yX9_draw cX9_draw 4 (some .int) :: ([.methodLink RX9 114 yX9_refused, .instanceMethod yX9_refused, .selects RX9 yX9_refused yX9_refused, .initialized RX9, .code yX9_refused cX9_refused 2 (some .int), .fieldLink RX9 71 "MentorPairs" "latest" "I", .static yX8_drawnSet, .initialized RX8, .code yX8_drawnSet cX8_drawnSet 8 (some .int), .constantLong RX8 55 (1103515245), .constantLong RX8 57 (12345), .constantLong RX8 59 (2147483647), .methodLink RX9 124 yX9_answered, .instanceMethod yX9_answered, .selects RX9 yX9_answered yX9_answered, .code yX9_answered cX9_answered 2 (some .int)] ++ wsX90)
def wsX10_init_r1 : List Cond := [Cond.methodLink RX10 1 objectInit, Cond.instanceMethod objectInit, Cond.code objectInit ⟨#[0xb1]⟩ 1 none, Cond.fieldLink RX10 7 "MentorPairsModel" "under" "J", Cond.arrayClass .int, Cond.fieldLink RX10 13 "MentorPairsModel" "traySort" "[I", Cond.fieldLink RX10 17 "MentorPairsModel" "trayMany" "[I", Cond.arrayClass .long, Cond.fieldLink RX10 20 "MentorPairsModel" "numbers" "[J", Cond.fieldLink RX10 24 "MentorPairsModel" "places" "[I", Cond.fieldLink RX10 27 "MentorPairsModel" "ofElder" "[I", Cond.fieldLink RX10 30 "MentorPairsModel" "ofBeginner" "[I", Cond.arrayClass .boolean, Cond.fieldLink RX10 33 "MentorPairsModel" "isBarred" "[Z", Cond.fieldLink RX10 37 "MentorPairsModel" "given" "[I", Cond.fieldLink RX10 40 "MentorPairsModel" "asks" "[I", Cond.fieldLink RX10 43 "MentorPairsModel" "steps" "[I", Cond.fieldLink RX10 46 "MentorPairsModel" "meetingOf" "[I", Cond.fieldLink RX10 49 "MentorPairsModel" "meetingDue" "[I", Cond.fieldLink RX10 52 "MentorPairsModel" "toldOf" "[I", Cond.fieldLink RX10 55 "MentorPairsModel" "toldDay" "[I", Cond.fieldLink RX10 58 "MentorPairsModel" "toldKept" "[Z", Cond.fieldLink RX10 61 "MentorPairsModel" "goalOf" "[I", Cond.fieldLink RX10 64 "MentorPairsModel" "goalDue" "[I"]
def wsX10_init_r2 : List Cond := [Cond.fieldLink RX10 67 "MentorPairsModel" "goalBehind" "[I", Cond.fieldLink RX10 70 "MentorPairsModel" "goalConfirmed" "[I", Cond.fieldLink RX10 73 "MentorPairsModel" "months" "[I", Cond.fieldLink RX10 76 "MentorPairsModel" "hasEnded" "[Z", Cond.fieldLink RX10 79 "MentorPairsModel" "free" "[Z"]
def wsX10_init : List Cond := .code yX10_init cX10_init 2 none :: ((wsX10_init_r1 ++ wsX10_init_r2) ++ wsX100)
def wsX10_status : List Cond := .code yX10_status cX10_status 1 (some .int) :: ([.fieldLink RX10 82 "MentorPairsModel" "thrown" "I", .fieldLink RX10 86 "MentorPairsModel" "status" "I"] ++ wsX100)
def wsX10_refuse : List Cond := .code yX10_refuse cX10_refuse 2 (some .int) :: ([.fieldLink RX10 86 "MentorPairsModel" "status" "I"] ++ wsX100)
def wsX10_no : List Cond := .code yX10_no cX10_no 2 (some .boolean) :: ([.fieldLink RX10 86 "MentorPairsModel" "status" "I"] ++ wsX100)
def wsX10_cut : List Cond := .code yX10_cut cX10_cut 3 (some .long) :: ([])
def wsX10_tray : List Cond := .code yX10_tray cX10_tray 5 (some .boolean) :: ([.fieldLink RX10 82 "MentorPairsModel" "thrown" "I", .fieldLink RX10 86 "MentorPairsModel" "status" "I", .fieldLink RX10 13 "MentorPairsModel" "traySort" "[I", .fieldLink RX10 17 "MentorPairsModel" "trayMany" "[I", .fieldLink RX10 20 "MentorPairsModel" "numbers" "[J", .methodLink RX10 89 yX10_no, .instanceMethod yX10_no, .selects RX10 yX10_no yX10_no, .initialized RX10, .code yX10_no cX10_no 2 (some .boolean)] ++ wsX100)
def wsX10_trayed : List Cond := .code yX10_trayed cX10_trayed 2 (some .int) :: ([.fieldLink RX10 17 "MentorPairsModel" "trayMany" "[I"] ++ wsX100)
def wsX10_placed : List Cond := .code yX10_placed cX10_placed 4 (some .int) :: ([.fieldLink RX10 17 "MentorPairsModel" "trayMany" "[I", .methodLink RX10 93 yX10_trayed, .instanceMethod yX10_trayed, .selects RX10 yX10_trayed yX10_trayed, .initialized RX10, .code yX10_trayed cX10_trayed 2 (some .int)] ++ wsX100)
def wsX10_write : List Cond := .code yX10_write cX10_write 5 (some .boolean) :: ([.fieldLink RX10 82 "MentorPairsModel" "thrown" "I", .fieldLink RX10 86 "MentorPairsModel" "status" "I", .fieldLink RX10 20 "MentorPairsModel" "numbers" "[J", .fieldLink RX10 13 "MentorPairsModel" "traySort" "[I", .methodLink RX10 97 yX10_placed, .instanceMethod yX10_placed, .selects RX10 yX10_placed yX10_placed, .initialized RX10, .code yX10_placed cX10_placed 4 (some .int), .fieldLink RX10 17 "MentorPairsModel" "trayMany" "[I", .methodLink RX10 93 yX10_trayed, .instanceMethod yX10_trayed, .selects RX10 yX10_trayed yX10_trayed, .code yX10_trayed cX10_trayed 2 (some .int), .methodLink RX10 101 yX10_cut, .static yX10_cut, .code yX10_cut cX10_cut 3 (some .long)] ++ wsX100)
def wsX10_read : List Cond := .code yX10_read cX10_read 3 (some .long) :: ([.fieldLink RX10 82 "MentorPairsModel" "thrown" "I", .fieldLink RX10 86 "MentorPairsModel" "status" "I", .constantLong RX10 105 (-1), .fieldLink RX10 20 "MentorPairsModel" "numbers" "[J", .methodLink RX10 97 yX10_placed, .instanceMethod yX10_placed, .selects RX10 yX10_placed yX10_placed, .initialized RX10, .code yX10_placed cX10_placed 4 (some .int), .fieldLink RX10 17 "MentorPairsModel" "trayMany" "[I", .methodLink RX10 93 yX10_trayed, .instanceMethod yX10_trayed, .selects RX10 yX10_trayed yX10_trayed, .code yX10_trayed cX10_trayed 2 (some .int)] ++ wsX100)
def wsX10_pour : List Cond := .code yX10_pour cX10_pour 9 (some .boolean) :: ([.fieldLink RX10 82 "MentorPairsModel" "thrown" "I", .fieldLink RX10 86 "MentorPairsModel" "status" "I", .fieldLink RX10 17 "MentorPairsModel" "trayMany" "[I", .fieldLink RX10 13 "MentorPairsModel" "traySort" "[I", .fieldLink RX10 20 "MentorPairsModel" "numbers" "[J", .methodLink RX10 89 yX10_no, .instanceMethod yX10_no, .selects RX10 yX10_no yX10_no, .initialized RX10, .code yX10_no cX10_no 2 (some .boolean)] ++ wsX100)
def wsX10_isElder : List Cond := .code yX10_isElder cX10_isElder 2 (some .boolean) :: ([.fieldLink RX10 107 "MentorPairsModel" "elders" "I"] ++ wsX100)
def wsX10_isBeginner : List Cond := .code yX10_isBeginner cX10_isBeginner 2 (some .boolean) :: ([.fieldLink RX10 110 "MentorPairsModel" "beginners" "I"] ++ wsX100)
def wsX10_elder : List Cond := .code yX10_elder cX10_elder 2 (some .int) :: ([.fieldLink RX10 82 "MentorPairsModel" "thrown" "I", .fieldLink RX10 86 "MentorPairsModel" "status" "I", .fieldLink RX10 107 "MentorPairsModel" "elders" "I", .fieldLink RX10 24 "MentorPairsModel" "places" "[I", .methodLink RX10 113 yX10_refuse, .instanceMethod yX10_refuse, .selects RX10 yX10_refuse yX10_refuse, .initialized RX10, .code yX10_refuse cX10_refuse 2 (some .int)] ++ wsX100)
def wsX10_beginner : List Cond := .code yX10_beginner cX10_beginner 1 (some .int) :: ([.fieldLink RX10 82 "MentorPairsModel" "thrown" "I", .fieldLink RX10 86 "MentorPairsModel" "status" "I", .fieldLink RX10 110 "MentorPairsModel" "beginners" "I", .fieldLink RX10 37 "MentorPairsModel" "given" "[I", .methodLink RX10 113 yX10_refuse, .instanceMethod yX10_refuse, .selects RX10 yX10_refuse yX10_refuse, .initialized RX10, .code yX10_refuse cX10_refuse 2 (some .int)] ++ wsX100)
def wsX10_places : List Cond := .code yX10_places cX10_places 3 (some .boolean) :: ([.fieldLink RX10 82 "MentorPairsModel" "thrown" "I", .fieldLink RX10 86 "MentorPairsModel" "status" "I", .fieldLink RX10 24 "MentorPairsModel" "places" "[I", .methodLink RX10 116 yX10_isElder, .instanceMethod yX10_isElder, .selects RX10 yX10_isElder yX10_isElder, .initialized RX10, .code yX10_isElder cX10_isElder 2 (some .boolean), .fieldLink RX10 107 "MentorPairsModel" "elders" "I", .methodLink RX10 89 yX10_no, .instanceMethod yX10_no, .selects RX10 yX10_no yX10_no, .code yX10_no cX10_no 2 (some .boolean)] ++ wsX100)
def wsX10_like : List Cond := .code yX10_like cX10_like 5 (some .boolean) :: ([.fieldLink RX10 82 "MentorPairsModel" "thrown" "I", .fieldLink RX10 86 "MentorPairsModel" "status" "I", .fieldLink RX10 27 "MentorPairsModel" "ofElder" "[I", .fieldLink RX10 30 "MentorPairsModel" "ofBeginner" "[I", .methodLink RX10 116 yX10_isElder, .instanceMethod yX10_isElder, .selects RX10 yX10_isElder yX10_isElder, .initialized RX10, .code yX10_isElder cX10_isElder 2 (some .boolean), .fieldLink RX10 107 "MentorPairsModel" "elders" "I", .methodLink RX10 119 yX10_isBeginner, .instanceMethod yX10_isBeginner, .selects RX10 yX10_isBeginner yX10_isBeginner, .code yX10_isBeginner cX10_isBeginner 2 (some .boolean), .fieldLink RX10 110 "MentorPairsModel" "beginners" "I", .methodLink RX10 89 yX10_no, .instanceMethod yX10_no, .selects RX10 yX10_no yX10_no, .code yX10_no cX10_no 2 (some .boolean)] ++ wsX100)
def wsX10_bar : List Cond := .code yX10_bar cX10_bar 4 (some .boolean) :: ([.fieldLink RX10 82 "MentorPairsModel" "thrown" "I", .fieldLink RX10 86 "MentorPairsModel" "status" "I", .fieldLink RX10 33 "MentorPairsModel" "isBarred" "[Z", .methodLink RX10 116 yX10_isElder, .instanceMethod yX10_isElder, .selects RX10 yX10_isElder yX10_isElder, .initialized RX10, .code yX10_isElder cX10_isElder 2 (some .boolean), .fieldLink RX10 107 "MentorPairsModel" "elders" "I", .methodLink RX10 119 yX10_isBeginner, .instanceMethod yX10_isBeginner, .selects RX10 yX10_isBeginner yX10_isBeginner, .code yX10_isBeginner cX10_isBeginner 2 (some .boolean), .fieldLink RX10 110 "MentorPairsModel" "beginners" "I", .methodLink RX10 89 yX10_no, .instanceMethod yX10_no, .selects RX10 yX10_no yX10_no, .code yX10_no cX10_no 2 (some .boolean)] ++ wsX100)
def wsX10_can : List Cond := .code yX10_can cX10_can 4 (some .boolean) :: ([.fieldLink RX10 27 "MentorPairsModel" "ofElder" "[I", .fieldLink RX10 30 "MentorPairsModel" "ofBeginner" "[I", .fieldLink RX10 33 "MentorPairsModel" "isBarred" "[Z"] ++ wsX100)
def wsX10_elderPrefers : List Cond := .code yX10_elderPrefers cX10_elderPrefers 6 (some .boolean) :: ([.fieldLink RX10 27 "MentorPairsModel" "ofElder" "[I"] ++ wsX100)
def wsX10_beginnerPrefers : List Cond := .code yX10_beginnerPrefers cX10_beginnerPrefers 6 (some .boolean) :: ([.fieldLink RX10 30 "MentorPairsModel" "ofBeginner" "[I"] ++ wsX100)
def wsX10_hasOf : List Cond := .code yX10_hasOf cX10_hasOf 4 (some .int) :: ([.fieldLink RX10 110 "MentorPairsModel" "beginners" "I", .fieldLink RX10 37 "MentorPairsModel" "given" "[I"] ++ wsX100)
def wsX10_worst : List Cond := .code yX10_worst cX10_worst 4 (some .int) :: ([.fieldLink RX10 110 "MentorPairsModel" "beginners" "I", .fieldLink RX10 37 "MentorPairsModel" "given" "[I", .methodLink RX10 122 yX10_elderPrefers, .instanceMethod yX10_elderPrefers, .selects RX10 yX10_elderPrefers yX10_elderPrefers, .initialized RX10, .code yX10_elderPrefers cX10_elderPrefers 6 (some .boolean), .fieldLink RX10 27 "MentorPairsModel" "ofElder" "[I"] ++ wsX100)
def wsX10_rank : List Cond := .code yX10_rank cX10_rank 5 (some .int) :: ([.fieldLink RX10 107 "MentorPairsModel" "elders" "I", .methodLink RX10 126 yX10_can, .instanceMethod yX10_can, .selects RX10 yX10_can yX10_can, .initialized RX10, .code yX10_can cX10_can 4 (some .boolean), .fieldLink RX10 27 "MentorPairsModel" "ofElder" "[I", .fieldLink RX10 30 "MentorPairsModel" "ofBeginner" "[I", .fieldLink RX10 33 "MentorPairsModel" "isBarred" "[Z", .methodLink RX10 130 yX10_beginnerPrefers, .instanceMethod yX10_beginnerPrefers, .selects RX10 yX10_beginnerPrefers yX10_beginnerPrefers, .code yX10_beginnerPrefers cX10_beginnerPrefers 6 (some .boolean)] ++ wsX100)
def wsX10_asked : List Cond := .code yX10_asked cX10_asked 4 (some .int) :: ([.fieldLink RX10 107 "MentorPairsModel" "elders" "I", .methodLink RX10 126 yX10_can, .instanceMethod yX10_can, .selects RX10 yX10_can yX10_can, .initialized RX10, .code yX10_can cX10_can 4 (some .boolean), .fieldLink RX10 27 "MentorPairsModel" "ofElder" "[I", .fieldLink RX10 30 "MentorPairsModel" "ofBeginner" "[I", .fieldLink RX10 33 "MentorPairsModel" "isBarred" "[Z", .methodLink RX10 133 yX10_rank, .instanceMethod yX10_rank, .selects RX10 yX10_rank yX10_rank, .code yX10_rank cX10_rank 5 (some .int), .methodLink RX10 130 yX10_beginnerPrefers, .instanceMethod yX10_beginnerPrefers, .selects RX10 yX10_beginnerPrefers yX10_beginnerPrefers, .code yX10_beginnerPrefers cX10_beginnerPrefers 6 (some .boolean)] ++ wsX100)
def wsX10_pair_r1 : List Cond := [Cond.fieldLink RX10 82 "MentorPairsModel" "thrown" "I", Cond.fieldLink RX10 86 "MentorPairsModel" "status" "I", Cond.fieldLink RX10 110 "MentorPairsModel" "beginners" "I", Cond.fieldLink RX10 37 "MentorPairsModel" "given" "[I", Cond.fieldLink RX10 40 "MentorPairsModel" "asks" "[I", Cond.fieldLink RX10 24 "MentorPairsModel" "places" "[I", Cond.fieldLink RX10 145 "MentorPairsModel" "isGiven" "Z", Cond.methodLink RX10 136 yX10_asked, Cond.instanceMethod yX10_asked, Cond.selects RX10 yX10_asked yX10_asked, Cond.initialized RX10, Cond.code yX10_asked cX10_asked 4 (some .int), Cond.fieldLink RX10 107 "MentorPairsModel" "elders" "I", Cond.methodLink RX10 126 yX10_can, Cond.instanceMethod yX10_can, Cond.selects RX10 yX10_can yX10_can, Cond.code yX10_can cX10_can 4 (some .boolean), Cond.fieldLink RX10 27 "MentorPairsModel" "ofElder" "[I", Cond.fieldLink RX10 30 "MentorPairsModel" "ofBeginner" "[I", Cond.fieldLink RX10 33 "MentorPairsModel" "isBarred" "[Z", Cond.methodLink RX10 133 yX10_rank, Cond.instanceMethod yX10_rank, Cond.selects RX10 yX10_rank yX10_rank, Cond.code yX10_rank cX10_rank 5 (some .int)]
def wsX10_pair_r2 : List Cond := [Cond.methodLink RX10 130 yX10_beginnerPrefers, Cond.instanceMethod yX10_beginnerPrefers, Cond.selects RX10 yX10_beginnerPrefers yX10_beginnerPrefers, Cond.code yX10_beginnerPrefers cX10_beginnerPrefers 6 (some .boolean), Cond.methodLink RX10 139 yX10_hasOf, Cond.instanceMethod yX10_hasOf, Cond.selects RX10 yX10_hasOf yX10_hasOf, Cond.code yX10_hasOf cX10_hasOf 4 (some .int), Cond.methodLink RX10 142 yX10_worst, Cond.instanceMethod yX10_worst, Cond.selects RX10 yX10_worst yX10_worst, Cond.code yX10_worst cX10_worst 4 (some .int), Cond.methodLink RX10 122 yX10_elderPrefers, Cond.instanceMethod yX10_elderPrefers, Cond.selects RX10 yX10_elderPrefers yX10_elderPrefers, Cond.code yX10_elderPrefers cX10_elderPrefers 6 (some .boolean)]
def wsX10_pair : List Cond := .code yX10_pair cX10_pair 4 (some .int) :: ((wsX10_pair_r1 ++ wsX10_pair_r2) ++ wsX100)
def wsX10_elderOf : List Cond := .code yX10_elderOf cX10_elderOf 2 (some .int) :: ([.fieldLink RX10 82 "MentorPairsModel" "thrown" "I", .fieldLink RX10 86 "MentorPairsModel" "status" "I", .fieldLink RX10 145 "MentorPairsModel" "isGiven" "Z", .fieldLink RX10 37 "MentorPairsModel" "given" "[I", .methodLink RX10 119 yX10_isBeginner, .instanceMethod yX10_isBeginner, .selects RX10 yX10_isBeginner yX10_isBeginner, .initialized RX10, .code yX10_isBeginner cX10_isBeginner 2 (some .boolean), .fieldLink RX10 110 "MentorPairsModel" "beginners" "I", .methodLink RX10 113 yX10_refuse, .instanceMethod yX10_refuse, .selects RX10 yX10_refuse yX10_refuse, .code yX10_refuse cX10_refuse 2 (some .int)] ++ wsX100)
def wsX10_has : List Cond := .code yX10_has cX10_has 2 (some .int) :: ([.fieldLink RX10 82 "MentorPairsModel" "thrown" "I", .fieldLink RX10 86 "MentorPairsModel" "status" "I", .fieldLink RX10 145 "MentorPairsModel" "isGiven" "Z", .methodLink RX10 116 yX10_isElder, .instanceMethod yX10_isElder, .selects RX10 yX10_isElder yX10_isElder, .initialized RX10, .code yX10_isElder cX10_isElder 2 (some .boolean), .fieldLink RX10 107 "MentorPairsModel" "elders" "I", .methodLink RX10 113 yX10_refuse, .instanceMethod yX10_refuse, .selects RX10 yX10_refuse yX10_refuse, .code yX10_refuse cX10_refuse 2 (some .int), .methodLink RX10 139 yX10_hasOf, .instanceMethod yX10_hasOf, .selects RX10 yX10_hasOf yX10_hasOf, .code yX10_hasOf cX10_hasOf 4 (some .int), .fieldLink RX10 110 "MentorPairsModel" "beginners" "I", .fieldLink RX10 37 "MentorPairsModel" "given" "[I"] ++ wsX100)
def wsX10_isBlock_r1 : List Cond := [Cond.fieldLink RX10 37 "MentorPairsModel" "given" "[I", Cond.fieldLink RX10 24 "MentorPairsModel" "places" "[I", Cond.methodLink RX10 126 yX10_can, Cond.instanceMethod yX10_can, Cond.selects RX10 yX10_can yX10_can, Cond.initialized RX10, Cond.code yX10_can cX10_can 4 (some .boolean), Cond.fieldLink RX10 27 "MentorPairsModel" "ofElder" "[I", Cond.fieldLink RX10 30 "MentorPairsModel" "ofBeginner" "[I", Cond.fieldLink RX10 33 "MentorPairsModel" "isBarred" "[Z", Cond.methodLink RX10 130 yX10_beginnerPrefers, Cond.instanceMethod yX10_beginnerPrefers, Cond.selects RX10 yX10_beginnerPrefers yX10_beginnerPrefers, Cond.code yX10_beginnerPrefers cX10_beginnerPrefers 6 (some .boolean), Cond.methodLink RX10 139 yX10_hasOf, Cond.instanceMethod yX10_hasOf, Cond.selects RX10 yX10_hasOf yX10_hasOf, Cond.code yX10_hasOf cX10_hasOf 4 (some .int), Cond.fieldLink RX10 110 "MentorPairsModel" "beginners" "I", Cond.methodLink RX10 142 yX10_worst, Cond.instanceMethod yX10_worst, Cond.selects RX10 yX10_worst yX10_worst, Cond.code yX10_worst cX10_worst 4 (some .int), Cond.methodLink RX10 122 yX10_elderPrefers]
def wsX10_isBlock_r2 : List Cond := [Cond.instanceMethod yX10_elderPrefers, Cond.selects RX10 yX10_elderPrefers yX10_elderPrefers, Cond.code yX10_elderPrefers cX10_elderPrefers 6 (some .boolean)]
def wsX10_isBlock : List Cond := .code yX10_isBlock cX10_isBlock 4 (some .boolean) :: ((wsX10_isBlock_r1 ++ wsX10_isBlock_r2) ++ wsX100)
def wsX10_blocks_r1 : List Cond := [Cond.fieldLink RX10 82 "MentorPairsModel" "thrown" "I", Cond.fieldLink RX10 86 "MentorPairsModel" "status" "I", Cond.fieldLink RX10 145 "MentorPairsModel" "isGiven" "Z", Cond.fieldLink RX10 107 "MentorPairsModel" "elders" "I", Cond.fieldLink RX10 110 "MentorPairsModel" "beginners" "I", Cond.methodLink RX10 113 yX10_refuse, Cond.instanceMethod yX10_refuse, Cond.selects RX10 yX10_refuse yX10_refuse, Cond.initialized RX10, Cond.code yX10_refuse cX10_refuse 2 (some .int), Cond.methodLink RX10 149 yX10_isBlock, Cond.instanceMethod yX10_isBlock, Cond.selects RX10 yX10_isBlock yX10_isBlock, Cond.code yX10_isBlock cX10_isBlock 4 (some .boolean), Cond.fieldLink RX10 37 "MentorPairsModel" "given" "[I", Cond.fieldLink RX10 24 "MentorPairsModel" "places" "[I", Cond.methodLink RX10 126 yX10_can, Cond.instanceMethod yX10_can, Cond.selects RX10 yX10_can yX10_can, Cond.code yX10_can cX10_can 4 (some .boolean), Cond.fieldLink RX10 27 "MentorPairsModel" "ofElder" "[I", Cond.fieldLink RX10 30 "MentorPairsModel" "ofBeginner" "[I", Cond.fieldLink RX10 33 "MentorPairsModel" "isBarred" "[Z", Cond.methodLink RX10 130 yX10_beginnerPrefers]
def wsX10_blocks_r2 : List Cond := [Cond.instanceMethod yX10_beginnerPrefers, Cond.selects RX10 yX10_beginnerPrefers yX10_beginnerPrefers, Cond.code yX10_beginnerPrefers cX10_beginnerPrefers 6 (some .boolean), Cond.methodLink RX10 139 yX10_hasOf, Cond.instanceMethod yX10_hasOf, Cond.selects RX10 yX10_hasOf yX10_hasOf, Cond.code yX10_hasOf cX10_hasOf 4 (some .int), Cond.methodLink RX10 142 yX10_worst, Cond.instanceMethod yX10_worst, Cond.selects RX10 yX10_worst yX10_worst, Cond.code yX10_worst cX10_worst 4 (some .int), Cond.methodLink RX10 122 yX10_elderPrefers, Cond.instanceMethod yX10_elderPrefers, Cond.selects RX10 yX10_elderPrefers yX10_elderPrefers, Cond.code yX10_elderPrefers cX10_elderPrefers 6 (some .boolean)]
def wsX10_blocks : List Cond := .code yX10_blocks cX10_blocks 4 (some .int) :: ((wsX10_blocks_r1 ++ wsX10_blocks_r2) ++ wsX100)
def wsX10_block_r1 : List Cond := [Cond.fieldLink RX10 82 "MentorPairsModel" "thrown" "I", Cond.fieldLink RX10 86 "MentorPairsModel" "status" "I", Cond.fieldLink RX10 145 "MentorPairsModel" "isGiven" "Z", Cond.methodLink RX10 116 yX10_isElder, Cond.instanceMethod yX10_isElder, Cond.selects RX10 yX10_isElder yX10_isElder, Cond.initialized RX10, Cond.code yX10_isElder cX10_isElder 2 (some .boolean), Cond.fieldLink RX10 107 "MentorPairsModel" "elders" "I", Cond.methodLink RX10 119 yX10_isBeginner, Cond.instanceMethod yX10_isBeginner, Cond.selects RX10 yX10_isBeginner yX10_isBeginner, Cond.code yX10_isBeginner cX10_isBeginner 2 (some .boolean), Cond.fieldLink RX10 110 "MentorPairsModel" "beginners" "I", Cond.methodLink RX10 113 yX10_refuse, Cond.instanceMethod yX10_refuse, Cond.selects RX10 yX10_refuse yX10_refuse, Cond.code yX10_refuse cX10_refuse 2 (some .int), Cond.methodLink RX10 149 yX10_isBlock, Cond.instanceMethod yX10_isBlock, Cond.selects RX10 yX10_isBlock yX10_isBlock, Cond.code yX10_isBlock cX10_isBlock 4 (some .boolean), Cond.fieldLink RX10 37 "MentorPairsModel" "given" "[I", Cond.fieldLink RX10 24 "MentorPairsModel" "places" "[I"]
def wsX10_block_r2 : List Cond := [Cond.methodLink RX10 126 yX10_can, Cond.instanceMethod yX10_can, Cond.selects RX10 yX10_can yX10_can, Cond.code yX10_can cX10_can 4 (some .boolean), Cond.fieldLink RX10 27 "MentorPairsModel" "ofElder" "[I", Cond.fieldLink RX10 30 "MentorPairsModel" "ofBeginner" "[I", Cond.fieldLink RX10 33 "MentorPairsModel" "isBarred" "[Z", Cond.methodLink RX10 130 yX10_beginnerPrefers, Cond.instanceMethod yX10_beginnerPrefers, Cond.selects RX10 yX10_beginnerPrefers yX10_beginnerPrefers, Cond.code yX10_beginnerPrefers cX10_beginnerPrefers 6 (some .boolean), Cond.methodLink RX10 139 yX10_hasOf, Cond.instanceMethod yX10_hasOf, Cond.selects RX10 yX10_hasOf yX10_hasOf, Cond.code yX10_hasOf cX10_hasOf 4 (some .int), Cond.methodLink RX10 142 yX10_worst, Cond.instanceMethod yX10_worst, Cond.selects RX10 yX10_worst yX10_worst, Cond.code yX10_worst cX10_worst 4 (some .int), Cond.methodLink RX10 122 yX10_elderPrefers, Cond.instanceMethod yX10_elderPrefers, Cond.selects RX10 yX10_elderPrefers yX10_elderPrefers, Cond.code yX10_elderPrefers cX10_elderPrefers 6 (some .boolean)]
def wsX10_block : List Cond := .code yX10_block cX10_block 3 (some .int) :: ((wsX10_block_r1 ++ wsX10_block_r2) ++ wsX100)
def wsX10_isFree : List Cond := .code yX10_isFree cX10_isFree 3 (some .boolean) :: ([.fieldLink RX10 24 "MentorPairsModel" "places" "[I", .methodLink RX10 139 yX10_hasOf, .instanceMethod yX10_hasOf, .selects RX10 yX10_hasOf yX10_hasOf, .initialized RX10, .code yX10_hasOf cX10_hasOf 4 (some .int), .fieldLink RX10 110 "MentorPairsModel" "beginners" "I", .fieldLink RX10 37 "MentorPairsModel" "given" "[I"] ++ wsX100)
def wsX10_countSteps : List Cond := .code yX10_countSteps cX10_countSteps 5 none :: ([.fieldLink RX10 110 "MentorPairsModel" "beginners" "I", .fieldLink RX10 43 "MentorPairsModel" "steps" "[I", .fieldLink RX10 37 "MentorPairsModel" "given" "[I", .fieldLink RX10 107 "MentorPairsModel" "elders" "I", .methodLink RX10 126 yX10_can, .instanceMethod yX10_can, .selects RX10 yX10_can yX10_can, .initialized RX10, .code yX10_can cX10_can 4 (some .boolean), .fieldLink RX10 27 "MentorPairsModel" "ofElder" "[I", .fieldLink RX10 30 "MentorPairsModel" "ofBeginner" "[I", .fieldLink RX10 33 "MentorPairsModel" "isBarred" "[Z", .methodLink RX10 152 yX10_isFree, .instanceMethod yX10_isFree, .selects RX10 yX10_isFree yX10_isFree, .code yX10_isFree cX10_isFree 3 (some .boolean), .fieldLink RX10 24 "MentorPairsModel" "places" "[I", .methodLink RX10 139 yX10_hasOf, .instanceMethod yX10_hasOf, .selects RX10 yX10_hasOf yX10_hasOf, .code yX10_hasOf cX10_hasOf 4 (some .int)] ++ wsX100)
def wsX10_takes : List Cond := .code yX10_takes cX10_takes 5 (some .boolean) :: ([.fieldLink RX10 37 "MentorPairsModel" "given" "[I", .fieldLink RX10 79 "MentorPairsModel" "free" "[Z", .fieldLink RX10 110 "MentorPairsModel" "beginners" "I", .fieldLink RX10 43 "MentorPairsModel" "steps" "[I", .methodLink RX10 126 yX10_can, .instanceMethod yX10_can, .selects RX10 yX10_can yX10_can, .initialized RX10, .code yX10_can cX10_can 4 (some .boolean), .fieldLink RX10 27 "MentorPairsModel" "ofElder" "[I", .fieldLink RX10 30 "MentorPairsModel" "ofBeginner" "[I", .fieldLink RX10 33 "MentorPairsModel" "isBarred" "[Z"] ++ wsX100)
def wsX10_change_r1 : List Cond := [Cond.fieldLink RX10 82 "MentorPairsModel" "thrown" "I", Cond.fieldLink RX10 86 "MentorPairsModel" "status" "I", Cond.fieldLink RX10 145 "MentorPairsModel" "isGiven" "Z", Cond.fieldLink RX10 37 "MentorPairsModel" "given" "[I", Cond.fieldLink RX10 33 "MentorPairsModel" "isBarred" "[Z", Cond.fieldLink RX10 43 "MentorPairsModel" "steps" "[I", Cond.fieldLink RX10 107 "MentorPairsModel" "elders" "I", Cond.fieldLink RX10 79 "MentorPairsModel" "free" "[Z", Cond.fieldLink RX10 110 "MentorPairsModel" "beginners" "I", Cond.methodLink RX10 119 yX10_isBeginner, Cond.instanceMethod yX10_isBeginner, Cond.selects RX10 yX10_isBeginner yX10_isBeginner, Cond.initialized RX10, Cond.code yX10_isBeginner cX10_isBeginner 2 (some .boolean), Cond.methodLink RX10 113 yX10_refuse, Cond.instanceMethod yX10_refuse, Cond.selects RX10 yX10_refuse yX10_refuse, Cond.code yX10_refuse cX10_refuse 2 (some .int), Cond.methodLink RX10 155 yX10_countSteps, Cond.instanceMethod yX10_countSteps, Cond.selects RX10 yX10_countSteps yX10_countSteps, Cond.code yX10_countSteps cX10_countSteps 5 none, Cond.methodLink RX10 126 yX10_can, Cond.instanceMethod yX10_can]
def wsX10_change_r2 : List Cond := [Cond.selects RX10 yX10_can yX10_can, Cond.code yX10_can cX10_can 4 (some .boolean), Cond.fieldLink RX10 27 "MentorPairsModel" "ofElder" "[I", Cond.fieldLink RX10 30 "MentorPairsModel" "ofBeginner" "[I", Cond.methodLink RX10 152 yX10_isFree, Cond.instanceMethod yX10_isFree, Cond.selects RX10 yX10_isFree yX10_isFree, Cond.code yX10_isFree cX10_isFree 3 (some .boolean), Cond.fieldLink RX10 24 "MentorPairsModel" "places" "[I", Cond.methodLink RX10 139 yX10_hasOf, Cond.instanceMethod yX10_hasOf, Cond.selects RX10 yX10_hasOf yX10_hasOf, Cond.code yX10_hasOf cX10_hasOf 4 (some .int), Cond.methodLink RX10 159 yX10_takes, Cond.instanceMethod yX10_takes, Cond.selects RX10 yX10_takes yX10_takes, Cond.code yX10_takes cX10_takes 5 (some .boolean)]
def wsX10_change : List Cond := .code yX10_change cX10_change 11 (some .int) :: ((wsX10_change_r1 ++ wsX10_change_r2) ++ wsX100)
def wsX10_isDay : List Cond := .code yX10_isDay cX10_isDay 1 (some .boolean) :: ([])
def wsX10_meeting : List Cond := .code yX10_meeting cX10_meeting 3 (some .int) :: ([.fieldLink RX10 82 "MentorPairsModel" "thrown" "I", .fieldLink RX10 86 "MentorPairsModel" "status" "I", .fieldLink RX10 165 "MentorPairsModel" "meetings" "I", .fieldLink RX10 46 "MentorPairsModel" "meetingOf" "[I", .fieldLink RX10 49 "MentorPairsModel" "meetingDue" "[I", .methodLink RX10 119 yX10_isBeginner, .instanceMethod yX10_isBeginner, .selects RX10 yX10_isBeginner yX10_isBeginner, .initialized RX10, .code yX10_isBeginner cX10_isBeginner 2 (some .boolean), .fieldLink RX10 110 "MentorPairsModel" "beginners" "I", .methodLink RX10 113 yX10_refuse, .instanceMethod yX10_refuse, .selects RX10 yX10_refuse yX10_refuse, .code yX10_refuse cX10_refuse 2 (some .int), .methodLink RX10 162 yX10_isDay, .static yX10_isDay, .code yX10_isDay cX10_isDay 1 (some .boolean)] ++ wsX100)
def wsX10_tell : List Cond := .code yX10_tell cX10_tell 4 (some .boolean) :: ([.fieldLink RX10 82 "MentorPairsModel" "thrown" "I", .fieldLink RX10 86 "MentorPairsModel" "status" "I", .fieldLink RX10 165 "MentorPairsModel" "meetings" "I", .fieldLink RX10 49 "MentorPairsModel" "meetingDue" "[I", .fieldLink RX10 168 "MentorPairsModel" "told" "I", .fieldLink RX10 52 "MentorPairsModel" "toldOf" "[I", .fieldLink RX10 55 "MentorPairsModel" "toldDay" "[I", .fieldLink RX10 58 "MentorPairsModel" "toldKept" "[Z", .methodLink RX10 89 yX10_no, .instanceMethod yX10_no, .selects RX10 yX10_no yX10_no, .initialized RX10, .code yX10_no cX10_no 2 (some .boolean), .methodLink RX10 162 yX10_isDay, .static yX10_isDay, .code yX10_isDay cX10_isDay 1 (some .boolean)] ++ wsX100)
def wsX10_met : List Cond := .code yX10_met cX10_met 8 (some .int) :: ([.fieldLink RX10 82 "MentorPairsModel" "thrown" "I", .fieldLink RX10 86 "MentorPairsModel" "status" "I", .fieldLink RX10 165 "MentorPairsModel" "meetings" "I", .fieldLink RX10 46 "MentorPairsModel" "meetingOf" "[I", .fieldLink RX10 49 "MentorPairsModel" "meetingDue" "[I", .fieldLink RX10 168 "MentorPairsModel" "told" "I", .fieldLink RX10 52 "MentorPairsModel" "toldOf" "[I", .fieldLink RX10 55 "MentorPairsModel" "toldDay" "[I", .fieldLink RX10 58 "MentorPairsModel" "toldKept" "[Z", .methodLink RX10 119 yX10_isBeginner, .instanceMethod yX10_isBeginner, .selects RX10 yX10_isBeginner yX10_isBeginner, .initialized RX10, .code yX10_isBeginner cX10_isBeginner 2 (some .boolean), .fieldLink RX10 110 "MentorPairsModel" "beginners" "I", .methodLink RX10 113 yX10_refuse, .instanceMethod yX10_refuse, .selects RX10 yX10_refuse yX10_refuse, .code yX10_refuse cX10_refuse 2 (some .int), .methodLink RX10 162 yX10_isDay, .static yX10_isDay, .code yX10_isDay cX10_isDay 1 (some .boolean)] ++ wsX100)
def wsX10_goal : List Cond := .code yX10_goal cX10_goal 4 (some .int) :: ([.fieldLink RX10 82 "MentorPairsModel" "thrown" "I", .fieldLink RX10 86 "MentorPairsModel" "status" "I", .fieldLink RX10 171 "MentorPairsModel" "goals" "I", .fieldLink RX10 61 "MentorPairsModel" "goalOf" "[I", .fieldLink RX10 64 "MentorPairsModel" "goalDue" "[I", .fieldLink RX10 67 "MentorPairsModel" "goalBehind" "[I", .fieldLink RX10 70 "MentorPairsModel" "goalConfirmed" "[I", .methodLink RX10 119 yX10_isBeginner, .instanceMethod yX10_isBeginner, .selects RX10 yX10_isBeginner yX10_isBeginner, .initialized RX10, .code yX10_isBeginner cX10_isBeginner 2 (some .boolean), .fieldLink RX10 110 "MentorPairsModel" "beginners" "I", .methodLink RX10 113 yX10_refuse, .instanceMethod yX10_refuse, .selects RX10 yX10_refuse yX10_refuse, .code yX10_refuse cX10_refuse 2 (some .int), .methodLink RX10 162 yX10_isDay, .static yX10_isDay, .code yX10_isDay cX10_isDay 1 (some .boolean)] ++ wsX100)
def wsX10_confirm : List Cond := .code yX10_confirm cX10_confirm 3 (some .boolean) :: ([.fieldLink RX10 82 "MentorPairsModel" "thrown" "I", .fieldLink RX10 86 "MentorPairsModel" "status" "I", .fieldLink RX10 171 "MentorPairsModel" "goals" "I", .fieldLink RX10 70 "MentorPairsModel" "goalConfirmed" "[I", .methodLink RX10 89 yX10_no, .instanceMethod yX10_no, .selects RX10 yX10_no yX10_no, .initialized RX10, .code yX10_no cX10_no 2 (some .boolean), .methodLink RX10 162 yX10_isDay, .static yX10_isDay, .code yX10_isDay cX10_isDay 1 (some .boolean)] ++ wsX100)
def wsX10_isReached : List Cond := .code yX10_isReached cX10_isReached 5 (some .boolean) :: ([.fieldLink RX10 70 "MentorPairsModel" "goalConfirmed" "[I", .fieldLink RX10 64 "MentorPairsModel" "goalDue" "[I", .fieldLink RX10 67 "MentorPairsModel" "goalBehind" "[I"] ++ wsX100)
def wsX10_goalAt : List Cond := .code yX10_goalAt cX10_goalAt 3 (some .int) :: ([.fieldLink RX10 82 "MentorPairsModel" "thrown" "I", .fieldLink RX10 86 "MentorPairsModel" "status" "I", .fieldLink RX10 171 "MentorPairsModel" "goals" "I", .fieldLink RX10 64 "MentorPairsModel" "goalDue" "[I", .methodLink RX10 113 yX10_refuse, .instanceMethod yX10_refuse, .selects RX10 yX10_refuse yX10_refuse, .initialized RX10, .code yX10_refuse cX10_refuse 2 (some .int), .methodLink RX10 162 yX10_isDay, .static yX10_isDay, .code yX10_isDay cX10_isDay 1 (some .boolean), .methodLink RX10 174 yX10_isReached, .instanceMethod yX10_isReached, .selects RX10 yX10_isReached yX10_isReached, .code yX10_isReached cX10_isReached 5 (some .boolean), .fieldLink RX10 70 "MentorPairsModel" "goalConfirmed" "[I", .fieldLink RX10 67 "MentorPairsModel" "goalBehind" "[I"] ++ wsX100)
def wsX10_common : List Cond := .code yX10_common cX10_common 10 (some .long) :: ([.methodLink RX10 177 Lib.MathLoose.abs_long.x, .static Lib.MathLoose.abs_long.x, .initialized "java/lang/Math", .code Lib.MathLoose.abs_long.x Lib.MathLoose.abs_long.code 2 (some .long)])
def wsX10_tells : List Cond := .code yX10_tells cX10_tells 7 (some .boolean) :: ([.fieldLink RX10 187 "MentorPairsModel" "above" "J", .fieldLink RX10 7 "MentorPairsModel" "under" "J", .methodLink RX10 183 yX10_common, .static yX10_common, .initialized RX10, .code yX10_common cX10_common 10 (some .long), .methodLink RX10 177 Lib.MathLoose.abs_long.x, .static Lib.MathLoose.abs_long.x, .initialized "java/lang/Math", .code Lib.MathLoose.abs_long.x Lib.MathLoose.abs_long.code 2 (some .long)] ++ wsX100)
def wsX10_run : List Cond := .code yX10_run cX10_run 3 (some .boolean) :: ([.fieldLink RX10 82 "MentorPairsModel" "thrown" "I", .fieldLink RX10 86 "MentorPairsModel" "status" "I", .fieldLink RX10 190 "MentorPairsModel" "runs" "I", .fieldLink RX10 73 "MentorPairsModel" "months" "[I", .fieldLink RX10 76 "MentorPairsModel" "hasEnded" "[Z", .methodLink RX10 89 yX10_no, .instanceMethod yX10_no, .selects RX10 yX10_no yX10_no, .initialized RX10, .code yX10_no cX10_no 2 (some .boolean)] ++ wsX100)
def wsX10_clear : List Cond := .code yX10_clear cX10_clear 1 (some .boolean) :: ([.fieldLink RX10 82 "MentorPairsModel" "thrown" "I", .fieldLink RX10 86 "MentorPairsModel" "status" "I", .fieldLink RX10 190 "MentorPairsModel" "runs" "I"] ++ wsX100)
def wsX10_lasts : List Cond := .code yX10_lasts cX10_lasts 10 (some .boolean) :: ([.fieldLink RX10 82 "MentorPairsModel" "thrown" "I", .fieldLink RX10 86 "MentorPairsModel" "status" "I", .fieldLink RX10 190 "MentorPairsModel" "runs" "I", .fieldLink RX10 73 "MentorPairsModel" "months" "[I", .fieldLink RX10 76 "MentorPairsModel" "hasEnded" "[Z", .methodLink RX10 89 yX10_no, .instanceMethod yX10_no, .selects RX10 yX10_no yX10_no, .initialized RX10, .code yX10_no cX10_no 2 (some .boolean), .methodLink RX10 193 yX10_tells, .instanceMethod yX10_tells, .selects RX10 yX10_tells yX10_tells, .code yX10_tells cX10_tells 7 (some .boolean), .fieldLink RX10 187 "MentorPairsModel" "above" "J", .fieldLink RX10 7 "MentorPairsModel" "under" "J", .methodLink RX10 183 yX10_common, .static yX10_common, .code yX10_common cX10_common 10 (some .long), .methodLink RX10 177 Lib.MathLoose.abs_long.x, .static Lib.MathLoose.abs_long.x, .initialized "java/lang/Math", .code Lib.MathLoose.abs_long.x Lib.MathLoose.abs_long.code 2 (some .long)] ++ wsX100)
def wsX10_upper : List Cond := .code yX10_upper cX10_upper 1 (some .long) :: ([.fieldLink RX10 82 "MentorPairsModel" "thrown" "I", .fieldLink RX10 187 "MentorPairsModel" "above" "J"] ++ wsX100)
def wsX10_lower : List Cond := .code yX10_lower cX10_lower 1 (some .long) :: ([.fieldLink RX10 82 "MentorPairsModel" "thrown" "I", .fieldLink RX10 7 "MentorPairsModel" "under" "J"] ++ wsX100)
def wsX10_trial : List Cond := .code yX10_trial cX10_trial 6 (some .int) :: ([.fieldLink RX10 17 "MentorPairsModel" "trayMany" "[I", .fieldLink RX10 20 "MentorPairsModel" "numbers" "[J", .constantLong RX10 197 (100), .methodLink RX10 93 yX10_trayed, .instanceMethod yX10_trayed, .selects RX10 yX10_trayed yX10_trayed, .initialized RX10, .code yX10_trayed cX10_trayed 2 (some .int)] ++ wsX100)
def wsX10_sumOf : List Cond := .code yX10_sumOf cX10_sumOf 6 (some .int) :: ([.fieldLink RX10 20 "MentorPairsModel" "numbers" "[J"] ++ wsX100)
def wsX10_gain_r1 : List Cond := [Cond.fieldLink RX10 82 "MentorPairsModel" "thrown" "I", Cond.fieldLink RX10 86 "MentorPairsModel" "status" "I", Cond.methodLink RX10 199 yX10_trial, Cond.instanceMethod yX10_trial, Cond.selects RX10 yX10_trial yX10_trial, Cond.initialized RX10, Cond.code yX10_trial cX10_trial 6 (some .int), Cond.fieldLink RX10 17 "MentorPairsModel" "trayMany" "[I", Cond.fieldLink RX10 20 "MentorPairsModel" "numbers" "[J", Cond.constantLong RX10 197 (100), Cond.methodLink RX10 93 yX10_trayed, Cond.instanceMethod yX10_trayed, Cond.selects RX10 yX10_trayed yX10_trayed, Cond.code yX10_trayed cX10_trayed 2 (some .int), Cond.methodLink RX10 203 yJ6_bitCount_0f7a4, Cond.static yJ6_bitCount_0f7a4, Cond.initialized RJ6, Cond.code yJ6_bitCount_0f7a4 cJ6_bitCount_0f7a4 1 (some .int), Cond.constant RJ6 265 (1431655765), Cond.constant RJ6 266 (858993459), Cond.constant RJ6 267 (252645135), Cond.methodLink RX10 208 yX10_sumOf, Cond.instanceMethod yX10_sumOf, Cond.selects RX10 yX10_sumOf yX10_sumOf]
def wsX10_gain_r2 : List Cond := [Cond.code yX10_sumOf cX10_sumOf 6 (some .int), Cond.methodLink RX10 193 yX10_tells, Cond.instanceMethod yX10_tells, Cond.selects RX10 yX10_tells yX10_tells, Cond.code yX10_tells cX10_tells 7 (some .boolean), Cond.fieldLink RX10 187 "MentorPairsModel" "above" "J", Cond.fieldLink RX10 7 "MentorPairsModel" "under" "J", Cond.methodLink RX10 183 yX10_common, Cond.static yX10_common, Cond.code yX10_common cX10_common 10 (some .long), Cond.methodLink RX10 177 Lib.MathLoose.abs_long.x, Cond.static Lib.MathLoose.abs_long.x, Cond.initialized "java/lang/Math", Cond.code Lib.MathLoose.abs_long.x Lib.MathLoose.abs_long.code 2 (some .long)]
def wsX10_gain : List Cond := .code yX10_gain cX10_gain 9 (some .boolean) :: ((wsX10_gain_r1 ++ wsX10_gain_r2) ++ wsX100)
def wsX10_chance_r1 : List Cond := [Cond.fieldLink RX10 82 "MentorPairsModel" "thrown" "I", Cond.fieldLink RX10 86 "MentorPairsModel" "status" "I", Cond.methodLink RX10 199 yX10_trial, Cond.instanceMethod yX10_trial, Cond.selects RX10 yX10_trial yX10_trial, Cond.initialized RX10, Cond.code yX10_trial cX10_trial 6 (some .int), Cond.fieldLink RX10 17 "MentorPairsModel" "trayMany" "[I", Cond.fieldLink RX10 20 "MentorPairsModel" "numbers" "[J", Cond.constantLong RX10 197 (100), Cond.methodLink RX10 93 yX10_trayed, Cond.instanceMethod yX10_trayed, Cond.selects RX10 yX10_trayed yX10_trayed, Cond.code yX10_trayed cX10_trayed 2 (some .int), Cond.methodLink RX10 203 yJ6_bitCount_0f7a4, Cond.static yJ6_bitCount_0f7a4, Cond.initialized RJ6, Cond.code yJ6_bitCount_0f7a4 cJ6_bitCount_0f7a4 1 (some .int), Cond.constant RJ6 265 (1431655765), Cond.constant RJ6 266 (858993459), Cond.constant RJ6 267 (252645135), Cond.methodLink RX10 208 yX10_sumOf, Cond.instanceMethod yX10_sumOf, Cond.selects RX10 yX10_sumOf yX10_sumOf]
def wsX10_chance_r2 : List Cond := [Cond.code yX10_sumOf cX10_sumOf 6 (some .int), Cond.methodLink RX10 193 yX10_tells, Cond.instanceMethod yX10_tells, Cond.selects RX10 yX10_tells yX10_tells, Cond.code yX10_tells cX10_tells 7 (some .boolean), Cond.fieldLink RX10 187 "MentorPairsModel" "above" "J", Cond.fieldLink RX10 7 "MentorPairsModel" "under" "J", Cond.methodLink RX10 183 yX10_common, Cond.static yX10_common, Cond.code yX10_common cX10_common 10 (some .long), Cond.methodLink RX10 177 Lib.MathLoose.abs_long.x, Cond.static Lib.MathLoose.abs_long.x, Cond.initialized "java/lang/Math", Cond.code Lib.MathLoose.abs_long.x Lib.MathLoose.abs_long.code 2 (some .long)]
def wsX10_chance : List Cond := .code yX10_chance cX10_chance 9 (some .boolean) :: ((wsX10_chance_r1 ++ wsX10_chance_r2) ++ wsX100)
def wsX10_draw : List Cond := .code yX10_draw cX10_draw 9 (some .int) :: ([.fieldLink RX10 82 "MentorPairsModel" "thrown" "I", .fieldLink RX10 86 "MentorPairsModel" "status" "I", .constantLong RX10 211 (1103515245), .constantLong RX10 213 (12345), .constantLong RX10 215 (2147483647), .methodLink RX10 113 yX10_refuse, .instanceMethod yX10_refuse, .selects RX10 yX10_refuse yX10_refuse, .initialized RX10, .code yX10_refuse cX10_refuse 2 (some .int)] ++ wsX100)
def wsJ9_abs_067f4 : List Cond := .code yJ9_abs_067f4 cJ9_abs_067f4 2 (some .long) :: ([])
theorem inJ6 : ∀ w ∈ wsJ60, w ∈ lw_tbl := by decide +kernel
theorem inJ9 : ∀ w ∈ wsJ90, w ∈ lw_tbl := by decide +kernel
theorem inJ10 : ∀ w ∈ wsJ100, w ∈ lw_tbl := by decide +kernel
theorem inJ7 : ∀ w ∈ wsJ70, w ∈ lw_tbl := by decide +kernel
set_option maxRecDepth 20000 in
theorem ggX0_areTwo_X0_isElder : GoodIn wsX0_areTwo wsX0_isElder := goodIn_r _ [5, 6, 12, 13, 14, 15, 16, 17] (by decide +kernel) (by decide +kernel)
set_option maxRecDepth 20000 in
theorem gX0_areTwo_X0_isElder : GoodIn wsX0_areTwo (wsV RX0 32 RX0 yX0_isElder wsX0_isElder) := goodIn_app (goodIn_of _ (by decide +kernel)) ggX0_areTwo_X0_isElder
set_option maxRecDepth 20000 in
theorem ggX0_areTwo_X0_isBeginner : GoodIn wsX0_areTwo wsX0_isBeginner := goodIn_r _ [10, 11, 12, 13, 14, 15, 16, 17] (by decide +kernel) (by decide +kernel)
set_option maxRecDepth 20000 in
theorem gX0_areTwo_X0_isBeginner : GoodIn wsX0_areTwo (wsV RX0 36 RX0 yX0_isBeginner wsX0_isBeginner) := goodIn_app (goodIn_of _ (by decide +kernel)) ggX0_areTwo_X0_isBeginner
set_option maxRecDepth 20000 in
theorem ggX0_setLiking_X0_spot : GoodIn wsX0_setLiking wsX0_spot := goodIn_r _ [6] (by decide +kernel) (by decide +kernel)
set_option maxRecDepth 20000 in
theorem gX0_setLiking_X0_spot : GoodIn wsX0_setLiking (va_wsS RX0 39 yX0_spot wsX0_spot) := goodIn_app (goodIn_of _ (by decide +kernel)) ggX0_setLiking_X0_spot
set_option maxRecDepth 20000 in
theorem ggX0_isBarred_X0_spot : GoodIn wsX0_isBarred wsX0_spot := goodIn_r _ [5] (by decide +kernel) (by decide +kernel)
set_option maxRecDepth 20000 in
theorem gX0_isBarred_X0_spot : GoodIn wsX0_isBarred (va_wsS RX0 39 yX0_spot wsX0_spot) := goodIn_app (goodIn_of _ (by decide +kernel)) ggX0_isBarred_X0_spot
set_option maxRecDepth 20000 in
theorem ggX0_setBarred_X0_spot : GoodIn wsX0_setBarred wsX0_spot := goodIn_r _ [5] (by decide +kernel) (by decide +kernel)
set_option maxRecDepth 20000 in
theorem gX0_setBarred_X0_spot : GoodIn wsX0_setBarred (va_wsS RX0 39 yX0_spot wsX0_spot) := goodIn_app (goodIn_of _ (by decide +kernel)) ggX0_setBarred_X0_spot
set_option maxRecDepth 20000 in
theorem ggX0_canPair_X0_spot : GoodIn wsX0_canPair wsX0_spot := goodIn_r _ [7] (by decide +kernel) (by decide +kernel)
set_option maxRecDepth 20000 in
theorem gX0_canPair_X0_spot : GoodIn wsX0_canPair (va_wsS RX0 39 yX0_spot wsX0_spot) := goodIn_app (goodIn_of _ (by decide +kernel)) ggX0_canPair_X0_spot
set_option maxRecDepth 20000 in
theorem ggX0_beginnerPrefers_X0_spot : GoodIn wsX0_beginnerPrefers wsX0_spot := goodIn_r _ [5] (by decide +kernel) (by decide +kernel)
set_option maxRecDepth 20000 in
theorem gX0_beginnerPrefers_X0_spot : GoodIn wsX0_beginnerPrefers (va_wsS RX0 39 yX0_spot wsX0_spot) := goodIn_app (goodIn_of _ (by decide +kernel)) ggX0_beginnerPrefers_X0_spot
set_option maxRecDepth 20000 in
theorem ggX0_elderPrefers_X0_spot : GoodIn wsX0_elderPrefers wsX0_spot := goodIn_r _ [5] (by decide +kernel) (by decide +kernel)
set_option maxRecDepth 20000 in
theorem gX0_elderPrefers_X0_spot : GoodIn wsX0_elderPrefers (va_wsS RX0 39 yX0_spot wsX0_spot) := goodIn_app (goodIn_of _ (by decide +kernel)) ggX0_elderPrefers_X0_spot
set_option maxRecDepth 20000 in
theorem ggX1_become_X1_commonDivisor : GoodIn wsX1_become wsX1_commonDivisor := goodIn_r _ [10] (by decide +kernel) (by decide +kernel)
set_option maxRecDepth 20000 in
theorem gX1_become_X1_commonDivisor : GoodIn wsX1_become (va_wsS RX1 22 yX1_commonDivisor wsX1_commonDivisor) := goodIn_app (goodIn_of _ (by decide +kernel)) ggX1_become_X1_commonDivisor
set_option maxRecDepth 20000 in
theorem ggX2_isGoalOf_X2_isGoal : GoodIn wsX2_isGoalOf wsX2_isGoal := goodIn_r _ [6, 7, 8, 9, 10, 11, 12] (by decide +kernel) (by decide +kernel)
set_option maxRecDepth 20000 in
theorem gX2_isGoalOf_X2_isGoal : GoodIn wsX2_isGoalOf (wsV RX2 28 RX2 yX2_isGoal wsX2_isGoal) := goodIn_app (goodIn_of _ (by decide +kernel)) ggX2_isGoalOf_X2_isGoal
set_option maxRecDepth 20000 in
theorem ggX2_asOf_X2_isReached : GoodIn wsX2_asOf wsX2_isReached := goodIn_r _ [6, 7, 1, 8, 9, 10, 11, 12, 13] (by decide +kernel) (by decide +kernel)
set_option maxRecDepth 20000 in
theorem gX2_asOf_X2_isReached : GoodIn wsX2_asOf (wsV RX2 32 RX2 yX2_isReached wsX2_isReached) := goodIn_app (goodIn_of _ (by decide +kernel)) ggX2_asOf_X2_isReached
set_option maxRecDepth 20000 in
theorem ggX3_count_X3_knownOn : GoodIn wsX3_count wsX3_knownOn := goodIn_r _ [8, 9, 10, 11, 12, 13, 14, 15, 16, 17, 18, 19] (by decide +kernel) (by decide +kernel)
set_option maxRecDepth 20000 in
theorem gX3_count_X3_knownOn : GoodIn wsX3_count (wsV RX3 35 RX3 yX3_knownOn wsX3_knownOn) := goodIn_app (goodIn_of _ (by decide +kernel)) ggX3_count_X3_knownOn
set_option maxRecDepth 20000 in
theorem ggX4_init_J7_fill_53178 : GoodIn wsX4_init wsJ7_fill_53178 := goodIn_r _ [11] (by decide +kernel) (by decide +kernel)
set_option maxRecDepth 20000 in
theorem gX4_init_J7_fill_53178 : GoodIn wsX4_init (va_wsS RX4 22 yJ7_fill_53178 wsJ7_fill_53178) := goodIn_app (goodIn_of _ (by decide +kernel)) ggX4_init_J7_fill_53178
set_option maxRecDepth 20000 in
theorem ggX4_hasPlaceLeft_X4_countOf : GoodIn wsX4_hasPlaceLeft wsX4_countOf := goodIn_r _ [5, 6, 13, 14, 15] (by decide +kernel) (by decide +kernel)
set_option maxRecDepth 20000 in
theorem gX4_hasPlaceLeft_X4_countOf : GoodIn wsX4_hasPlaceLeft (wsV RX4 28 RX4 yX4_countOf wsX4_countOf) := goodIn_app (goodIn_of _ (by decide +kernel)) ggX4_hasPlaceLeft_X4_countOf
set_option maxRecDepth 20000 in
theorem ggX4_leastOf_X0_elderPrefers : GoodIn wsX4_leastOf wsX0_elderPrefers := goodIn_r _ [5, 6, 7, 8, 3, 9, 10, 11, 12, 13, 14, 15] (by decide +kernel) (by decide +kernel)
set_option maxRecDepth 20000 in
theorem gX4_leastOf_X0_elderPrefers_n41 : GoodIn wsX4_leastOf (wsX0_elderPrefers) := ggX4_leastOf_X0_elderPrefers
set_option maxRecDepth 20000 in
theorem ggX4_makeBest_J7_fill_53178 : GoodIn wsX4_makeBest wsJ7_fill_53178 := goodIn_r _ [7] (by decide +kernel) (by decide +kernel)
set_option maxRecDepth 20000 in
theorem gX4_makeBest_J7_fill_53178 : GoodIn wsX4_makeBest (va_wsS RX4 22 yJ7_fill_53178 wsJ7_fill_53178) := goodIn_app (goodIn_of _ (by decide +kernel)) ggX4_makeBest_J7_fill_53178
set_option maxRecDepth 20000 in
theorem ggX4_makeBest_X4_seat : GoodIn wsX4_makeBest wsX4_seat := goodIn_r _ [12, 3, 13, 14, 15, 11, 16, 17, 18, 19, 20, 21, 22, 23, 24, 25, 26, 27, 28, 29, 30, 31, 32, 33, 2, 34, 35, 36, 37, 38, 39, 40, 41, 42, 43, 44, 45, 46, 47, 48, 53, 54, 55, 56, 57, 58, 59, 60, 61] (by decide +kernel) (by decide +kernel)
set_option maxRecDepth 20000 in
theorem gX4_makeBest_X4_seat : GoodIn wsX4_makeBest (wsV RX4 45 RX4 yX4_seat wsX4_seat) := goodIn_app (goodIn_of _ (by decide +kernel)) ggX4_makeBest_X4_seat
set_option maxRecDepth 20000 in
theorem ggX4_makeBest_X4_countPairs : GoodIn wsX4_makeBest wsX4_countPairs := goodIn_r _ [52, 2, 53, 54, 55] (by decide +kernel) (by decide +kernel)
set_option maxRecDepth 20000 in
theorem gX4_makeBest_X4_countPairs : GoodIn wsX4_makeBest (wsV RX4 49 RX4 yX4_countPairs wsX4_countPairs) := goodIn_app (goodIn_of _ (by decide +kernel)) ggX4_makeBest_X4_countPairs
set_option maxRecDepth 20000 in
theorem ggX4_seat_X4_nextChoice : GoodIn wsX4_seat wsX4_nextChoice := goodIn_r _ [6, 1, 7, 8, 9, 10, 11, 12, 13, 14, 15, 16, 17, 18, 19, 40, 41, 42, 43, 44, 45, 46, 47, 48] (by decide +kernel) (by decide +kernel)
set_option maxRecDepth 20000 in
theorem gX4_seat_X4_nextChoice : GoodIn wsX4_seat (wsV RX4 53 RX4 yX4_nextChoice wsX4_nextChoice) := goodIn_app (goodIn_of _ (by decide +kernel)) ggX4_seat_X4_nextChoice
set_option maxRecDepth 20000 in
theorem ggX4_seat_X4_askFor : GoodIn wsX4_seat wsX4_askFor := goodIn_r _ [23, 24, 25, 26, 27, 5, 28, 29, 30, 31, 32, 33, 34, 35, 36, 37, 8, 38, 39, 11, 14, 15, 16, 40, 41, 42, 43, 44, 45, 46, 47, 48] (by decide +kernel) (by decide +kernel)
set_option maxRecDepth 20000 in
theorem gX4_seat_X4_askFor : GoodIn wsX4_seat (wsV RX4 57 RX4 yX4_askFor wsX4_askFor) := goodIn_app (goodIn_of _ (by decide +kernel)) ggX4_seat_X4_askFor
set_option maxRecDepth 20000 in
theorem ggX4_nextChoice_X0_canPair : GoodIn wsX4_nextChoice wsX0_canPair := goodIn_r _ [5, 6, 7, 8, 9, 10, 3, 11, 18, 19, 20, 21, 22, 23] (by decide +kernel) (by decide +kernel)
set_option maxRecDepth 20000 in
theorem gX4_nextChoice_X0_canPair_n64 : GoodIn wsX4_nextChoice (wsX0_canPair) := ggX4_nextChoice_X0_canPair
set_option maxRecDepth 20000 in
theorem ggX4_nextChoice_X0_beginnerPrefers : GoodIn wsX4_nextChoice wsX0_beginnerPrefers := goodIn_r _ [14, 7, 9, 10, 3, 11, 18, 19, 20, 21, 22, 23] (by decide +kernel) (by decide +kernel)
set_option maxRecDepth 20000 in
theorem gX4_nextChoice_X0_beginnerPrefers_n68 : GoodIn wsX4_nextChoice (wsX0_beginnerPrefers) := ggX4_nextChoice_X0_beginnerPrefers
set_option maxRecDepth 20000 in
theorem ggX4_askFor_X4_hasPlaceLeft : GoodIn wsX4_askFor wsX4_hasPlaceLeft := goodIn_r _ [6, 7, 8, 9, 5, 10, 1, 26, 27, 28, 29, 30, 31, 23, 24, 25] (by decide +kernel) (by decide +kernel)
set_option maxRecDepth 20000 in
theorem gX4_askFor_X4_hasPlaceLeft : GoodIn wsX4_askFor (wsV RX4 71 RX4 yX4_hasPlaceLeft wsX4_hasPlaceLeft) := goodIn_app (goodIn_of _ (by decide +kernel)) ggX4_askFor_X4_hasPlaceLeft
set_option maxRecDepth 20000 in
theorem ggX4_askFor_X4_leastOf : GoodIn wsX4_askFor wsX4_leastOf := goodIn_r _ [14, 1, 15, 16, 17, 18, 19, 20, 21, 22, 26, 27, 28, 29, 30, 31, 23, 24, 25] (by decide +kernel) (by decide +kernel)
set_option maxRecDepth 20000 in
theorem gX4_askFor_X4_leastOf : GoodIn wsX4_askFor (wsV RX4 75 RX4 yX4_leastOf wsX4_leastOf) := goodIn_app (goodIn_of _ (by decide +kernel)) ggX4_askFor_X4_leastOf
set_option maxRecDepth 20000 in
theorem ggX4_askFor_X0_elderPrefers : GoodIn wsX4_askFor wsX0_elderPrefers := goodIn_r _ [18, 19, 20, 21, 16, 22, 26, 27, 28, 29, 30, 31] (by decide +kernel) (by decide +kernel)
set_option maxRecDepth 20000 in
theorem gX4_askFor_X0_elderPrefers_n41 : GoodIn wsX4_askFor (wsX0_elderPrefers) := ggX4_askFor_X0_elderPrefers
set_option maxRecDepth 20000 in
theorem ggX4_isBlockedBy_X0_canPair : GoodIn wsX4_isBlockedBy wsX0_canPair := goodIn_r _ [5, 6, 7, 8, 9, 10, 3, 11, 34, 35, 36, 37, 38, 39] (by decide +kernel) (by decide +kernel)
set_option maxRecDepth 20000 in
theorem gX4_isBlockedBy_X0_canPair_n64 : GoodIn wsX4_isBlockedBy (wsX0_canPair) := ggX4_isBlockedBy_X0_canPair
set_option maxRecDepth 20000 in
theorem ggX4_isBlockedBy_X0_beginnerPrefers : GoodIn wsX4_isBlockedBy wsX0_beginnerPrefers := goodIn_r _ [14, 7, 9, 10, 3, 11, 34, 35, 36, 37, 38, 39] (by decide +kernel) (by decide +kernel)
set_option maxRecDepth 20000 in
theorem gX4_isBlockedBy_X0_beginnerPrefers_n68 : GoodIn wsX4_isBlockedBy (wsX0_beginnerPrefers) := ggX4_isBlockedBy_X0_beginnerPrefers
set_option maxRecDepth 20000 in
theorem ggX4_isBlockedBy_X4_hasPlaceLeft : GoodIn wsX4_isBlockedBy wsX4_hasPlaceLeft := goodIn_r _ [19, 20, 21, 22, 18, 23, 1, 34, 35, 36, 37, 38, 39, 31, 32, 33] (by decide +kernel) (by decide +kernel)
set_option maxRecDepth 20000 in
theorem gX4_isBlockedBy_X4_hasPlaceLeft : GoodIn wsX4_isBlockedBy (wsV RX4 71 RX4 yX4_hasPlaceLeft wsX4_hasPlaceLeft) := goodIn_app (goodIn_of _ (by decide +kernel)) ggX4_isBlockedBy_X4_hasPlaceLeft
set_option maxRecDepth 20000 in
theorem ggX4_isBlockedBy_X4_leastOf : GoodIn wsX4_isBlockedBy wsX4_leastOf := goodIn_r _ [27, 1, 28, 3, 29, 30, 6, 9, 10, 11, 34, 35, 36, 37, 38, 39, 31, 32, 33] (by decide +kernel) (by decide +kernel)
set_option maxRecDepth 20000 in
theorem gX4_isBlockedBy_X4_leastOf : GoodIn wsX4_isBlockedBy (wsV RX4 75 RX4 yX4_leastOf wsX4_leastOf) := goodIn_app (goodIn_of _ (by decide +kernel)) ggX4_isBlockedBy_X4_leastOf
set_option maxRecDepth 20000 in
theorem ggX4_isBlockedBy_X0_elderPrefers : GoodIn wsX4_isBlockedBy wsX0_elderPrefers := goodIn_r _ [30, 6, 9, 10, 3, 11, 34, 35, 36, 37, 38, 39] (by decide +kernel) (by decide +kernel)
set_option maxRecDepth 20000 in
theorem gX4_isBlockedBy_X0_elderPrefers_n41 : GoodIn wsX4_isBlockedBy (wsX0_elderPrefers) := ggX4_isBlockedBy_X0_elderPrefers
set_option maxRecDepth 20000 in
theorem ggX4_countBlocking_X4_isBlockedBy : GoodIn wsX4_countBlocking wsX4_isBlockedBy := goodIn_r _ [5, 6, 7, 8, 9, 10, 11, 12, 13, 14, 15, 16, 17, 18, 19, 20, 21, 22, 4, 23, 24, 25, 26, 27, 28, 29, 30, 31, 32, 33, 34, 41, 42, 43, 35, 36, 37, 38, 39, 40] (by decide +kernel) (by decide +kernel)
set_option maxRecDepth 20000 in
theorem gX4_countBlocking_X4_isBlockedBy : GoodIn wsX4_countBlocking (wsV RX4 78 RX4 yX4_isBlockedBy wsX4_isBlockedBy) := goodIn_app (goodIn_of _ (by decide +kernel)) ggX4_countBlocking_X4_isBlockedBy
set_option maxRecDepth 20000 in
theorem ggX5_findLast_J7_fill_53178 : GoodIn wsX5_findLast wsJ7_fill_53178 := goodIn_r _ [9] (by decide +kernel) (by decide +kernel)
set_option maxRecDepth 20000 in
theorem gX5_findLast_J7_fill_53178 : GoodIn wsX5_findLast (va_wsS RX5 28 yJ7_fill_53178 wsJ7_fill_53178) := goodIn_app (goodIn_of _ (by decide +kernel)) ggX5_findLast_J7_fill_53178
set_option maxRecDepth 20000 in
theorem ggX5_findLast_X5_freeElderFor : GoodIn wsX5_findLast wsX5_freeElderFor := goodIn_r _ [14, 15, 16, 13, 17, 18, 19, 20, 21, 22, 23, 24, 25, 26, 27, 28, 29, 30, 31, 2, 32, 33, 34, 35, 36, 50, 51, 52, 53, 54, 55, 56, 57, 58, 45, 46, 47, 48, 49] (by decide +kernel) (by decide +kernel)
set_option maxRecDepth 20000 in
theorem gX5_findLast_X5_freeElderFor : GoodIn wsX5_findLast (wsV RX5 34 RX5 yX5_freeElderFor wsX5_freeElderFor) := goodIn_app (goodIn_of _ (by decide +kernel)) ggX5_findLast_X5_freeElderFor
set_option maxRecDepth 20000 in
theorem ggX5_findLast_X5_queueLeavers : GoodIn wsX5_findLast wsX5_queueLeavers := goodIn_r _ [40, 15, 16, 13, 17, 18, 19, 20, 21, 22, 23, 24, 25, 26, 27, 41, 42, 43, 44, 2, 1, 4, 3, 50, 51, 52, 53, 54, 55, 56, 57, 58, 45, 46, 47, 48, 49] (by decide +kernel) (by decide +kernel)
set_option maxRecDepth 20000 in
theorem gX5_findLast_X5_queueLeavers : GoodIn wsX5_findLast (wsV RX5 38 RX5 yX5_queueLeavers wsX5_queueLeavers) := goodIn_app (goodIn_of _ (by decide +kernel)) ggX5_findLast_X5_queueLeavers
set_option maxRecDepth 20000 in
theorem ggX5_mayMove_X0_canPair : GoodIn wsX5_mayMove wsX0_canPair := goodIn_r _ [4, 5, 6, 7, 8, 9, 2, 10, 14, 15, 16, 17, 18, 19] (by decide +kernel) (by decide +kernel)
set_option maxRecDepth 20000 in
theorem gX5_mayMove_X0_canPair_n47 : GoodIn wsX5_mayMove (wsX0_canPair) := ggX5_mayMove_X0_canPair
set_option maxRecDepth 20000 in
theorem ggX5_freeElderFor_X5_mayMove : GoodIn wsX5_freeElderFor wsX5_mayMove := goodIn_r _ [4, 5, 6, 7, 8, 9, 10, 11, 12, 13, 14, 31, 32, 33, 25, 26, 27, 28, 29, 30] (by decide +kernel) (by decide +kernel)
set_option maxRecDepth 20000 in
theorem gX5_freeElderFor_X5_mayMove : GoodIn wsX5_freeElderFor (va_wsS RX5 56 yX5_mayMove wsX5_mayMove) := goodIn_app (goodIn_of _ (by decide +kernel)) ggX5_freeElderFor_X5_mayMove
set_option maxRecDepth 20000 in
theorem ggX5_freeElderFor_X5_isFree : GoodIn wsX5_freeElderFor wsX5_isFree := goodIn_r _ [18, 19, 20, 21, 22, 23, 24, 31, 32, 33, 34, 35, 36, 37, 38, 25, 26, 27, 28, 29, 30] (by decide +kernel) (by decide +kernel)
set_option maxRecDepth 20000 in
theorem gX5_freeElderFor_X5_isFree : GoodIn wsX5_freeElderFor (wsV RX5 60 RX5 yX5_isFree wsX5_isFree) := goodIn_app (goodIn_of _ (by decide +kernel)) ggX5_freeElderFor_X5_isFree
set_option maxRecDepth 20000 in
theorem ggX5_isFree_X4_countOf : GoodIn wsX5_isFree wsX4_countOf := goodIn_r _ [5, 6, 7, 8, 9] (by decide +kernel) (by decide +kernel)
set_option maxRecDepth 20000 in
theorem gX5_isFree_X4_countOf_n64 : GoodIn wsX5_isFree (wsX4_countOf) := ggX5_isFree_X4_countOf
set_option maxRecDepth 20000 in
theorem ggX5_queueLeavers_X5_mayMove : GoodIn wsX5_queueLeavers wsX5_mayMove := goodIn_r _ [4, 5, 6, 7, 8, 9, 10, 11, 12, 13, 14, 29, 30, 31, 23, 24, 25, 26, 27, 28] (by decide +kernel) (by decide +kernel)
set_option maxRecDepth 20000 in
theorem gX5_queueLeavers_X5_mayMove : GoodIn wsX5_queueLeavers (va_wsS RX5 56 yX5_mayMove wsX5_mayMove) := goodIn_app (goodIn_of _ (by decide +kernel)) ggX5_queueLeavers_X5_mayMove
set_option maxRecDepth 20000 in
theorem ggX5_queueLeavers_X5_queueLeaversOf : GoodIn wsX5_queueLeavers wsX5_queueLeaversOf := goodIn_r _ [18, 19, 20, 21, 22, 23, 24, 25, 26, 27, 28, 32, 33, 34, 35, 36, 29, 30, 31] (by decide +kernel) (by decide +kernel)
set_option maxRecDepth 20000 in
theorem gX5_queueLeavers_X5_queueLeaversOf : GoodIn wsX5_queueLeavers (wsV RX5 71 RX5 yX5_queueLeaversOf wsX5_queueLeaversOf) := goodIn_app (goodIn_of _ (by decide +kernel)) ggX5_queueLeavers_X5_queueLeaversOf
set_option maxRecDepth 20000 in
theorem ggX6_shareBeyond_X6_countEnded : GoodIn wsX6_shareBeyond wsX6_countEnded := goodIn_r _ [5, 6, 7, 8, 26, 27, 28] (by decide +kernel) (by decide +kernel)
set_option maxRecDepth 20000 in
theorem gX6_shareBeyond_X6_countEnded : GoodIn wsX6_shareBeyond (wsV RX6 23 RX6 yX6_countEnded wsX6_countEnded) := goodIn_app (goodIn_of _ (by decide +kernel)) ggX6_shareBeyond_X6_countEnded
set_option maxRecDepth 20000 in
theorem ggX6_shareBeyond_X6_countAtRisk : GoodIn wsX6_shareBeyond wsX6_countAtRisk := goodIn_r _ [12, 6, 8, 26, 27, 28] (by decide +kernel) (by decide +kernel)
set_option maxRecDepth 20000 in
theorem gX6_shareBeyond_X6_countAtRisk : GoodIn wsX6_shareBeyond (wsV RX6 27 RX6 yX6_countAtRisk wsX6_countAtRisk) := goodIn_app (goodIn_of _ (by decide +kernel)) ggX6_shareBeyond_X6_countAtRisk
set_option maxRecDepth 20000 in
theorem ggX6_shareBeyond_X1_become : GoodIn wsX6_shareBeyond wsX1_become := goodIn_r _ [16, 17, 18, 19, 20, 21, 22, 23, 24, 14, 25, 29, 30] (by decide +kernel) (by decide +kernel)
set_option maxRecDepth 20000 in
theorem gX6_shareBeyond_X1_become_n30 : GoodIn wsX6_shareBeyond (wsX1_become) := ggX6_shareBeyond_X1_become
set_option maxRecDepth 20000 in
theorem ggX7_make_J7_fill_d0a16 : GoodIn wsX7_make wsJ7_fill_d0a16 := goodIn_r _ [8] (by decide +kernel) (by decide +kernel)
set_option maxRecDepth 20000 in
theorem gX7_make_J7_fill_d0a16 : GoodIn wsX7_make (va_wsS RX7 26 yJ7_fill_d0a16 wsJ7_fill_d0a16) := goodIn_app (goodIn_of _ (by decide +kernel)) ggX7_make_J7_fill_d0a16
set_option maxRecDepth 20000 in
theorem ggX7_put_X7_cut : GoodIn wsX7_put wsX7_cut := goodIn_r _ [6, 7, 8, 9, 10, 11] (by decide +kernel) (by decide +kernel)
set_option maxRecDepth 20000 in
theorem gX7_put_X7_cut : GoodIn wsX7_put (wsV RX7 32 RX7 yX7_cut wsX7_cut) := goodIn_app (goodIn_of _ (by decide +kernel)) ggX7_put_X7_cut
set_option maxRecDepth 20000 in
theorem ggX8_lay_X8_laySums : GoodIn wsX8_lay wsX8_laySums := goodIn_r _ [8, 1, 9, 10, 11, 12, 13, 14, 15, 16, 17, 18, 19, 20] (by decide +kernel) (by decide +kernel)
set_option maxRecDepth 20000 in
theorem gX8_lay_X8_laySums : GoodIn wsX8_lay (wsV RX8 20 RX8 yX8_laySums wsX8_laySums) := goodIn_app (goodIn_of _ (by decide +kernel)) ggX8_lay_X8_laySums
set_option maxRecDepth 20000 in
theorem ggX8_laySums_J6_numberOfTrailingZeros_0f7a4 : GoodIn wsX8_laySums wsJ6_numberOfTrailingZeros_0f7a4 := goodIn_r _ [5, 6] (by decide +kernel) (by decide +kernel)
set_option maxRecDepth 20000 in
theorem gX8_laySums_J6_numberOfTrailingZeros_0f7a4 : GoodIn wsX8_laySums (va_wsS RX8 24 yJ6_numberOfTrailingZeros_0f7a4 wsJ6_numberOfTrailingZeros_0f7a4) := goodIn_app (goodIn_of _ (by decide +kernel)) ggX8_laySums_J6_numberOfTrailingZeros_0f7a4
set_option maxRecDepth 20000 in
theorem ggX8_gainOf_J6_bitCount_0f7a4 : GoodIn wsX8_gainOf wsJ6_bitCount_0f7a4 := goodIn_r _ [5, 6, 7, 8] (by decide +kernel) (by decide +kernel)
set_option maxRecDepth 20000 in
theorem gX8_gainOf_J6_bitCount_0f7a4 : GoodIn wsX8_gainOf (va_wsS RX8 35 yJ6_bitCount_0f7a4 wsJ6_bitCount_0f7a4) := goodIn_app (goodIn_of _ (by decide +kernel)) ggX8_gainOf_J6_bitCount_0f7a4
set_option maxRecDepth 20000 in
theorem ggX8_gainOf_X8_sumOf : GoodIn wsX8_gainOf wsX8_sumOf := goodIn_r _ [13, 14, 15, 29, 30, 31] (by decide +kernel) (by decide +kernel)
set_option maxRecDepth 20000 in
theorem gX8_gainOf_X8_sumOf : GoodIn wsX8_gainOf (wsV RX8 38 RX8 yX8_sumOf wsX8_sumOf) := goodIn_app (goodIn_of _ (by decide +kernel)) ggX8_gainOf_X8_sumOf
set_option maxRecDepth 20000 in
theorem ggX8_gainOf_X1_become : GoodIn wsX8_gainOf wsX1_become := goodIn_r _ [19, 20, 21, 22, 23, 24, 25, 26, 27, 17, 28, 32, 33] (by decide +kernel) (by decide +kernel)
set_option maxRecDepth 20000 in
theorem gX8_gainOf_X1_become_n42 : GoodIn wsX8_gainOf (wsX1_become) := ggX8_gainOf_X1_become
set_option maxRecDepth 20000 in
theorem ggX8_chanceOf_J6_bitCount_0f7a4 : GoodIn wsX8_chanceOf wsJ6_bitCount_0f7a4 := goodIn_r _ [5, 6, 7, 8] (by decide +kernel) (by decide +kernel)
set_option maxRecDepth 20000 in
theorem gX8_chanceOf_J6_bitCount_0f7a4 : GoodIn wsX8_chanceOf (va_wsS RX8 35 yJ6_bitCount_0f7a4 wsJ6_bitCount_0f7a4) := goodIn_app (goodIn_of _ (by decide +kernel)) ggX8_chanceOf_J6_bitCount_0f7a4
set_option maxRecDepth 20000 in
theorem ggX8_chanceOf_X8_countSets : GoodIn wsX8_chanceOf wsX8_countSets := goodIn_r _ [12] (by decide +kernel) (by decide +kernel)
set_option maxRecDepth 20000 in
theorem gX8_chanceOf_X8_countSets : GoodIn wsX8_chanceOf (va_wsS RX8 48 yX8_countSets wsX8_countSets) := goodIn_app (goodIn_of _ (by decide +kernel)) ggX8_chanceOf_X8_countSets
set_option maxRecDepth 20000 in
theorem ggX8_chanceOf_X8_sumOf : GoodIn wsX8_chanceOf wsX8_sumOf := goodIn_r _ [16, 17, 18, 39, 40, 41] (by decide +kernel) (by decide +kernel)
set_option maxRecDepth 20000 in
theorem gX8_chanceOf_X8_sumOf : GoodIn wsX8_chanceOf (wsV RX8 38 RX8 yX8_sumOf wsX8_sumOf) := goodIn_app (goodIn_of _ (by decide +kernel)) ggX8_chanceOf_X8_sumOf
set_option maxRecDepth 20000 in
theorem ggX8_chanceOf_X8_nextOfSameSize : GoodIn wsX8_chanceOf wsX8_nextOfSameSize := goodIn_r _ [21, 22, 23, 4, 24, 25] (by decide +kernel) (by decide +kernel)
set_option maxRecDepth 20000 in
theorem gX8_chanceOf_X8_nextOfSameSize : GoodIn wsX8_chanceOf (va_wsS RX8 52 yX8_nextOfSameSize wsX8_nextOfSameSize) := goodIn_app (goodIn_of _ (by decide +kernel)) ggX8_chanceOf_X8_nextOfSameSize
set_option maxRecDepth 20000 in
theorem ggX8_chanceOf_X1_become : GoodIn wsX8_chanceOf wsX1_become := goodIn_r _ [29, 30, 31, 32, 33, 34, 35, 36, 37, 27, 38, 42, 43] (by decide +kernel) (by decide +kernel)
set_option maxRecDepth 20000 in
theorem gX8_chanceOf_X1_become_n42 : GoodIn wsX8_chanceOf (wsX1_become) := ggX8_chanceOf_X1_become
set_option maxRecDepth 20000 in
theorem ggX8_nextOfSameSize_J6_numberOfTrailingZeros_0f7a4 : GoodIn wsX8_nextOfSameSize wsJ6_numberOfTrailingZeros_0f7a4 := goodIn_r _ [4, 5] (by decide +kernel) (by decide +kernel)
set_option maxRecDepth 20000 in
theorem gX8_nextOfSameSize_J6_numberOfTrailingZeros_0f7a4 : GoodIn wsX8_nextOfSameSize (va_wsS RX8 24 yJ6_numberOfTrailingZeros_0f7a4 wsJ6_numberOfTrailingZeros_0f7a4) := goodIn_app (goodIn_of _ (by decide +kernel)) ggX8_nextOfSameSize_J6_numberOfTrailingZeros_0f7a4
set_option maxRecDepth 20000 in
theorem ggX9_init_X0_init : GoodIn wsX9_init wsX0_init := goodIn_r _ [42, 43, 2, 3, 44, 45, 46, 47, 48, 49, 50, 51, 123, 124, 125, 126, 127, 128] (by decide +kernel) (by decide +kernel)
set_option maxRecDepth 20000 in
theorem gX9_init_X0_init_n17 : GoodIn wsX9_init (wsX0_init) := ggX9_init_X0_init
set_option maxRecDepth 20000 in
theorem ggX9_init_X4_init : GoodIn wsX9_init wsX4_init := goodIn_r _ [53, 54, 2, 3, 44, 55, 56, 57, 58, 59, 60, 61, 129, 130, 131] (by decide +kernel) (by decide +kernel)
set_option maxRecDepth 20000 in
theorem gX9_init_X4_init_n24 : GoodIn wsX9_init (wsX4_init) := ggX9_init_X4_init
set_option maxRecDepth 20000 in
theorem ggX9_init_X5_init : GoodIn wsX9_init wsX5_init := goodIn_r _ [63, 64, 2, 3, 44, 65, 66, 67, 68, 69, 132, 133, 134, 135, 136] (by decide +kernel) (by decide +kernel)
set_option maxRecDepth 20000 in
theorem gX9_init_X5_init_n31 : GoodIn wsX9_init (wsX5_init) := ggX9_init_X5_init
set_option maxRecDepth 20000 in
theorem ggX9_init_X3_init : GoodIn wsX9_init wsX3_init := goodIn_r _ [71, 72, 2, 3, 44, 73, 74, 75, 76, 48, 77, 78, 79, 137, 138, 139, 140, 141, 142, 143] (by decide +kernel) (by decide +kernel)
set_option maxRecDepth 20000 in
theorem gX9_init_X3_init_n38 : GoodIn wsX9_init (wsX3_init) := ggX9_init_X3_init
set_option maxRecDepth 20000 in
theorem ggX9_init_X2_init : GoodIn wsX9_init wsX2_init := goodIn_r _ [81, 82, 2, 3, 44, 83, 84, 85, 86, 87, 144, 145, 146, 147, 148] (by decide +kernel) (by decide +kernel)
set_option maxRecDepth 20000 in
theorem gX9_init_X2_init_n45 : GoodIn wsX9_init (wsX2_init) := ggX9_init_X2_init
set_option maxRecDepth 20000 in
theorem ggX9_init_X6_init : GoodIn wsX9_init wsX6_init := goodIn_r _ [89, 90, 2, 3, 44, 91, 48, 92, 93, 149, 150, 151] (by decide +kernel) (by decide +kernel)
set_option maxRecDepth 20000 in
theorem gX9_init_X6_init_n52 : GoodIn wsX9_init (wsX6_init) := ggX9_init_X6_init
set_option maxRecDepth 20000 in
theorem ggX9_init_X8_init : GoodIn wsX9_init wsX8_init := goodIn_r _ [95, 96, 2, 3, 97, 98, 99, 100, 152, 153, 154] (by decide +kernel) (by decide +kernel)
set_option maxRecDepth 20000 in
theorem gX9_init_X8_init_n59 : GoodIn wsX9_init (wsX8_init) := ggX9_init_X8_init
set_option maxRecDepth 20000 in
theorem ggX9_init_X1_init : GoodIn wsX9_init wsX1_init := goodIn_r _ [102, 103, 2, 3, 104, 105, 155, 156] (by decide +kernel) (by decide +kernel)
set_option maxRecDepth 20000 in
theorem gX9_init_X1_init_n66 : GoodIn wsX9_init (wsX1_init) := ggX9_init_X1_init
set_option maxRecDepth 20000 in
theorem ggX9_init_X7_init : GoodIn wsX9_init wsX7_init := goodIn_r _ [107, 108, 2, 3, 97, 109, 110, 111, 112, 157, 158, 159, 160] (by decide +kernel) (by decide +kernel)
set_option maxRecDepth 20000 in
theorem gX9_init_X7_init_n75 : GoodIn wsX9_init (wsX7_init) := ggX9_init_X7_init
set_option maxRecDepth 20000 in
theorem ggX9_tray_X9_isTray : GoodIn wsX9_tray wsX9_isTray := goodIn_r _ [5] (by decide +kernel) (by decide +kernel)
set_option maxRecDepth 20000 in
theorem gX9_tray_X9_isTray : GoodIn wsX9_tray (va_wsS RX9 76 yX9_isTray wsX9_isTray) := goodIn_app (goodIn_of _ (by decide +kernel)) ggX9_tray_X9_isTray
set_option maxRecDepth 20000 in
theorem ggX9_tray_X9_finish : GoodIn wsX9_tray wsX9_finish := goodIn_r _ [9, 10, 23, 24, 25, 26, 27, 28, 29, 30, 31, 32] (by decide +kernel) (by decide +kernel)
set_option maxRecDepth 20000 in
theorem gX9_tray_X9_finish : GoodIn wsX9_tray (wsV RX9 80 RX9 yX9_finish wsX9_finish) := goodIn_app (goodIn_of _ (by decide +kernel)) ggX9_tray_X9_finish
set_option maxRecDepth 20000 in
theorem ggX9_tray_X7_make : GoodIn wsX9_tray wsX7_make := goodIn_r _ [14, 15, 16, 17, 18, 19, 20, 21, 22, 33, 34, 35, 36] (by decide +kernel) (by decide +kernel)
set_option maxRecDepth 20000 in
theorem gX9_tray_X7_make_n83 : GoodIn wsX9_tray (wsX7_make) := ggX9_tray_X7_make
set_option maxRecDepth 20000 in
theorem ggX9_write_X9_placeFault : GoodIn wsX9_write wsX9_placeFault := goodIn_r _ [6, 1, 7, 8, 9, 5, 10, 11, 12, 13, 14, 15, 16, 17, 18, 33, 34, 35, 36, 37, 38, 39, 40, 41, 42, 43, 44, 45, 46] (by decide +kernel) (by decide +kernel)
set_option maxRecDepth 20000 in
theorem gX9_write_X9_placeFault : GoodIn wsX9_write (wsV RX9 87 RX9 yX9_placeFault wsX9_placeFault) := goodIn_app (goodIn_of _ (by decide +kernel)) ggX9_write_X9_placeFault
set_option maxRecDepth 20000 in
theorem ggX9_write_X7_put : GoodIn wsX9_write wsX7_put := goodIn_r _ [21, 22, 23, 24, 25, 15, 26, 27, 43, 44, 45, 46] (by decide +kernel) (by decide +kernel)
set_option maxRecDepth 20000 in
theorem gX9_write_X7_put_n91 : GoodIn wsX9_write (wsX7_put) := ggX9_write_X7_put
set_option maxRecDepth 20000 in
theorem ggX9_write_X9_finish : GoodIn wsX9_write wsX9_finish := goodIn_r _ [31, 32, 33, 34, 35, 36, 37, 38, 39, 40, 41, 42] (by decide +kernel) (by decide +kernel)
set_option maxRecDepth 20000 in
theorem gX9_write_X9_finish : GoodIn wsX9_write (wsV RX9 80 RX9 yX9_finish wsX9_finish) := goodIn_app (goodIn_of _ (by decide +kernel)) ggX9_write_X9_finish
set_option maxRecDepth 20000 in
theorem ggX9_read_X9_placeFault : GoodIn wsX9_read wsX9_placeFault := goodIn_r _ [7, 1, 8, 9, 10, 6, 11, 12, 13, 14, 15, 16, 17, 18, 19, 25, 26, 27, 28, 29, 30, 31, 32, 33, 34, 35, 36, 37, 38] (by decide +kernel) (by decide +kernel)
set_option maxRecDepth 20000 in
theorem gX9_read_X9_placeFault : GoodIn wsX9_read (wsV RX9 87 RX9 yX9_placeFault wsX9_placeFault) := goodIn_app (goodIn_of _ (by decide +kernel)) ggX9_read_X9_placeFault
set_option maxRecDepth 20000 in
theorem ggX9_read_X9_finish : GoodIn wsX9_read wsX9_finish := goodIn_r _ [23, 24, 25, 26, 27, 28, 29, 30, 31, 32, 33, 34] (by decide +kernel) (by decide +kernel)
set_option maxRecDepth 20000 in
theorem gX9_read_X9_finish : GoodIn wsX9_read (wsV RX9 80 RX9 yX9_finish wsX9_finish) := goodIn_app (goodIn_of _ (by decide +kernel)) ggX9_read_X9_finish
set_option maxRecDepth 20000 in
theorem ggX9_pour_X9_pourFault : GoodIn wsX9_pour wsX9_pourFault := goodIn_r _ [10, 1, 11, 12, 9, 13, 14, 15, 16, 17, 18, 24, 25, 26, 27, 28, 29, 30, 31, 32, 33, 34, 35, 36, 37] (by decide +kernel) (by decide +kernel)
set_option maxRecDepth 20000 in
theorem gX9_pour_X9_pourFault : GoodIn wsX9_pour (wsV RX9 101 RX9 yX9_pourFault wsX9_pourFault) := goodIn_app (goodIn_of _ (by decide +kernel)) ggX9_pour_X9_pourFault
set_option maxRecDepth 20000 in
theorem ggX9_pour_X9_finish : GoodIn wsX9_pour wsX9_finish := goodIn_r _ [22, 23, 24, 25, 26, 27, 28, 29, 30, 31, 32, 33] (by decide +kernel) (by decide +kernel)
set_option maxRecDepth 20000 in
theorem gX9_pour_X9_finish : GoodIn wsX9_pour (wsV RX9 80 RX9 yX9_finish wsX9_finish) := goodIn_app (goodIn_of _ (by decide +kernel)) ggX9_pour_X9_finish
set_option maxRecDepth 20000 in
theorem ggX9_elder_X9_isPlaces : GoodIn wsX9_elder wsX9_isPlaces := goodIn_r _ [5] (by decide +kernel) (by decide +kernel)
set_option maxRecDepth 20000 in
theorem gX9_elder_X9_isPlaces : GoodIn wsX9_elder (va_wsS RX9 111 yX9_isPlaces wsX9_isPlaces) := goodIn_app (goodIn_of _ (by decide +kernel)) ggX9_elder_X9_isPlaces
set_option maxRecDepth 20000 in
theorem ggX9_elder_X9_refused : GoodIn wsX9_elder wsX9_refused := goodIn_r _ [9, 10, 21, 22, 23, 24, 25, 26, 27, 28, 29, 30] (by decide +kernel) (by decide +kernel)
set_option maxRecDepth 20000 in
theorem gX9_elder_X9_refused : GoodIn wsX9_elder (wsV RX9 114 RX9 yX9_refused wsX9_refused) := goodIn_app (goodIn_of _ (by decide +kernel)) ggX9_elder_X9_refused
set_option maxRecDepth 20000 in
theorem ggX9_elder_X0_addElder : GoodIn wsX9_elder wsX0_addElder := goodIn_r _ [14, 15, 16, 31, 32, 33, 34, 35, 36] (by decide +kernel) (by decide +kernel)
set_option maxRecDepth 20000 in
theorem gX9_elder_X0_addElder_n121 : GoodIn wsX9_elder (wsX0_addElder) := ggX9_elder_X0_addElder
set_option maxRecDepth 20000 in
theorem ggX9_elder_X9_answered : GoodIn wsX9_elder wsX9_answered := goodIn_r _ [20, 10, 21, 22, 23, 24, 25, 26, 27, 28, 29, 30] (by decide +kernel) (by decide +kernel)
set_option maxRecDepth 20000 in
theorem gX9_elder_X9_answered : GoodIn wsX9_elder (wsV RX9 124 RX9 yX9_answered wsX9_answered) := goodIn_app (goodIn_of _ (by decide +kernel)) ggX9_elder_X9_answered
set_option maxRecDepth 20000 in
theorem ggX9_beginner_X9_refused : GoodIn wsX9_beginner wsX9_refused := goodIn_r _ [6, 7, 17, 18, 19, 20, 21, 22, 23, 24, 25, 26] (by decide +kernel) (by decide +kernel)
set_option maxRecDepth 20000 in
theorem gX9_beginner_X9_refused : GoodIn wsX9_beginner (wsV RX9 114 RX9 yX9_refused wsX9_refused) := goodIn_app (goodIn_of _ (by decide +kernel)) ggX9_beginner_X9_refused
set_option maxRecDepth 20000 in
theorem ggX9_beginner_X0_addBeginner : GoodIn wsX9_beginner wsX0_addBeginner := goodIn_r _ [11, 12, 27, 28, 29, 30, 31, 32] (by decide +kernel) (by decide +kernel)
set_option maxRecDepth 20000 in
theorem gX9_beginner_X0_addBeginner_n130 : GoodIn wsX9_beginner (wsX0_addBeginner) := ggX9_beginner_X0_addBeginner
set_option maxRecDepth 20000 in
theorem ggX9_beginner_X9_answered : GoodIn wsX9_beginner wsX9_answered := goodIn_r _ [16, 7, 17, 18, 19, 20, 21, 22, 23, 24, 25, 26] (by decide +kernel) (by decide +kernel)
set_option maxRecDepth 20000 in
theorem gX9_beginner_X9_answered : GoodIn wsX9_beginner (wsV RX9 124 RX9 yX9_answered wsX9_answered) := goodIn_app (goodIn_of _ (by decide +kernel)) ggX9_beginner_X9_answered
set_option maxRecDepth 20000 in
theorem ggX9_places_X0_isElder : GoodIn wsX9_places wsX0_isElder := goodIn_r _ [5, 6, 26, 27, 28, 29, 30, 31] (by decide +kernel) (by decide +kernel)
set_option maxRecDepth 20000 in
theorem gX9_places_X0_isElder_n134 : GoodIn wsX9_places (wsX0_isElder) := ggX9_places_X0_isElder
set_option maxRecDepth 20000 in
theorem ggX9_places_X9_finish : GoodIn wsX9_places wsX9_finish := goodIn_r _ [11, 12, 16, 17, 18, 19, 20, 21, 22, 23, 24, 25] (by decide +kernel) (by decide +kernel)
set_option maxRecDepth 20000 in
theorem gX9_places_X9_finish : GoodIn wsX9_places (wsV RX9 80 RX9 yX9_finish wsX9_finish) := goodIn_app (goodIn_of _ (by decide +kernel)) ggX9_places_X9_finish
set_option maxRecDepth 20000 in
theorem ggX9_places_X9_isPlaces : GoodIn wsX9_places wsX9_isPlaces := goodIn_r _ [15] (by decide +kernel) (by decide +kernel)
set_option maxRecDepth 20000 in
theorem gX9_places_X9_isPlaces : GoodIn wsX9_places (va_wsS RX9 111 yX9_isPlaces wsX9_isPlaces) := goodIn_app (goodIn_of _ (by decide +kernel)) ggX9_places_X9_isPlaces
set_option maxRecDepth 20000 in
theorem ggX9_like_X0_areTwo : GoodIn wsX9_like wsX0_areTwo := goodIn_r _ [5, 6, 7, 8, 3, 9, 10, 11, 12, 13, 14, 15, 40, 41, 42, 43, 44, 45] (by decide +kernel) (by decide +kernel)
set_option maxRecDepth 20000 in
theorem gX9_like_X0_areTwo_n141 : GoodIn wsX9_like (wsX0_areTwo) := ggX9_like_X0_areTwo
set_option maxRecDepth 20000 in
theorem ggX9_like_X9_finish : GoodIn wsX9_like wsX9_finish := goodIn_r _ [20, 21, 30, 31, 32, 33, 34, 35, 36, 37, 38, 39] (by decide +kernel) (by decide +kernel)
set_option maxRecDepth 20000 in
theorem gX9_like_X9_finish : GoodIn wsX9_like (wsV RX9 80 RX9 yX9_finish wsX9_finish) := goodIn_app (goodIn_of _ (by decide +kernel)) ggX9_like_X9_finish
set_option maxRecDepth 20000 in
theorem ggX9_like_X0_setLiking : GoodIn wsX9_like wsX0_setLiking := goodIn_r _ [24, 25, 26, 27, 28, 3, 29, 40, 41, 42, 43, 44, 45] (by decide +kernel) (by decide +kernel)
set_option maxRecDepth 20000 in
theorem gX9_like_X0_setLiking_n145 : GoodIn wsX9_like (wsX0_setLiking) := ggX9_like_X0_setLiking
set_option maxRecDepth 20000 in
theorem ggX9_bar_X0_areTwo : GoodIn wsX9_bar wsX0_areTwo := goodIn_r _ [5, 6, 7, 8, 3, 9, 10, 11, 12, 13, 14, 15, 42, 43, 44, 45, 46, 47] (by decide +kernel) (by decide +kernel)
set_option maxRecDepth 20000 in
theorem gX9_bar_X0_areTwo_n141 : GoodIn wsX9_bar (wsX0_areTwo) := ggX9_bar_X0_areTwo
set_option maxRecDepth 20000 in
theorem ggX9_bar_X9_finish : GoodIn wsX9_bar wsX9_finish := goodIn_r _ [20, 21, 32, 33, 34, 35, 36, 37, 38, 39, 40, 41] (by decide +kernel) (by decide +kernel)
set_option maxRecDepth 20000 in
theorem gX9_bar_X9_finish : GoodIn wsX9_bar (wsV RX9 80 RX9 yX9_finish wsX9_finish) := goodIn_app (goodIn_of _ (by decide +kernel)) ggX9_bar_X9_finish
set_option maxRecDepth 20000 in
theorem ggX9_bar_X0_isBarred : GoodIn wsX9_bar wsX0_isBarred := goodIn_r _ [24, 25, 26, 27, 3, 28, 42, 43, 44, 45, 46, 47] (by decide +kernel) (by decide +kernel)
set_option maxRecDepth 20000 in
theorem gX9_bar_X0_isBarred_n149 : GoodIn wsX9_bar (wsX0_isBarred) := ggX9_bar_X0_isBarred
set_option maxRecDepth 20000 in
theorem ggX9_bar_X0_setBarred : GoodIn wsX9_bar wsX0_setBarred := goodIn_r _ [31, 25, 26, 27, 3, 28, 42, 43, 44, 45, 46, 47] (by decide +kernel) (by decide +kernel)
set_option maxRecDepth 20000 in
theorem gX9_bar_X0_setBarred_n152 : GoodIn wsX9_bar (wsX0_setBarred) := ggX9_bar_X0_setBarred
set_option maxRecDepth 20000 in
theorem ggX9_pair_X4_makeBest : GoodIn wsX9_pair wsX4_makeBest := goodIn_r _ [6, 7, 8, 9, 10, 11, 12, 13, 14, 15, 16, 4, 17, 18, 19, 20, 21, 22, 23, 24, 25, 26, 27, 28, 29, 30, 31, 32, 33, 34, 35, 36, 37, 38, 39, 40, 41, 42, 43, 44, 45, 46, 47, 48, 49, 50, 51, 52, 53, 54, 55, 56, 57, 74, 75, 76, 77, 78, 79, 80, 81, 82] (by decide +kernel) (by decide +kernel)
set_option maxRecDepth 20000 in
theorem gX9_pair_X4_makeBest_n156 : GoodIn wsX9_pair (wsX4_makeBest) := ggX9_pair_X4_makeBest
set_option maxRecDepth 20000 in
theorem ggX9_pair_X9_answered : GoodIn wsX9_pair wsX9_answered := goodIn_r _ [62, 63, 64, 65, 66, 67, 68, 69, 70, 71, 72, 73] (by decide +kernel) (by decide +kernel)
set_option maxRecDepth 20000 in
theorem gX9_pair_X9_answered : GoodIn wsX9_pair (wsV RX9 124 RX9 yX9_answered wsX9_answered) := goodIn_app (goodIn_of _ (by decide +kernel)) ggX9_pair_X9_answered
set_option maxRecDepth 20000 in
theorem ggX9_elderOf_X9_pairedFault : GoodIn wsX9_elderOf wsX9_pairedFault := goodIn_r _ [6, 7, 1, 8, 9, 10, 11, 12, 22, 23, 24, 25, 26, 27, 28, 29, 30, 31, 32, 33, 34, 35, 36, 37, 38, 39, 40] (by decide +kernel) (by decide +kernel)
set_option maxRecDepth 20000 in
theorem gX9_elderOf_X9_pairedFault : GoodIn wsX9_elderOf (wsV RX9 160 RX9 yX9_pairedFault wsX9_pairedFault) := goodIn_app (goodIn_of _ (by decide +kernel)) ggX9_elderOf_X9_pairedFault
set_option maxRecDepth 20000 in
theorem ggX9_elderOf_X9_answered : GoodIn wsX9_elderOf wsX9_answered := goodIn_r _ [16, 17, 22, 23, 24, 25, 26, 27, 28, 29, 30, 31] (by decide +kernel) (by decide +kernel)
set_option maxRecDepth 20000 in
theorem gX9_elderOf_X9_answered : GoodIn wsX9_elderOf (wsV RX9 124 RX9 yX9_answered wsX9_answered) := goodIn_app (goodIn_of _ (by decide +kernel)) ggX9_elderOf_X9_answered
set_option maxRecDepth 20000 in
theorem ggX9_elderOf_X9_refused : GoodIn wsX9_elderOf wsX9_refused := goodIn_r _ [21, 17, 22, 23, 24, 25, 26, 27, 28, 29, 30, 31] (by decide +kernel) (by decide +kernel)
set_option maxRecDepth 20000 in
theorem gX9_elderOf_X9_refused : GoodIn wsX9_elderOf (wsV RX9 114 RX9 yX9_refused wsX9_refused) := goodIn_app (goodIn_of _ (by decide +kernel)) ggX9_elderOf_X9_refused
set_option maxRecDepth 20000 in
theorem ggX9_has_X0_isElder : GoodIn wsX9_has wsX0_isElder := goodIn_r _ [6, 7, 36, 37, 38, 39, 40, 41] (by decide +kernel) (by decide +kernel)
set_option maxRecDepth 20000 in
theorem gX9_has_X0_isElder_n134 : GoodIn wsX9_has (wsX0_isElder) := ggX9_has_X0_isElder
set_option maxRecDepth 20000 in
theorem ggX9_has_X9_refused : GoodIn wsX9_has wsX9_refused := goodIn_r _ [12, 13, 23, 24, 25, 26, 27, 28, 29, 30, 31, 32] (by decide +kernel) (by decide +kernel)
set_option maxRecDepth 20000 in
theorem gX9_has_X9_refused : GoodIn wsX9_has (wsV RX9 114 RX9 yX9_refused wsX9_refused) := goodIn_app (goodIn_of _ (by decide +kernel)) ggX9_has_X9_refused
set_option maxRecDepth 20000 in
theorem ggX9_has_X4_countOf : GoodIn wsX9_has wsX4_countOf := goodIn_r _ [17, 18, 33, 34, 35] (by decide +kernel) (by decide +kernel)
set_option maxRecDepth 20000 in
theorem gX9_has_X4_countOf_n170 : GoodIn wsX9_has (wsX4_countOf) := ggX9_has_X4_countOf
set_option maxRecDepth 20000 in
theorem ggX9_has_X9_answered : GoodIn wsX9_has wsX9_answered := goodIn_r _ [22, 13, 23, 24, 25, 26, 27, 28, 29, 30, 31, 32] (by decide +kernel) (by decide +kernel)
set_option maxRecDepth 20000 in
theorem gX9_has_X9_answered : GoodIn wsX9_has (wsV RX9 124 RX9 yX9_answered wsX9_answered) := goodIn_app (goodIn_of _ (by decide +kernel)) ggX9_has_X9_answered
set_option maxRecDepth 20000 in
theorem ggX9_blocks_X9_refused : GoodIn wsX9_blocks wsX9_refused := goodIn_r _ [7, 8, 50, 51, 52, 53, 54, 55, 56, 57, 58, 59] (by decide +kernel) (by decide +kernel)
set_option maxRecDepth 20000 in
theorem gX9_blocks_X9_refused : GoodIn wsX9_blocks (wsV RX9 114 RX9 yX9_refused wsX9_refused) := goodIn_app (goodIn_of _ (by decide +kernel)) ggX9_blocks_X9_refused
set_option maxRecDepth 20000 in
theorem ggX9_blocks_X4_countBlocking : GoodIn wsX9_blocks wsX4_countBlocking := goodIn_r _ [12, 13, 14, 15, 10, 16, 17, 18, 19, 20, 21, 22, 23, 24, 25, 26, 27, 28, 29, 30, 31, 32, 33, 34, 35, 36, 37, 38, 39, 40, 41, 42, 43, 44, 45, 63, 64, 65, 66, 67, 68, 60, 61, 62] (by decide +kernel) (by decide +kernel)
set_option maxRecDepth 20000 in
theorem gX9_blocks_X4_countBlocking_n173 : GoodIn wsX9_blocks (wsX4_countBlocking) := ggX9_blocks_X4_countBlocking
set_option maxRecDepth 20000 in
theorem ggX9_blocks_X9_answered : GoodIn wsX9_blocks wsX9_answered := goodIn_r _ [49, 8, 50, 51, 52, 53, 54, 55, 56, 57, 58, 59] (by decide +kernel) (by decide +kernel)
set_option maxRecDepth 20000 in
theorem gX9_blocks_X9_answered : GoodIn wsX9_blocks (wsV RX9 124 RX9 yX9_answered wsX9_answered) := goodIn_app (goodIn_of _ (by decide +kernel)) ggX9_blocks_X9_answered
set_option maxRecDepth 20000 in
theorem ggX9_block_X0_areTwo : GoodIn wsX9_block wsX0_areTwo := goodIn_r _ [6, 7, 8, 9, 4, 10, 11, 12, 13, 14, 15, 16, 72, 73, 74, 75, 76, 77] (by decide +kernel) (by decide +kernel)
set_option maxRecDepth 20000 in
theorem gX9_block_X0_areTwo_n141 : GoodIn wsX9_block (wsX0_areTwo) := ggX9_block_X0_areTwo
set_option maxRecDepth 20000 in
theorem ggX9_block_X9_refused : GoodIn wsX9_block wsX9_refused := goodIn_r _ [21, 22, 59, 60, 61, 62, 63, 64, 65, 66, 67, 68] (by decide +kernel) (by decide +kernel)
set_option maxRecDepth 20000 in
theorem gX9_block_X9_refused : GoodIn wsX9_block (wsV RX9 114 RX9 yX9_refused wsX9_refused) := goodIn_app (goodIn_of _ (by decide +kernel)) ggX9_block_X9_refused
set_option maxRecDepth 20000 in
theorem ggX9_block_X4_isBlockedBy : GoodIn wsX9_block wsX4_isBlockedBy := goodIn_r _ [26, 27, 28, 4, 29, 30, 31, 32, 33, 34, 35, 36, 37, 38, 39, 40, 41, 42, 24, 43, 44, 45, 46, 47, 48, 49, 50, 51, 52, 53, 54, 69, 70, 71, 72, 73, 74, 75, 76, 77] (by decide +kernel) (by decide +kernel)
set_option maxRecDepth 20000 in
theorem gX9_block_X4_isBlockedBy_n176 : GoodIn wsX9_block (wsX4_isBlockedBy) := ggX9_block_X4_isBlockedBy
set_option maxRecDepth 20000 in
theorem ggX9_block_X9_answered : GoodIn wsX9_block wsX9_answered := goodIn_r _ [58, 22, 59, 60, 61, 62, 63, 64, 65, 66, 67, 68] (by decide +kernel) (by decide +kernel)
set_option maxRecDepth 20000 in
theorem gX9_block_X9_answered : GoodIn wsX9_block (wsV RX9 124 RX9 yX9_answered wsX9_answered) := goodIn_app (goodIn_of _ (by decide +kernel)) ggX9_block_X9_answered
set_option maxRecDepth 20000 in
theorem ggX9_change_X9_pairedFault : GoodIn wsX9_change wsX9_pairedFault := goodIn_r _ [8, 3, 1, 9, 10, 11, 12, 13, 75, 76, 77, 78, 79, 80, 81, 82, 83, 84, 85, 86, 87, 88, 89, 90, 91, 92, 93] (by decide +kernel) (by decide +kernel)
set_option maxRecDepth 20000 in
theorem gX9_change_X9_pairedFault : GoodIn wsX9_change (wsV RX9 160 RX9 yX9_pairedFault wsX9_pairedFault) := goodIn_app (goodIn_of _ (by decide +kernel)) ggX9_change_X9_pairedFault
set_option maxRecDepth 20000 in
theorem ggX9_change_X9_refused : GoodIn wsX9_change wsX9_refused := goodIn_r _ [17, 18, 75, 76, 77, 78, 79, 80, 81, 82, 83, 84] (by decide +kernel) (by decide +kernel)
set_option maxRecDepth 20000 in
theorem gX9_change_X9_refused : GoodIn wsX9_change (wsV RX9 114 RX9 yX9_refused wsX9_refused) := goodIn_app (goodIn_of _ (by decide +kernel)) ggX9_change_X9_refused
set_option maxRecDepth 20000 in
theorem ggX9_change_X5_findLast : GoodIn wsX9_change wsX5_findLast := goodIn_r _ [22, 23, 24, 25, 26, 27, 28, 29, 30, 31, 32, 33, 34, 20, 35, 36, 37, 38, 39, 10, 40, 41, 42, 43, 44, 45, 46, 47, 48, 49, 50, 51, 52, 53, 54, 55, 56, 57, 58, 59, 60, 61, 62, 63, 64, 94, 95, 96, 97, 98, 88, 89, 90, 91, 92, 93, 85, 86, 87] (by decide +kernel) (by decide +kernel)
set_option maxRecDepth 20000 in
theorem gX9_change_X5_findLast_n180 : GoodIn wsX9_change (wsX5_findLast) := ggX9_change_X5_findLast
set_option maxRecDepth 20000 in
theorem ggX9_change_X0_setBarred : GoodIn wsX9_change wsX0_setBarred := goodIn_r _ [67, 44, 45, 46, 10, 47, 88, 89, 90, 91, 92, 93] (by decide +kernel) (by decide +kernel)
set_option maxRecDepth 20000 in
theorem gX9_change_X0_setBarred_n152 : GoodIn wsX9_change (wsX0_setBarred) := ggX9_change_X0_setBarred
set_option maxRecDepth 20000 in
theorem ggX9_change_X5_moveAll : GoodIn wsX9_change wsX5_moveAll := goodIn_r _ [70, 27, 23, 94, 95, 96, 97, 98, 85, 86, 87] (by decide +kernel) (by decide +kernel)
set_option maxRecDepth 20000 in
theorem gX9_change_X5_moveAll_n184 : GoodIn wsX9_change (wsX5_moveAll) := ggX9_change_X5_moveAll
set_option maxRecDepth 20000 in
theorem ggX9_change_X9_answered : GoodIn wsX9_change wsX9_answered := goodIn_r _ [74, 18, 75, 76, 77, 78, 79, 80, 81, 82, 83, 84] (by decide +kernel) (by decide +kernel)
set_option maxRecDepth 20000 in
theorem gX9_change_X9_answered : GoodIn wsX9_change (wsV RX9 124 RX9 yX9_answered wsX9_answered) := goodIn_app (goodIn_of _ (by decide +kernel)) ggX9_change_X9_answered
set_option maxRecDepth 20000 in
theorem ggX9_meeting_X0_isBeginner : GoodIn wsX9_meeting wsX0_isBeginner := goodIn_r _ [6, 7, 45, 46, 47, 48, 49, 50] (by decide +kernel) (by decide +kernel)
set_option maxRecDepth 20000 in
theorem gX9_meeting_X0_isBeginner_n188 : GoodIn wsX9_meeting (wsX0_isBeginner) := ggX9_meeting_X0_isBeginner
set_option maxRecDepth 20000 in
theorem ggX9_meeting_X9_refused : GoodIn wsX9_meeting wsX9_refused := goodIn_r _ [12, 13, 28, 29, 30, 31, 32, 33, 34, 35, 36, 37] (by decide +kernel) (by decide +kernel)
set_option maxRecDepth 20000 in
theorem gX9_meeting_X9_refused : GoodIn wsX9_meeting (wsV RX9 114 RX9 yX9_refused wsX9_refused) := goodIn_app (goodIn_of _ (by decide +kernel)) ggX9_meeting_X9_refused
set_option maxRecDepth 20000 in
theorem ggX9_meeting_X9_isDay : GoodIn wsX9_meeting wsX9_isDay := goodIn_r _ [16] (by decide +kernel) (by decide +kernel)
set_option maxRecDepth 20000 in
theorem gX9_meeting_X9_isDay : GoodIn wsX9_meeting (va_wsS RX9 191 yX9_isDay wsX9_isDay) := goodIn_app (goodIn_of _ (by decide +kernel)) ggX9_meeting_X9_isDay
set_option maxRecDepth 20000 in
theorem ggX9_meeting_X3_add : GoodIn wsX9_meeting wsX3_add := goodIn_r _ [20, 21, 22, 23, 38, 39, 40, 41, 42, 43, 44] (by decide +kernel) (by decide +kernel)
set_option maxRecDepth 20000 in
theorem gX9_meeting_X3_add_n197 : GoodIn wsX9_meeting (wsX3_add) := ggX9_meeting_X3_add
set_option maxRecDepth 20000 in
theorem ggX9_meeting_X9_answered : GoodIn wsX9_meeting wsX9_answered := goodIn_r _ [27, 13, 28, 29, 30, 31, 32, 33, 34, 35, 36, 37] (by decide +kernel) (by decide +kernel)
set_option maxRecDepth 20000 in
theorem gX9_meeting_X9_answered : GoodIn wsX9_meeting (wsV RX9 124 RX9 yX9_answered wsX9_answered) := goodIn_app (goodIn_of _ (by decide +kernel)) ggX9_meeting_X9_answered
set_option maxRecDepth 20000 in
theorem ggX9_tell_X3_isMeeting : GoodIn wsX9_tell wsX3_isMeeting := goodIn_r _ [5, 6, 33, 34, 35, 36, 37, 38, 39] (by decide +kernel) (by decide +kernel)
set_option maxRecDepth 20000 in
theorem gX9_tell_X3_isMeeting_n200 : GoodIn wsX9_tell (wsX3_isMeeting) := ggX9_tell_X3_isMeeting
set_option maxRecDepth 20000 in
theorem ggX9_tell_X9_finish : GoodIn wsX9_tell wsX9_finish := goodIn_r _ [11, 12, 23, 24, 25, 26, 27, 28, 29, 30, 31, 32] (by decide +kernel) (by decide +kernel)
set_option maxRecDepth 20000 in
theorem gX9_tell_X9_finish : GoodIn wsX9_tell (wsV RX9 80 RX9 yX9_finish wsX9_finish) := goodIn_app (goodIn_of _ (by decide +kernel)) ggX9_tell_X9_finish
set_option maxRecDepth 20000 in
theorem ggX9_tell_X9_isDay : GoodIn wsX9_tell wsX9_isDay := goodIn_r _ [15] (by decide +kernel) (by decide +kernel)
set_option maxRecDepth 20000 in
theorem gX9_tell_X9_isDay : GoodIn wsX9_tell (va_wsS RX9 191 yX9_isDay wsX9_isDay) := goodIn_app (goodIn_of _ (by decide +kernel)) ggX9_tell_X9_isDay
set_option maxRecDepth 20000 in
theorem ggX9_tell_X3_addTelling : GoodIn wsX9_tell wsX3_addTelling := goodIn_r _ [18, 19, 20, 21, 22, 33, 34, 35, 36, 37, 38, 39] (by decide +kernel) (by decide +kernel)
set_option maxRecDepth 20000 in
theorem gX9_tell_X3_addTelling_n209 : GoodIn wsX9_tell (wsX3_addTelling) := ggX9_tell_X3_addTelling
set_option maxRecDepth 20000 in
theorem ggX9_met_X0_isBeginner : GoodIn wsX9_met wsX0_isBeginner := goodIn_r _ [6, 7, 46, 47, 48, 49, 50, 51] (by decide +kernel) (by decide +kernel)
set_option maxRecDepth 20000 in
theorem gX9_met_X0_isBeginner_n188 : GoodIn wsX9_met (wsX0_isBeginner) := ggX9_met_X0_isBeginner
set_option maxRecDepth 20000 in
theorem ggX9_met_X9_refused : GoodIn wsX9_met wsX9_refused := goodIn_r _ [12, 13, 36, 37, 38, 39, 40, 41, 42, 43, 44, 45] (by decide +kernel) (by decide +kernel)
set_option maxRecDepth 20000 in
theorem gX9_met_X9_refused : GoodIn wsX9_met (wsV RX9 114 RX9 yX9_refused wsX9_refused) := goodIn_app (goodIn_of _ (by decide +kernel)) ggX9_met_X9_refused
set_option maxRecDepth 20000 in
theorem ggX9_met_X9_isDay : GoodIn wsX9_met wsX9_isDay := goodIn_r _ [16] (by decide +kernel) (by decide +kernel)
set_option maxRecDepth 20000 in
theorem gX9_met_X9_isDay : GoodIn wsX9_met (va_wsS RX9 191 yX9_isDay wsX9_isDay) := goodIn_app (goodIn_of _ (by decide +kernel)) ggX9_met_X9_isDay
set_option maxRecDepth 20000 in
theorem ggX9_met_X3_count : GoodIn wsX9_met wsX3_count := goodIn_r _ [20, 21, 22, 23, 24, 25, 26, 18, 27, 28, 29, 30, 31, 52, 53, 54, 55, 56, 57, 58] (by decide +kernel) (by decide +kernel)
set_option maxRecDepth 20000 in
theorem gX9_met_X3_count_n213 : GoodIn wsX9_met (wsX3_count) := ggX9_met_X3_count
set_option maxRecDepth 20000 in
theorem ggX9_met_X9_answered : GoodIn wsX9_met wsX9_answered := goodIn_r _ [35, 13, 36, 37, 38, 39, 40, 41, 42, 43, 44, 45] (by decide +kernel) (by decide +kernel)
set_option maxRecDepth 20000 in
theorem gX9_met_X9_answered : GoodIn wsX9_met (wsV RX9 124 RX9 yX9_answered wsX9_answered) := goodIn_app (goodIn_of _ (by decide +kernel)) ggX9_met_X9_answered
set_option maxRecDepth 20000 in
theorem ggX9_goal_X0_isBeginner : GoodIn wsX9_goal wsX0_isBeginner := goodIn_r _ [6, 7, 52, 53, 54, 55, 56, 57] (by decide +kernel) (by decide +kernel)
set_option maxRecDepth 20000 in
theorem gX9_goal_X0_isBeginner_n188 : GoodIn wsX9_goal (wsX0_isBeginner) := ggX9_goal_X0_isBeginner
set_option maxRecDepth 20000 in
theorem ggX9_goal_X9_refused : GoodIn wsX9_goal wsX9_refused := goodIn_r _ [12, 13, 37, 38, 39, 40, 41, 42, 43, 44, 45, 46] (by decide +kernel) (by decide +kernel)
set_option maxRecDepth 20000 in
theorem gX9_goal_X9_refused : GoodIn wsX9_goal (wsV RX9 114 RX9 yX9_refused wsX9_refused) := goodIn_app (goodIn_of _ (by decide +kernel)) ggX9_goal_X9_refused
set_option maxRecDepth 20000 in
theorem ggX9_goal_X2_isGoalOf : GoodIn wsX9_goal wsX2_isGoalOf := goodIn_r _ [17, 18, 19, 20, 21, 15, 22, 23, 47, 48, 49, 50, 51] (by decide +kernel) (by decide +kernel)
set_option maxRecDepth 20000 in
theorem gX9_goal_X2_isGoalOf_n217 : GoodIn wsX9_goal (wsX2_isGoalOf) := ggX9_goal_X2_isGoalOf
set_option maxRecDepth 20000 in
theorem ggX9_goal_X9_isDay : GoodIn wsX9_goal wsX9_isDay := goodIn_r _ [26] (by decide +kernel) (by decide +kernel)
set_option maxRecDepth 20000 in
theorem gX9_goal_X9_isDay : GoodIn wsX9_goal (va_wsS RX9 191 yX9_isDay wsX9_isDay) := goodIn_app (goodIn_of _ (by decide +kernel)) ggX9_goal_X9_isDay
set_option maxRecDepth 20000 in
theorem ggX9_goal_X2_add : GoodIn wsX9_goal wsX2_add := goodIn_r _ [29, 18, 23, 30, 31, 32, 47, 48, 49, 50, 51] (by decide +kernel) (by decide +kernel)
set_option maxRecDepth 20000 in
theorem gX9_goal_X2_add_n221 : GoodIn wsX9_goal (wsX2_add) := ggX9_goal_X2_add
set_option maxRecDepth 20000 in
theorem ggX9_goal_X9_answered : GoodIn wsX9_goal wsX9_answered := goodIn_r _ [36, 13, 37, 38, 39, 40, 41, 42, 43, 44, 45, 46] (by decide +kernel) (by decide +kernel)
set_option maxRecDepth 20000 in
theorem gX9_goal_X9_answered : GoodIn wsX9_goal (wsV RX9 124 RX9 yX9_answered wsX9_answered) := goodIn_app (goodIn_of _ (by decide +kernel)) ggX9_goal_X9_answered
set_option maxRecDepth 20000 in
theorem ggX9_confirm_X2_isGoal : GoodIn wsX9_confirm wsX2_isGoal := goodIn_r _ [5, 6, 26, 27, 28, 29, 30] (by decide +kernel) (by decide +kernel)
set_option maxRecDepth 20000 in
theorem gX9_confirm_X2_isGoal_n223 : GoodIn wsX9_confirm (wsX2_isGoal) := ggX9_confirm_X2_isGoal
set_option maxRecDepth 20000 in
theorem ggX9_confirm_X9_finish : GoodIn wsX9_confirm wsX9_finish := goodIn_r _ [11, 12, 16, 17, 18, 19, 20, 21, 22, 23, 24, 25] (by decide +kernel) (by decide +kernel)
set_option maxRecDepth 20000 in
theorem gX9_confirm_X9_finish : GoodIn wsX9_confirm (wsV RX9 80 RX9 yX9_finish wsX9_finish) := goodIn_app (goodIn_of _ (by decide +kernel)) ggX9_confirm_X9_finish
set_option maxRecDepth 20000 in
theorem ggX9_confirm_X9_isDay : GoodIn wsX9_confirm wsX9_isDay := goodIn_r _ [15] (by decide +kernel) (by decide +kernel)
set_option maxRecDepth 20000 in
theorem gX9_confirm_X9_isDay : GoodIn wsX9_confirm (va_wsS RX9 191 yX9_isDay wsX9_isDay) := goodIn_app (goodIn_of _ (by decide +kernel)) ggX9_confirm_X9_isDay
set_option maxRecDepth 20000 in
theorem ggX9_goalAt_X2_isGoal : GoodIn wsX9_goalAt wsX2_isGoal := goodIn_r _ [5, 6, 40, 41, 42, 43, 44] (by decide +kernel) (by decide +kernel)
set_option maxRecDepth 20000 in
theorem gX9_goalAt_X2_isGoal_n223 : GoodIn wsX9_goalAt (wsX2_isGoal) := ggX9_goalAt_X2_isGoal
set_option maxRecDepth 20000 in
theorem ggX9_goalAt_X9_refused : GoodIn wsX9_goalAt wsX9_refused := goodIn_r _ [11, 12, 30, 31, 32, 33, 34, 35, 36, 37, 38, 39] (by decide +kernel) (by decide +kernel)
set_option maxRecDepth 20000 in
theorem gX9_goalAt_X9_refused : GoodIn wsX9_goalAt (wsV RX9 114 RX9 yX9_refused wsX9_refused) := goodIn_app (goodIn_of _ (by decide +kernel)) ggX9_goalAt_X9_refused
set_option maxRecDepth 20000 in
theorem ggX9_goalAt_X9_isDay : GoodIn wsX9_goalAt wsX9_isDay := goodIn_r _ [15] (by decide +kernel) (by decide +kernel)
set_option maxRecDepth 20000 in
theorem gX9_goalAt_X9_isDay : GoodIn wsX9_goalAt (va_wsS RX9 191 yX9_isDay wsX9_isDay) := goodIn_app (goodIn_of _ (by decide +kernel)) ggX9_goalAt_X9_isDay
set_option maxRecDepth 20000 in
theorem ggX9_goalAt_X2_asOf : GoodIn wsX9_goalAt wsX2_asOf := goodIn_r _ [18, 19, 20, 21, 22, 3, 23, 24, 25, 40, 41, 42, 43, 44] (by decide +kernel) (by decide +kernel)
set_option maxRecDepth 20000 in
theorem gX9_goalAt_X2_asOf_n229 : GoodIn wsX9_goalAt (wsX2_asOf) := ggX9_goalAt_X2_asOf
set_option maxRecDepth 20000 in
theorem ggX9_goalAt_X9_answered : GoodIn wsX9_goalAt wsX9_answered := goodIn_r _ [29, 12, 30, 31, 32, 33, 34, 35, 36, 37, 38, 39] (by decide +kernel) (by decide +kernel)
set_option maxRecDepth 20000 in
theorem gX9_goalAt_X9_answered : GoodIn wsX9_goalAt (wsV RX9 124 RX9 yX9_answered wsX9_answered) := goodIn_app (goodIn_of _ (by decide +kernel)) ggX9_goalAt_X9_answered
set_option maxRecDepth 20000 in
theorem ggX9_run_X9_finish : GoodIn wsX9_run wsX9_finish := goodIn_r _ [6, 7, 15, 16, 17, 18, 19, 20, 21, 22, 23, 24] (by decide +kernel) (by decide +kernel)
set_option maxRecDepth 20000 in
theorem gX9_run_X9_finish : GoodIn wsX9_run (wsV RX9 80 RX9 yX9_finish wsX9_finish) := goodIn_app (goodIn_of _ (by decide +kernel)) ggX9_run_X9_finish
set_option maxRecDepth 20000 in
theorem ggX9_run_X6_add : GoodIn wsX9_run wsX6_add := goodIn_r _ [11, 12, 13, 14, 25, 26, 27] (by decide +kernel) (by decide +kernel)
set_option maxRecDepth 20000 in
theorem gX9_run_X6_add_n233 : GoodIn wsX9_run (wsX6_add) := ggX9_run_X6_add
set_option maxRecDepth 20000 in
theorem ggX9_clear_X9_finish : GoodIn wsX9_clear wsX9_finish := goodIn_r _ [6, 7, 8, 9, 10, 11, 12, 13, 14, 15, 16, 17] (by decide +kernel) (by decide +kernel)
set_option maxRecDepth 20000 in
theorem gX9_clear_X9_finish : GoodIn wsX9_clear (wsV RX9 80 RX9 yX9_finish wsX9_finish) := goodIn_app (goodIn_of _ (by decide +kernel)) ggX9_clear_X9_finish
set_option maxRecDepth 20000 in
theorem ggX9_lasts_X9_finish : GoodIn wsX9_lasts wsX9_finish := goodIn_r _ [7, 8, 37, 38, 39, 40, 41, 42, 43, 44, 45, 46] (by decide +kernel) (by decide +kernel)
set_option maxRecDepth 20000 in
theorem gX9_lasts_X9_finish : GoodIn wsX9_lasts (wsV RX9 80 RX9 yX9_finish wsX9_finish) := goodIn_app (goodIn_of _ (by decide +kernel)) ggX9_lasts_X9_finish
set_option maxRecDepth 20000 in
theorem ggX9_lasts_X6_shareBeyond : GoodIn wsX9_lasts wsX6_shareBeyond := goodIn_r _ [12, 13, 14, 15, 10, 16, 17, 18, 19, 20, 21, 22, 23, 24, 25, 26, 27, 28, 29, 30, 31, 32, 33, 34, 35, 36, 47, 48, 49, 50, 51] (by decide +kernel) (by decide +kernel)
set_option maxRecDepth 20000 in
theorem gX9_lasts_X6_shareBeyond_n236 : GoodIn wsX9_lasts (wsX6_shareBeyond) := ggX9_lasts_X6_shareBeyond
set_option maxRecDepth 20000 in
theorem ggX9_gain_X9_trialFault : GoodIn wsX9_gain wsX9_trialFault := goodIn_r _ [8, 2, 9, 10, 11, 7, 12, 13, 14, 15, 16, 17, 18, 19, 20, 21, 22, 23, 24, 25, 73, 74, 75, 76, 77, 78, 79, 80, 81, 82, 83, 84, 85, 86] (by decide +kernel) (by decide +kernel)
set_option maxRecDepth 20000 in
theorem gX9_gain_X9_trialFault : GoodIn wsX9_gain (wsV RX9 247 RX9 yX9_trialFault wsX9_trialFault) := goodIn_app (goodIn_of _ (by decide +kernel)) ggX9_gain_X9_trialFault
set_option maxRecDepth 20000 in
theorem ggX9_gain_X8_lay : GoodIn wsX9_gain wsX8_lay := goodIn_r _ [29, 30, 31, 32, 33, 34, 35, 27, 36, 37, 38, 39, 40, 41, 87, 88, 89, 83, 84, 85, 86] (by decide +kernel) (by decide +kernel)
set_option maxRecDepth 20000 in
theorem gX9_gain_X8_lay_n250 : GoodIn wsX9_gain (wsX8_lay) := ggX9_gain_X8_lay
set_option maxRecDepth 20000 in
theorem ggX9_gain_X8_gainOf : GoodIn wsX9_gain wsX8_gainOf := goodIn_r _ [44, 30, 45, 46, 39, 47, 48, 49, 50, 51, 52, 53, 27, 54, 31, 32, 55, 56, 57, 58, 59, 60, 61, 62, 63, 64, 65, 66, 67, 87, 88, 89, 90, 91] (by decide +kernel) (by decide +kernel)
set_option maxRecDepth 20000 in
theorem gX9_gain_X8_gainOf_n254 : GoodIn wsX9_gain (wsX8_gainOf) := ggX9_gain_X8_gainOf
set_option maxRecDepth 20000 in
theorem ggX9_gain_X9_finish : GoodIn wsX9_gain wsX9_finish := goodIn_r _ [71, 72, 73, 74, 75, 76, 77, 78, 79, 80, 81, 82] (by decide +kernel) (by decide +kernel)
set_option maxRecDepth 20000 in
theorem gX9_gain_X9_finish : GoodIn wsX9_gain (wsV RX9 80 RX9 yX9_finish wsX9_finish) := goodIn_app (goodIn_of _ (by decide +kernel)) ggX9_gain_X9_finish
set_option maxRecDepth 20000 in
theorem ggX9_chance_X9_trialFault : GoodIn wsX9_chance wsX9_trialFault := goodIn_r _ [8, 2, 9, 10, 11, 7, 12, 13, 14, 15, 16, 17, 18, 19, 20, 21, 22, 23, 24, 25, 79, 80, 81, 82, 83, 84, 85, 86, 87, 88, 89, 90, 91, 92] (by decide +kernel) (by decide +kernel)
set_option maxRecDepth 20000 in
theorem gX9_chance_X9_trialFault : GoodIn wsX9_chance (wsV RX9 247 RX9 yX9_trialFault wsX9_trialFault) := goodIn_app (goodIn_of _ (by decide +kernel)) ggX9_chance_X9_trialFault
set_option maxRecDepth 20000 in
theorem ggX9_chance_X8_lay : GoodIn wsX9_chance wsX8_lay := goodIn_r _ [29, 30, 31, 32, 33, 34, 35, 27, 36, 37, 38, 39, 40, 41, 93, 94, 95, 89, 90, 91, 92] (by decide +kernel) (by decide +kernel)
set_option maxRecDepth 20000 in
theorem gX9_chance_X8_lay_n250 : GoodIn wsX9_chance (wsX8_lay) := ggX9_chance_X8_lay
set_option maxRecDepth 20000 in
theorem ggX9_chance_X8_chanceOf : GoodIn wsX9_chance wsX8_chanceOf := goodIn_r _ [44, 30, 45, 46, 39, 47, 48, 49, 50, 51, 52, 27, 53, 54, 55, 56, 57, 31, 32, 58, 59, 60, 37, 38, 40, 41, 61, 62, 63, 64, 65, 66, 67, 68, 69, 70, 71, 72, 73, 93, 94, 95, 96, 97] (by decide +kernel) (by decide +kernel)
set_option maxRecDepth 20000 in
theorem gX9_chance_X8_chanceOf_n257 : GoodIn wsX9_chance (wsX8_chanceOf) := ggX9_chance_X8_chanceOf
set_option maxRecDepth 20000 in
theorem ggX9_chance_X9_finish : GoodIn wsX9_chance wsX9_finish := goodIn_r _ [77, 78, 79, 80, 81, 82, 83, 84, 85, 86, 87, 88] (by decide +kernel) (by decide +kernel)
set_option maxRecDepth 20000 in
theorem gX9_chance_X9_finish : GoodIn wsX9_chance (wsV RX9 80 RX9 yX9_finish wsX9_finish) := goodIn_app (goodIn_of _ (by decide +kernel)) ggX9_chance_X9_finish
set_option maxRecDepth 20000 in
theorem ggX9_draw_X9_refused : GoodIn wsX9_draw wsX9_refused := goodIn_r _ [5, 6, 17, 18, 19, 20, 21, 22, 23, 24, 25, 26] (by decide +kernel) (by decide +kernel)
set_option maxRecDepth 20000 in
theorem gX9_draw_X9_refused : GoodIn wsX9_draw (wsV RX9 114 RX9 yX9_refused wsX9_refused) := goodIn_app (goodIn_of _ (by decide +kernel)) ggX9_draw_X9_refused
set_option maxRecDepth 20000 in
theorem ggX9_draw_X8_drawnSet : GoodIn wsX9_draw wsX8_drawnSet := goodIn_r _ [9, 10, 11, 12] (by decide +kernel) (by decide +kernel)
set_option maxRecDepth 20000 in
theorem gX9_draw_X8_drawnSet_n260 : GoodIn wsX9_draw (wsX8_drawnSet) := ggX9_draw_X8_drawnSet
set_option maxRecDepth 20000 in
theorem ggX9_draw_X9_answered : GoodIn wsX9_draw wsX9_answered := goodIn_r _ [16, 6, 17, 18, 19, 20, 21, 22, 23, 24, 25, 26] (by decide +kernel) (by decide +kernel)
set_option maxRecDepth 20000 in
theorem gX9_draw_X9_answered : GoodIn wsX9_draw (wsV RX9 124 RX9 yX9_answered wsX9_answered) := goodIn_app (goodIn_of _ (by decide +kernel)) ggX9_draw_X9_answered
set_option maxRecDepth 20000 in
theorem ggX9_trayFault_X9_isTray : GoodIn wsX9_trayFault wsX9_isTray := goodIn_r _ [5] (by decide +kernel) (by decide +kernel)
set_option maxRecDepth 20000 in
theorem gX9_trayFault_X9_isTray : GoodIn wsX9_trayFault (va_wsS RX9 76 yX9_isTray wsX9_isTray) := goodIn_app (goodIn_of _ (by decide +kernel)) ggX9_trayFault_X9_isTray
set_option maxRecDepth 20000 in
theorem ggX9_placeFault_X9_trayFault : GoodIn wsX9_placeFault wsX9_trayFault := goodIn_r _ [6, 1, 7, 8, 5, 9, 15, 16, 17, 18, 19, 20, 21, 22, 23, 24, 25, 26, 27, 28] (by decide +kernel) (by decide +kernel)
set_option maxRecDepth 20000 in
theorem gX9_placeFault_X9_trayFault : GoodIn wsX9_placeFault (wsV RX9 266 RX9 yX9_trayFault wsX9_trayFault) := goodIn_app (goodIn_of _ (by decide +kernel)) ggX9_placeFault_X9_trayFault
set_option maxRecDepth 20000 in
theorem ggX9_placeFault_X7_hasPlaces : GoodIn wsX9_placeFault wsX7_hasPlaces := goodIn_r _ [13, 14, 25, 26, 27, 28] (by decide +kernel) (by decide +kernel)
set_option maxRecDepth 20000 in
theorem gX9_placeFault_X7_hasPlaces_n269 : GoodIn wsX9_placeFault (wsX7_hasPlaces) := ggX9_placeFault_X7_hasPlaces
set_option maxRecDepth 20000 in
theorem ggX9_pourFault_X9_isTray : GoodIn wsX9_pourFault wsX9_isTray := goodIn_r _ [5] (by decide +kernel) (by decide +kernel)
set_option maxRecDepth 20000 in
theorem gX9_pourFault_X9_isTray : GoodIn wsX9_pourFault (va_wsS RX9 76 yX9_isTray wsX9_isTray) := goodIn_app (goodIn_of _ (by decide +kernel)) ggX9_pourFault_X9_isTray
set_option maxRecDepth 20000 in
theorem ggX9_pourFault_X7_hasPlaces : GoodIn wsX9_pourFault wsX7_hasPlaces := goodIn_r _ [9, 10, 21, 22, 23, 24] (by decide +kernel) (by decide +kernel)
set_option maxRecDepth 20000 in
theorem gX9_pourFault_X7_hasPlaces_n269 : GoodIn wsX9_pourFault (wsX7_hasPlaces) := ggX9_pourFault_X7_hasPlaces
set_option maxRecDepth 20000 in
theorem ggX9_pairedFault_X0_isBeginner : GoodIn wsX9_pairedFault wsX0_isBeginner := goodIn_r _ [6, 7, 21, 22, 23, 24, 25, 26] (by decide +kernel) (by decide +kernel)
set_option maxRecDepth 20000 in
theorem gX9_pairedFault_X0_isBeginner_n188 : GoodIn wsX9_pairedFault (wsX0_isBeginner) := ggX9_pairedFault_X0_isBeginner
set_option maxRecDepth 20000 in
theorem ggX9_trialFault_X9_trayFault : GoodIn wsX9_trialFault wsX9_trayFault := goodIn_r _ [6, 1, 7, 8, 5, 9, 20, 21, 22, 23, 24, 25, 26, 27, 28, 29, 30, 31, 32, 33] (by decide +kernel) (by decide +kernel)
set_option maxRecDepth 20000 in
theorem gX9_trialFault_X9_trayFault : GoodIn wsX9_trialFault (wsV RX9 266 RX9 yX9_trayFault wsX9_trayFault) := goodIn_app (goodIn_of _ (by decide +kernel)) ggX9_trialFault_X9_trayFault
set_option maxRecDepth 20000 in
theorem ggX9_trialFault_X7_hasPlaces : GoodIn wsX9_trialFault wsX7_hasPlaces := goodIn_r _ [13, 14, 30, 31, 32, 33] (by decide +kernel) (by decide +kernel)
set_option maxRecDepth 20000 in
theorem gX9_trialFault_X7_hasPlaces_n269 : GoodIn wsX9_trialFault (wsX7_hasPlaces) := ggX9_trialFault_X7_hasPlaces
set_option maxRecDepth 20000 in
theorem ggX9_trialFault_X7_hasOutcomes : GoodIn wsX9_trialFault wsX7_hasOutcomes := goodIn_r _ [17, 18, 19, 30, 31, 32, 33] (by decide +kernel) (by decide +kernel)
set_option maxRecDepth 20000 in
theorem gX9_trialFault_X7_hasOutcomes_n275 : GoodIn wsX9_trialFault (wsX7_hasOutcomes) := ggX9_trialFault_X7_hasOutcomes
set_option maxRecDepth 20000 in
theorem ggX10_tray_X10_no : GoodIn wsX10_tray wsX10_no := goodIn_r _ [10, 2, 11, 12, 13, 14, 15, 16, 17, 18, 19, 20, 21, 22, 23, 24, 25, 26, 27, 28, 29, 30, 31, 32, 33, 34, 35, 36, 37, 38, 39, 40, 41, 42, 43] (by decide +kernel) (by decide +kernel)
set_option maxRecDepth 20000 in
theorem gX10_tray_X10_no : GoodIn wsX10_tray (wsV RX10 89 RX10 yX10_no wsX10_no) := goodIn_app (goodIn_of _ (by decide +kernel)) ggX10_tray_X10_no
set_option maxRecDepth 20000 in
theorem ggX10_placed_X10_trayed : GoodIn wsX10_placed wsX10_trayed := goodIn_r _ [6, 1, 7, 8, 9, 10, 11, 12, 13, 14, 15, 16, 17, 18, 19, 20, 21, 22, 23, 24, 25, 26, 27, 28, 29, 30, 31, 32, 33, 34, 35, 36, 37, 38, 39] (by decide +kernel) (by decide +kernel)
set_option maxRecDepth 20000 in
theorem gX10_placed_X10_trayed : GoodIn wsX10_placed (wsV RX10 93 RX10 yX10_trayed wsX10_trayed) := goodIn_app (goodIn_of _ (by decide +kernel)) ggX10_placed_X10_trayed
set_option maxRecDepth 20000 in
theorem ggX10_write_X10_placed : GoodIn wsX10_write wsX10_placed := goodIn_r _ [9, 10, 11, 12, 13, 8, 14, 18, 19, 20, 21, 22, 23, 24, 25, 26, 27, 28, 29, 30, 31, 32, 33, 34, 35, 36, 37, 38, 39, 40, 41, 42, 43, 44, 45, 46, 47, 48, 49, 50] (by decide +kernel) (by decide +kernel)
set_option maxRecDepth 20000 in
theorem gX10_write_X10_placed : GoodIn wsX10_write (wsV RX10 97 RX10 yX10_placed wsX10_placed) := goodIn_app (goodIn_of _ (by decide +kernel)) ggX10_write_X10_placed
set_option maxRecDepth 20000 in
theorem ggX10_write_X10_cut : GoodIn wsX10_write wsX10_cut := goodIn_r _ [17] (by decide +kernel) (by decide +kernel)
set_option maxRecDepth 20000 in
theorem gX10_write_X10_cut : GoodIn wsX10_write (va_wsS RX10 101 yX10_cut wsX10_cut) := goodIn_app (goodIn_of _ (by decide +kernel)) ggX10_write_X10_cut
set_option maxRecDepth 20000 in
theorem ggX10_read_X10_placed : GoodIn wsX10_read wsX10_placed := goodIn_r _ [9, 10, 11, 12, 13, 8, 14, 15, 16, 17, 18, 19, 20, 21, 22, 23, 24, 25, 26, 27, 28, 29, 30, 31, 32, 33, 34, 35, 36, 37, 38, 39, 40, 41, 42, 43, 44, 45, 46, 47] (by decide +kernel) (by decide +kernel)
set_option maxRecDepth 20000 in
theorem gX10_read_X10_placed : GoodIn wsX10_read (wsV RX10 97 RX10 yX10_placed wsX10_placed) := goodIn_app (goodIn_of _ (by decide +kernel)) ggX10_read_X10_placed
set_option maxRecDepth 20000 in
theorem ggX10_pour_X10_no : GoodIn wsX10_pour wsX10_no := goodIn_r _ [10, 2, 11, 12, 13, 14, 15, 16, 17, 18, 19, 20, 21, 22, 23, 24, 25, 26, 27, 28, 29, 30, 31, 32, 33, 34, 35, 36, 37, 38, 39, 40, 41, 42, 43] (by decide +kernel) (by decide +kernel)
set_option maxRecDepth 20000 in
theorem gX10_pour_X10_no : GoodIn wsX10_pour (wsV RX10 89 RX10 yX10_no wsX10_no) := goodIn_app (goodIn_of _ (by decide +kernel)) ggX10_pour_X10_no
set_option maxRecDepth 20000 in
theorem ggX10_elder_X10_refuse : GoodIn wsX10_elder wsX10_refuse := goodIn_r _ [9, 2, 10, 11, 12, 13, 14, 15, 16, 17, 18, 19, 20, 21, 22, 23, 24, 25, 26, 27, 28, 29, 30, 31, 32, 33, 34, 35, 36, 37, 38, 39, 40, 41, 42] (by decide +kernel) (by decide +kernel)
set_option maxRecDepth 20000 in
theorem gX10_elder_X10_refuse : GoodIn wsX10_elder (wsV RX10 113 RX10 yX10_refuse wsX10_refuse) := goodIn_app (goodIn_of _ (by decide +kernel)) ggX10_elder_X10_refuse
set_option maxRecDepth 20000 in
theorem ggX10_beginner_X10_refuse : GoodIn wsX10_beginner wsX10_refuse := goodIn_r _ [9, 2, 10, 11, 12, 13, 14, 15, 16, 17, 18, 19, 20, 21, 22, 23, 24, 25, 26, 27, 28, 29, 30, 31, 32, 33, 34, 35, 36, 37, 38, 39, 40, 41, 42] (by decide +kernel) (by decide +kernel)
set_option maxRecDepth 20000 in
theorem gX10_beginner_X10_refuse : GoodIn wsX10_beginner (wsV RX10 113 RX10 yX10_refuse wsX10_refuse) := goodIn_app (goodIn_of _ (by decide +kernel)) ggX10_beginner_X10_refuse
set_option maxRecDepth 20000 in
theorem ggX10_places_X10_isElder : GoodIn wsX10_places wsX10_isElder := goodIn_r _ [8, 9, 14, 15, 16, 17, 18, 19, 20, 21, 22, 23, 24, 25, 26, 27, 28, 29, 30, 31, 32, 33, 34, 35, 36, 37, 38, 39, 40, 41, 42, 43, 44, 45, 46] (by decide +kernel) (by decide +kernel)
set_option maxRecDepth 20000 in
theorem gX10_places_X10_isElder : GoodIn wsX10_places (wsV RX10 116 RX10 yX10_isElder wsX10_isElder) := goodIn_app (goodIn_of _ (by decide +kernel)) ggX10_places_X10_isElder
set_option maxRecDepth 20000 in
theorem ggX10_places_X10_no : GoodIn wsX10_places wsX10_no := goodIn_r _ [13, 2, 14, 15, 16, 17, 18, 19, 20, 21, 22, 23, 24, 25, 26, 27, 28, 29, 30, 31, 32, 33, 34, 35, 36, 37, 38, 39, 40, 41, 42, 43, 44, 45, 46] (by decide +kernel) (by decide +kernel)
set_option maxRecDepth 20000 in
theorem gX10_places_X10_no : GoodIn wsX10_places (wsV RX10 89 RX10 yX10_no wsX10_no) := goodIn_app (goodIn_of _ (by decide +kernel)) ggX10_places_X10_no
set_option maxRecDepth 20000 in
theorem ggX10_like_X10_isElder : GoodIn wsX10_like wsX10_isElder := goodIn_r _ [9, 10, 20, 21, 22, 23, 24, 25, 26, 27, 28, 29, 30, 31, 32, 33, 34, 35, 36, 37, 38, 39, 40, 41, 42, 43, 44, 45, 46, 47, 48, 49, 50, 51, 52] (by decide +kernel) (by decide +kernel)
set_option maxRecDepth 20000 in
theorem gX10_like_X10_isElder : GoodIn wsX10_like (wsV RX10 116 RX10 yX10_isElder wsX10_isElder) := goodIn_app (goodIn_of _ (by decide +kernel)) ggX10_like_X10_isElder
set_option maxRecDepth 20000 in
theorem ggX10_like_X10_isBeginner : GoodIn wsX10_like wsX10_isBeginner := goodIn_r _ [14, 15, 20, 21, 22, 23, 24, 25, 26, 27, 28, 29, 30, 31, 32, 33, 34, 35, 36, 37, 38, 39, 40, 41, 42, 43, 44, 45, 46, 47, 48, 49, 50, 51, 52] (by decide +kernel) (by decide +kernel)
set_option maxRecDepth 20000 in
theorem gX10_like_X10_isBeginner : GoodIn wsX10_like (wsV RX10 119 RX10 yX10_isBeginner wsX10_isBeginner) := goodIn_app (goodIn_of _ (by decide +kernel)) ggX10_like_X10_isBeginner
set_option maxRecDepth 20000 in
theorem ggX10_like_X10_no : GoodIn wsX10_like wsX10_no := goodIn_r _ [19, 2, 20, 21, 22, 23, 24, 25, 26, 27, 28, 29, 30, 31, 32, 33, 34, 35, 36, 37, 38, 39, 40, 41, 42, 43, 44, 45, 46, 47, 48, 49, 50, 51, 52] (by decide +kernel) (by decide +kernel)
set_option maxRecDepth 20000 in
theorem gX10_like_X10_no : GoodIn wsX10_like (wsV RX10 89 RX10 yX10_no wsX10_no) := goodIn_app (goodIn_of _ (by decide +kernel)) ggX10_like_X10_no
set_option maxRecDepth 20000 in
theorem ggX10_bar_X10_isElder : GoodIn wsX10_bar wsX10_isElder := goodIn_r _ [8, 9, 19, 20, 21, 22, 23, 24, 25, 26, 27, 28, 29, 30, 31, 32, 33, 34, 35, 36, 37, 38, 39, 40, 41, 42, 43, 44, 45, 46, 47, 48, 49, 50, 51] (by decide +kernel) (by decide +kernel)
set_option maxRecDepth 20000 in
theorem gX10_bar_X10_isElder : GoodIn wsX10_bar (wsV RX10 116 RX10 yX10_isElder wsX10_isElder) := goodIn_app (goodIn_of _ (by decide +kernel)) ggX10_bar_X10_isElder
set_option maxRecDepth 20000 in
theorem ggX10_bar_X10_isBeginner : GoodIn wsX10_bar wsX10_isBeginner := goodIn_r _ [13, 14, 19, 20, 21, 22, 23, 24, 25, 26, 27, 28, 29, 30, 31, 32, 33, 34, 35, 36, 37, 38, 39, 40, 41, 42, 43, 44, 45, 46, 47, 48, 49, 50, 51] (by decide +kernel) (by decide +kernel)
set_option maxRecDepth 20000 in
theorem gX10_bar_X10_isBeginner : GoodIn wsX10_bar (wsV RX10 119 RX10 yX10_isBeginner wsX10_isBeginner) := goodIn_app (goodIn_of _ (by decide +kernel)) ggX10_bar_X10_isBeginner
set_option maxRecDepth 20000 in
theorem ggX10_bar_X10_no : GoodIn wsX10_bar wsX10_no := goodIn_r _ [18, 2, 19, 20, 21, 22, 23, 24, 25, 26, 27, 28, 29, 30, 31, 32, 33, 34, 35, 36, 37, 38, 39, 40, 41, 42, 43, 44, 45, 46, 47, 48, 49, 50, 51] (by decide +kernel) (by decide +kernel)
set_option maxRecDepth 20000 in
theorem gX10_bar_X10_no : GoodIn wsX10_bar (wsV RX10 89 RX10 yX10_no wsX10_no) := goodIn_app (goodIn_of _ (by decide +kernel)) ggX10_bar_X10_no
set_option maxRecDepth 20000 in
theorem ggX10_worst_X10_elderPrefers : GoodIn wsX10_worst wsX10_elderPrefers := goodIn_r _ [7, 8, 9, 10, 11, 12, 13, 14, 15, 16, 17, 18, 19, 20, 21, 22, 23, 24, 25, 26, 27, 28, 29, 30, 31, 32, 33, 34, 35, 36, 37, 38, 39, 40, 41] (by decide +kernel) (by decide +kernel)
set_option maxRecDepth 20000 in
theorem gX10_worst_X10_elderPrefers : GoodIn wsX10_worst (wsV RX10 122 RX10 yX10_elderPrefers wsX10_elderPrefers) := goodIn_app (goodIn_of _ (by decide +kernel)) ggX10_worst_X10_elderPrefers
set_option maxRecDepth 20000 in
theorem ggX10_rank_X10_can : GoodIn wsX10_rank wsX10_can := goodIn_r _ [6, 7, 8, 9, 14, 15, 16, 17, 18, 19, 20, 21, 22, 23, 24, 25, 26, 27, 28, 29, 30, 31, 32, 33, 34, 35, 36, 37, 38, 39, 40, 41, 42, 43, 44, 45, 46] (by decide +kernel) (by decide +kernel)
set_option maxRecDepth 20000 in
theorem gX10_rank_X10_can : GoodIn wsX10_rank (wsV RX10 126 RX10 yX10_can wsX10_can) := goodIn_app (goodIn_of _ (by decide +kernel)) ggX10_rank_X10_can
set_option maxRecDepth 20000 in
theorem ggX10_rank_X10_beginnerPrefers : GoodIn wsX10_rank wsX10_beginnerPrefers := goodIn_r _ [13, 8, 14, 15, 16, 17, 18, 19, 20, 21, 22, 23, 24, 25, 26, 27, 28, 29, 30, 31, 32, 33, 34, 35, 36, 37, 38, 39, 40, 41, 42, 43, 44, 45, 46] (by decide +kernel) (by decide +kernel)
set_option maxRecDepth 20000 in
theorem gX10_rank_X10_beginnerPrefers : GoodIn wsX10_rank (wsV RX10 130 RX10 yX10_beginnerPrefers wsX10_beginnerPrefers) := goodIn_app (goodIn_of _ (by decide +kernel)) ggX10_rank_X10_beginnerPrefers
set_option maxRecDepth 20000 in
theorem ggX10_asked_X10_can : GoodIn wsX10_asked wsX10_can := goodIn_r _ [6, 7, 8, 9, 18, 19, 20, 21, 22, 23, 24, 25, 26, 27, 28, 29, 30, 31, 32, 33, 34, 35, 36, 37, 38, 39, 40, 41, 42, 43, 44, 45, 46, 47, 48, 49, 50] (by decide +kernel) (by decide +kernel)
set_option maxRecDepth 20000 in
theorem gX10_asked_X10_can : GoodIn wsX10_asked (wsV RX10 126 RX10 yX10_can wsX10_can) := goodIn_app (goodIn_of _ (by decide +kernel)) ggX10_asked_X10_can
set_option maxRecDepth 20000 in
theorem ggX10_asked_X10_rank : GoodIn wsX10_asked wsX10_rank := goodIn_r _ [13, 1, 2, 3, 4, 5, 6, 7, 8, 9, 14, 15, 16, 17, 18, 19, 20, 21, 22, 23, 24, 25, 26, 27, 28, 29, 30, 31, 32, 33, 34, 35, 36, 37, 38, 39, 40, 41, 42, 43, 44, 45, 46, 47, 48, 49, 50] (by decide +kernel) (by decide +kernel)
set_option maxRecDepth 20000 in
theorem gX10_asked_X10_rank : GoodIn wsX10_asked (wsV RX10 133 RX10 yX10_rank wsX10_rank) := goodIn_app (goodIn_of _ (by decide +kernel)) ggX10_asked_X10_rank
set_option maxRecDepth 20000 in
theorem ggX10_pair_X10_asked : GoodIn wsX10_pair wsX10_asked := goodIn_r _ [12, 13, 14, 15, 16, 11, 17, 18, 19, 20, 21, 22, 23, 24, 25, 26, 27, 28, 41, 42, 43, 44, 45, 46, 47, 48, 49, 50, 51, 52, 53, 54, 55, 56, 57, 58, 59, 60, 61, 62, 63, 64, 65, 66, 67, 68, 69, 70, 71, 72, 73] (by decide +kernel) (by decide +kernel)
set_option maxRecDepth 20000 in
theorem gX10_pair_X10_asked : GoodIn wsX10_pair (wsV RX10 136 RX10 yX10_asked wsX10_asked) := goodIn_app (goodIn_of _ (by decide +kernel)) ggX10_pair_X10_asked
set_option maxRecDepth 20000 in
theorem ggX10_pair_X10_hasOf : GoodIn wsX10_pair wsX10_hasOf := goodIn_r _ [32, 3, 4, 41, 42, 43, 44, 45, 46, 47, 48, 49, 50, 51, 52, 53, 54, 55, 56, 57, 58, 59, 60, 61, 62, 63, 64, 65, 66, 67, 68, 69, 70, 71, 72, 73] (by decide +kernel) (by decide +kernel)
set_option maxRecDepth 20000 in
theorem gX10_pair_X10_hasOf : GoodIn wsX10_pair (wsV RX10 139 RX10 yX10_hasOf wsX10_hasOf) := goodIn_app (goodIn_of _ (by decide +kernel)) ggX10_pair_X10_hasOf
set_option maxRecDepth 20000 in
theorem ggX10_pair_X10_worst : GoodIn wsX10_pair wsX10_worst := goodIn_r _ [36, 3, 4, 37, 38, 39, 11, 40, 18, 41, 42, 43, 44, 45, 46, 47, 48, 49, 50, 51, 52, 53, 54, 55, 56, 57, 58, 59, 60, 61, 62, 63, 64, 65, 66, 67, 68, 69, 70, 71, 72, 73] (by decide +kernel) (by decide +kernel)
set_option maxRecDepth 20000 in
theorem gX10_pair_X10_worst : GoodIn wsX10_pair (wsV RX10 142 RX10 yX10_worst wsX10_worst) := goodIn_app (goodIn_of _ (by decide +kernel)) ggX10_pair_X10_worst
set_option maxRecDepth 20000 in
theorem ggX10_elderOf_X10_isBeginner : GoodIn wsX10_elderOf wsX10_isBeginner := goodIn_r _ [9, 10, 15, 16, 17, 18, 19, 20, 21, 22, 23, 24, 25, 26, 27, 28, 29, 30, 31, 32, 33, 34, 35, 36, 37, 38, 39, 40, 41, 42, 43, 44, 45, 46, 47] (by decide +kernel) (by decide +kernel)
set_option maxRecDepth 20000 in
theorem gX10_elderOf_X10_isBeginner : GoodIn wsX10_elderOf (wsV RX10 119 RX10 yX10_isBeginner wsX10_isBeginner) := goodIn_app (goodIn_of _ (by decide +kernel)) ggX10_elderOf_X10_isBeginner
set_option maxRecDepth 20000 in
theorem ggX10_elderOf_X10_refuse : GoodIn wsX10_elderOf wsX10_refuse := goodIn_r _ [14, 2, 15, 16, 17, 18, 19, 20, 21, 22, 23, 24, 25, 26, 27, 28, 29, 30, 31, 32, 33, 34, 35, 36, 37, 38, 39, 40, 41, 42, 43, 44, 45, 46, 47] (by decide +kernel) (by decide +kernel)
set_option maxRecDepth 20000 in
theorem gX10_elderOf_X10_refuse : GoodIn wsX10_elderOf (wsV RX10 113 RX10 yX10_refuse wsX10_refuse) := goodIn_app (goodIn_of _ (by decide +kernel)) ggX10_elderOf_X10_refuse
set_option maxRecDepth 20000 in
theorem ggX10_has_X10_isElder : GoodIn wsX10_has wsX10_isElder := goodIn_r _ [8, 9, 20, 21, 22, 23, 24, 25, 26, 27, 28, 29, 30, 31, 32, 33, 34, 35, 36, 37, 38, 39, 40, 41, 42, 43, 44, 45, 46, 47, 48, 49, 50, 51, 52] (by decide +kernel) (by decide +kernel)
set_option maxRecDepth 20000 in
theorem gX10_has_X10_isElder : GoodIn wsX10_has (wsV RX10 116 RX10 yX10_isElder wsX10_isElder) := goodIn_app (goodIn_of _ (by decide +kernel)) ggX10_has_X10_isElder
set_option maxRecDepth 20000 in
theorem ggX10_has_X10_refuse : GoodIn wsX10_has wsX10_refuse := goodIn_r _ [13, 2, 20, 21, 22, 23, 24, 25, 26, 27, 28, 29, 30, 31, 32, 33, 34, 35, 36, 37, 38, 39, 40, 41, 42, 43, 44, 45, 46, 47, 48, 49, 50, 51, 52] (by decide +kernel) (by decide +kernel)
set_option maxRecDepth 20000 in
theorem gX10_has_X10_refuse : GoodIn wsX10_has (wsV RX10 113 RX10 yX10_refuse wsX10_refuse) := goodIn_app (goodIn_of _ (by decide +kernel)) ggX10_has_X10_refuse
set_option maxRecDepth 20000 in
theorem ggX10_has_X10_hasOf : GoodIn wsX10_has wsX10_hasOf := goodIn_r _ [17, 18, 19, 20, 21, 22, 23, 24, 25, 26, 27, 28, 29, 30, 31, 32, 33, 34, 35, 36, 37, 38, 39, 40, 41, 42, 43, 44, 45, 46, 47, 48, 49, 50, 51, 52] (by decide +kernel) (by decide +kernel)
set_option maxRecDepth 20000 in
theorem gX10_has_X10_hasOf : GoodIn wsX10_has (wsV RX10 139 RX10 yX10_hasOf wsX10_hasOf) := goodIn_app (goodIn_of _ (by decide +kernel)) ggX10_has_X10_hasOf
set_option maxRecDepth 20000 in
theorem ggX10_isBlock_X10_can : GoodIn wsX10_isBlock wsX10_can := goodIn_r _ [7, 8, 9, 10, 28, 29, 30, 31, 32, 33, 34, 35, 36, 37, 38, 39, 40, 41, 42, 43, 44, 45, 46, 47, 48, 49, 50, 51, 52, 53, 54, 55, 56, 57, 58, 59, 60] (by decide +kernel) (by decide +kernel)
set_option maxRecDepth 20000 in
theorem gX10_isBlock_X10_can : GoodIn wsX10_isBlock (wsV RX10 126 RX10 yX10_can wsX10_can) := goodIn_app (goodIn_of _ (by decide +kernel)) ggX10_isBlock_X10_can
set_option maxRecDepth 20000 in
theorem ggX10_isBlock_X10_beginnerPrefers : GoodIn wsX10_isBlock wsX10_beginnerPrefers := goodIn_r _ [14, 9, 28, 29, 30, 31, 32, 33, 34, 35, 36, 37, 38, 39, 40, 41, 42, 43, 44, 45, 46, 47, 48, 49, 50, 51, 52, 53, 54, 55, 56, 57, 58, 59, 60] (by decide +kernel) (by decide +kernel)
set_option maxRecDepth 20000 in
theorem gX10_isBlock_X10_beginnerPrefers : GoodIn wsX10_isBlock (wsV RX10 130 RX10 yX10_beginnerPrefers wsX10_beginnerPrefers) := goodIn_app (goodIn_of _ (by decide +kernel)) ggX10_isBlock_X10_beginnerPrefers
set_option maxRecDepth 20000 in
theorem ggX10_isBlock_X10_hasOf : GoodIn wsX10_isBlock wsX10_hasOf := goodIn_r _ [18, 19, 1, 28, 29, 30, 31, 32, 33, 34, 35, 36, 37, 38, 39, 40, 41, 42, 43, 44, 45, 46, 47, 48, 49, 50, 51, 52, 53, 54, 55, 56, 57, 58, 59, 60] (by decide +kernel) (by decide +kernel)
set_option maxRecDepth 20000 in
theorem gX10_isBlock_X10_hasOf : GoodIn wsX10_isBlock (wsV RX10 139 RX10 yX10_hasOf wsX10_hasOf) := goodIn_app (goodIn_of _ (by decide +kernel)) ggX10_isBlock_X10_hasOf
set_option maxRecDepth 20000 in
theorem ggX10_isBlock_X10_worst : GoodIn wsX10_isBlock wsX10_worst := goodIn_r _ [23, 19, 1, 24, 25, 26, 6, 27, 8, 28, 29, 30, 31, 32, 33, 34, 35, 36, 37, 38, 39, 40, 41, 42, 43, 44, 45, 46, 47, 48, 49, 50, 51, 52, 53, 54, 55, 56, 57, 58, 59, 60] (by decide +kernel) (by decide +kernel)
set_option maxRecDepth 20000 in
theorem gX10_isBlock_X10_worst : GoodIn wsX10_isBlock (wsV RX10 142 RX10 yX10_worst wsX10_worst) := goodIn_app (goodIn_of _ (by decide +kernel)) ggX10_isBlock_X10_worst
set_option maxRecDepth 20000 in
theorem ggX10_isBlock_X10_elderPrefers : GoodIn wsX10_isBlock wsX10_elderPrefers := goodIn_r _ [27, 8, 28, 29, 30, 31, 32, 33, 34, 35, 36, 37, 38, 39, 40, 41, 42, 43, 44, 45, 46, 47, 48, 49, 50, 51, 52, 53, 54, 55, 56, 57, 58, 59, 60] (by decide +kernel) (by decide +kernel)
set_option maxRecDepth 20000 in
theorem gX10_isBlock_X10_elderPrefers : GoodIn wsX10_isBlock (wsV RX10 122 RX10 yX10_elderPrefers wsX10_elderPrefers) := goodIn_app (goodIn_of _ (by decide +kernel)) ggX10_isBlock_X10_elderPrefers
set_option maxRecDepth 20000 in
theorem ggX10_blocks_X10_refuse : GoodIn wsX10_blocks wsX10_refuse := goodIn_r _ [10, 2, 40, 41, 42, 43, 44, 45, 46, 47, 48, 49, 50, 51, 52, 53, 54, 55, 56, 57, 58, 59, 60, 61, 62, 63, 64, 65, 66, 67, 68, 69, 70, 71, 72] (by decide +kernel) (by decide +kernel)
set_option maxRecDepth 20000 in
theorem gX10_blocks_X10_refuse : GoodIn wsX10_blocks (wsV RX10 113 RX10 yX10_refuse wsX10_refuse) := goodIn_app (goodIn_of _ (by decide +kernel)) ggX10_blocks_X10_refuse
set_option maxRecDepth 20000 in
theorem ggX10_blocks_X10_isBlock : GoodIn wsX10_blocks wsX10_isBlock := goodIn_r _ [14, 15, 16, 17, 18, 19, 9, 20, 21, 22, 23, 24, 25, 26, 27, 28, 29, 30, 31, 5, 32, 33, 34, 35, 36, 37, 38, 39, 40, 41, 42, 43, 44, 45, 46, 47, 48, 49, 50, 51, 52, 53, 54, 55, 56, 57, 58, 59, 60, 61, 62, 63, 64, 65, 66, 67, 68, 69, 70, 71, 72] (by decide +kernel) (by decide +kernel)
set_option maxRecDepth 20000 in
theorem gX10_blocks_X10_isBlock : GoodIn wsX10_blocks (wsV RX10 149 RX10 yX10_isBlock wsX10_isBlock) := goodIn_app (goodIn_of _ (by decide +kernel)) ggX10_blocks_X10_isBlock
set_option maxRecDepth 20000 in
theorem ggX10_block_X10_isElder : GoodIn wsX10_block wsX10_isElder := goodIn_r _ [8, 9, 48, 49, 50, 51, 52, 53, 54, 55, 56, 57, 58, 59, 60, 61, 62, 63, 64, 65, 66, 67, 68, 69, 70, 71, 72, 73, 74, 75, 76, 77, 78, 79, 80] (by decide +kernel) (by decide +kernel)
set_option maxRecDepth 20000 in
theorem gX10_block_X10_isElder : GoodIn wsX10_block (wsV RX10 116 RX10 yX10_isElder wsX10_isElder) := goodIn_app (goodIn_of _ (by decide +kernel)) ggX10_block_X10_isElder
set_option maxRecDepth 20000 in
theorem ggX10_block_X10_isBeginner : GoodIn wsX10_block wsX10_isBeginner := goodIn_r _ [13, 14, 48, 49, 50, 51, 52, 53, 54, 55, 56, 57, 58, 59, 60, 61, 62, 63, 64, 65, 66, 67, 68, 69, 70, 71, 72, 73, 74, 75, 76, 77, 78, 79, 80] (by decide +kernel) (by decide +kernel)
set_option maxRecDepth 20000 in
theorem gX10_block_X10_isBeginner : GoodIn wsX10_block (wsV RX10 119 RX10 yX10_isBeginner wsX10_isBeginner) := goodIn_app (goodIn_of _ (by decide +kernel)) ggX10_block_X10_isBeginner
set_option maxRecDepth 20000 in
theorem ggX10_block_X10_refuse : GoodIn wsX10_block wsX10_refuse := goodIn_r _ [18, 2, 48, 49, 50, 51, 52, 53, 54, 55, 56, 57, 58, 59, 60, 61, 62, 63, 64, 65, 66, 67, 68, 69, 70, 71, 72, 73, 74, 75, 76, 77, 78, 79, 80] (by decide +kernel) (by decide +kernel)
set_option maxRecDepth 20000 in
theorem gX10_block_X10_refuse : GoodIn wsX10_block (wsV RX10 113 RX10 yX10_refuse wsX10_refuse) := goodIn_app (goodIn_of _ (by decide +kernel)) ggX10_block_X10_refuse
set_option maxRecDepth 20000 in
theorem ggX10_block_X10_isBlock : GoodIn wsX10_block wsX10_isBlock := goodIn_r _ [22, 23, 24, 25, 26, 27, 7, 28, 29, 30, 31, 32, 33, 34, 35, 36, 37, 38, 39, 14, 40, 41, 42, 43, 44, 45, 46, 47, 48, 49, 50, 51, 52, 53, 54, 55, 56, 57, 58, 59, 60, 61, 62, 63, 64, 65, 66, 67, 68, 69, 70, 71, 72, 73, 74, 75, 76, 77, 78, 79, 80] (by decide +kernel) (by decide +kernel)
set_option maxRecDepth 20000 in
theorem gX10_block_X10_isBlock : GoodIn wsX10_block (wsV RX10 149 RX10 yX10_isBlock wsX10_isBlock) := goodIn_app (goodIn_of _ (by decide +kernel)) ggX10_block_X10_isBlock
set_option maxRecDepth 20000 in
theorem ggX10_isFree_X10_hasOf : GoodIn wsX10_isFree wsX10_hasOf := goodIn_r _ [6, 7, 8, 9, 10, 11, 12, 13, 14, 15, 16, 17, 18, 19, 20, 21, 22, 23, 24, 25, 26, 27, 28, 29, 30, 31, 32, 33, 34, 35, 36, 37, 38, 39, 40, 41] (by decide +kernel) (by decide +kernel)
set_option maxRecDepth 20000 in
theorem gX10_isFree_X10_hasOf : GoodIn wsX10_isFree (wsV RX10 139 RX10 yX10_hasOf wsX10_hasOf) := goodIn_app (goodIn_of _ (by decide +kernel)) ggX10_isFree_X10_hasOf
set_option maxRecDepth 20000 in
theorem ggX10_countSteps_X10_can : GoodIn wsX10_countSteps wsX10_can := goodIn_r _ [9, 10, 11, 12, 22, 23, 24, 25, 26, 27, 28, 29, 30, 31, 32, 33, 34, 35, 36, 37, 38, 39, 40, 41, 42, 43, 44, 45, 46, 47, 48, 49, 50, 51, 52, 53, 54] (by decide +kernel) (by decide +kernel)
set_option maxRecDepth 20000 in
theorem gX10_countSteps_X10_can : GoodIn wsX10_countSteps (wsV RX10 126 RX10 yX10_can wsX10_can) := goodIn_app (goodIn_of _ (by decide +kernel)) ggX10_countSteps_X10_can
set_option maxRecDepth 20000 in
theorem ggX10_countSteps_X10_isFree : GoodIn wsX10_countSteps wsX10_isFree := goodIn_r _ [16, 17, 18, 19, 20, 8, 21, 1, 3, 22, 23, 24, 25, 26, 27, 28, 29, 30, 31, 32, 33, 34, 35, 36, 37, 38, 39, 40, 41, 42, 43, 44, 45, 46, 47, 48, 49, 50, 51, 52, 53, 54] (by decide +kernel) (by decide +kernel)
set_option maxRecDepth 20000 in
theorem gX10_countSteps_X10_isFree : GoodIn wsX10_countSteps (wsV RX10 152 RX10 yX10_isFree wsX10_isFree) := goodIn_app (goodIn_of _ (by decide +kernel)) ggX10_countSteps_X10_isFree
set_option maxRecDepth 20000 in
theorem ggX10_change_X10_isBeginner : GoodIn wsX10_change wsX10_isBeginner := goodIn_r _ [14, 9, 42, 43, 44, 45, 46, 47, 48, 49, 50, 51, 52, 53, 54, 55, 56, 57, 58, 59, 60, 61, 62, 63, 64, 65, 66, 67, 68, 69, 70, 71, 72, 73, 74] (by decide +kernel) (by decide +kernel)
set_option maxRecDepth 20000 in
theorem gX10_change_X10_isBeginner : GoodIn wsX10_change (wsV RX10 119 RX10 yX10_isBeginner wsX10_isBeginner) := goodIn_app (goodIn_of _ (by decide +kernel)) ggX10_change_X10_isBeginner
set_option maxRecDepth 20000 in
theorem ggX10_change_X10_refuse : GoodIn wsX10_change wsX10_refuse := goodIn_r _ [18, 2, 42, 43, 44, 45, 46, 47, 48, 49, 50, 51, 52, 53, 54, 55, 56, 57, 58, 59, 60, 61, 62, 63, 64, 65, 66, 67, 68, 69, 70, 71, 72, 73, 74] (by decide +kernel) (by decide +kernel)
set_option maxRecDepth 20000 in
theorem gX10_change_X10_refuse : GoodIn wsX10_change (wsV RX10 113 RX10 yX10_refuse wsX10_refuse) := goodIn_app (goodIn_of _ (by decide +kernel)) ggX10_change_X10_refuse
set_option maxRecDepth 20000 in
theorem ggX10_change_X10_countSteps : GoodIn wsX10_change wsX10_countSteps := goodIn_r _ [22, 9, 6, 4, 7, 23, 24, 25, 13, 26, 27, 28, 5, 29, 30, 31, 32, 33, 34, 35, 36, 37, 42, 43, 44, 45, 46, 47, 48, 49, 50, 51, 52, 53, 54, 55, 56, 57, 58, 59, 60, 61, 62, 63, 64, 65, 66, 67, 68, 69, 70, 71, 72, 73, 74] (by decide +kernel) (by decide +kernel)
set_option maxRecDepth 20000 in
theorem gX10_change_X10_countSteps : GoodIn wsX10_change (wsV RX10 155 RX10 yX10_countSteps wsX10_countSteps) := goodIn_app (goodIn_of _ (by decide +kernel)) ggX10_change_X10_countSteps
set_option maxRecDepth 20000 in
theorem ggX10_change_X10_isFree : GoodIn wsX10_change wsX10_isFree := goodIn_r _ [32, 33, 34, 35, 36, 13, 37, 9, 4, 42, 43, 44, 45, 46, 47, 48, 49, 50, 51, 52, 53, 54, 55, 56, 57, 58, 59, 60, 61, 62, 63, 64, 65, 66, 67, 68, 69, 70, 71, 72, 73, 74] (by decide +kernel) (by decide +kernel)
set_option maxRecDepth 20000 in
theorem gX10_change_X10_isFree : GoodIn wsX10_change (wsV RX10 152 RX10 yX10_isFree wsX10_isFree) := goodIn_app (goodIn_of _ (by decide +kernel)) ggX10_change_X10_isFree
set_option maxRecDepth 20000 in
theorem ggX10_change_X10_takes : GoodIn wsX10_change wsX10_takes := goodIn_r _ [41, 4, 8, 9, 6, 23, 24, 25, 13, 26, 27, 28, 5, 42, 43, 44, 45, 46, 47, 48, 49, 50, 51, 52, 53, 54, 55, 56, 57, 58, 59, 60, 61, 62, 63, 64, 65, 66, 67, 68, 69, 70, 71, 72, 73, 74] (by decide +kernel) (by decide +kernel)
set_option maxRecDepth 20000 in
theorem gX10_change_X10_takes : GoodIn wsX10_change (wsV RX10 159 RX10 yX10_takes wsX10_takes) := goodIn_app (goodIn_of _ (by decide +kernel)) ggX10_change_X10_takes
set_option maxRecDepth 20000 in
theorem ggX10_takes_X10_can : GoodIn wsX10_takes wsX10_can := goodIn_r _ [9, 10, 11, 12, 13, 14, 15, 16, 17, 18, 19, 20, 21, 22, 23, 24, 25, 26, 27, 28, 29, 30, 31, 32, 33, 34, 35, 36, 37, 38, 39, 40, 41, 42, 43, 44, 45] (by decide +kernel) (by decide +kernel)
set_option maxRecDepth 20000 in
theorem gX10_takes_X10_can : GoodIn wsX10_takes (wsV RX10 126 RX10 yX10_can wsX10_can) := goodIn_app (goodIn_of _ (by decide +kernel)) ggX10_takes_X10_can
set_option maxRecDepth 20000 in
theorem ggX10_meeting_X10_isBeginner : GoodIn wsX10_meeting wsX10_isBeginner := goodIn_r _ [10, 11, 19, 20, 21, 22, 23, 24, 25, 26, 27, 28, 29, 30, 31, 32, 33, 34, 35, 36, 37, 38, 39, 40, 41, 42, 43, 44, 45, 46, 47, 48, 49, 50, 51] (by decide +kernel) (by decide +kernel)
set_option maxRecDepth 20000 in
theorem gX10_meeting_X10_isBeginner : GoodIn wsX10_meeting (wsV RX10 119 RX10 yX10_isBeginner wsX10_isBeginner) := goodIn_app (goodIn_of _ (by decide +kernel)) ggX10_meeting_X10_isBeginner
set_option maxRecDepth 20000 in
theorem ggX10_meeting_X10_refuse : GoodIn wsX10_meeting wsX10_refuse := goodIn_r _ [15, 2, 19, 20, 21, 22, 23, 24, 25, 26, 27, 28, 29, 30, 31, 32, 33, 34, 35, 36, 37, 38, 39, 40, 41, 42, 43, 44, 45, 46, 47, 48, 49, 50, 51] (by decide +kernel) (by decide +kernel)
set_option maxRecDepth 20000 in
theorem gX10_meeting_X10_refuse : GoodIn wsX10_meeting (wsV RX10 113 RX10 yX10_refuse wsX10_refuse) := goodIn_app (goodIn_of _ (by decide +kernel)) ggX10_meeting_X10_refuse
set_option maxRecDepth 20000 in
theorem ggX10_meeting_X10_isDay : GoodIn wsX10_meeting wsX10_isDay := goodIn_r _ [18] (by decide +kernel) (by decide +kernel)
set_option maxRecDepth 20000 in
theorem gX10_meeting_X10_isDay : GoodIn wsX10_meeting (va_wsS RX10 162 yX10_isDay wsX10_isDay) := goodIn_app (goodIn_of _ (by decide +kernel)) ggX10_meeting_X10_isDay
set_option maxRecDepth 20000 in
theorem ggX10_tell_X10_no : GoodIn wsX10_tell wsX10_no := goodIn_r _ [13, 2, 17, 18, 19, 20, 21, 22, 23, 24, 25, 26, 27, 28, 29, 30, 31, 32, 33, 34, 35, 36, 37, 38, 39, 40, 41, 42, 43, 44, 45, 46, 47, 48, 49] (by decide +kernel) (by decide +kernel)
set_option maxRecDepth 20000 in
theorem gX10_tell_X10_no : GoodIn wsX10_tell (wsV RX10 89 RX10 yX10_no wsX10_no) := goodIn_app (goodIn_of _ (by decide +kernel)) ggX10_tell_X10_no
set_option maxRecDepth 20000 in
theorem ggX10_tell_X10_isDay : GoodIn wsX10_tell wsX10_isDay := goodIn_r _ [16] (by decide +kernel) (by decide +kernel)
set_option maxRecDepth 20000 in
theorem gX10_tell_X10_isDay : GoodIn wsX10_tell (va_wsS RX10 162 yX10_isDay wsX10_isDay) := goodIn_app (goodIn_of _ (by decide +kernel)) ggX10_tell_X10_isDay
set_option maxRecDepth 20000 in
theorem ggX10_met_X10_isBeginner : GoodIn wsX10_met wsX10_isBeginner := goodIn_r _ [14, 15, 23, 24, 25, 26, 27, 28, 29, 30, 31, 32, 33, 34, 35, 36, 37, 38, 39, 40, 41, 42, 43, 44, 45, 46, 47, 48, 49, 50, 51, 52, 53, 54, 55] (by decide +kernel) (by decide +kernel)
set_option maxRecDepth 20000 in
theorem gX10_met_X10_isBeginner : GoodIn wsX10_met (wsV RX10 119 RX10 yX10_isBeginner wsX10_isBeginner) := goodIn_app (goodIn_of _ (by decide +kernel)) ggX10_met_X10_isBeginner
set_option maxRecDepth 20000 in
theorem ggX10_met_X10_refuse : GoodIn wsX10_met wsX10_refuse := goodIn_r _ [19, 2, 23, 24, 25, 26, 27, 28, 29, 30, 31, 32, 33, 34, 35, 36, 37, 38, 39, 40, 41, 42, 43, 44, 45, 46, 47, 48, 49, 50, 51, 52, 53, 54, 55] (by decide +kernel) (by decide +kernel)
set_option maxRecDepth 20000 in
theorem gX10_met_X10_refuse : GoodIn wsX10_met (wsV RX10 113 RX10 yX10_refuse wsX10_refuse) := goodIn_app (goodIn_of _ (by decide +kernel)) ggX10_met_X10_refuse
set_option maxRecDepth 20000 in
theorem ggX10_met_X10_isDay : GoodIn wsX10_met wsX10_isDay := goodIn_r _ [22] (by decide +kernel) (by decide +kernel)
set_option maxRecDepth 20000 in
theorem gX10_met_X10_isDay : GoodIn wsX10_met (va_wsS RX10 162 yX10_isDay wsX10_isDay) := goodIn_app (goodIn_of _ (by decide +kernel)) ggX10_met_X10_isDay
set_option maxRecDepth 20000 in
theorem ggX10_goal_X10_isBeginner : GoodIn wsX10_goal wsX10_isBeginner := goodIn_r _ [12, 13, 21, 22, 23, 24, 25, 26, 27, 28, 29, 30, 31, 32, 33, 34, 35, 36, 37, 38, 39, 40, 41, 42, 43, 44, 45, 46, 47, 48, 49, 50, 51, 52, 53] (by decide +kernel) (by decide +kernel)
set_option maxRecDepth 20000 in
theorem gX10_goal_X10_isBeginner : GoodIn wsX10_goal (wsV RX10 119 RX10 yX10_isBeginner wsX10_isBeginner) := goodIn_app (goodIn_of _ (by decide +kernel)) ggX10_goal_X10_isBeginner
set_option maxRecDepth 20000 in
theorem ggX10_goal_X10_refuse : GoodIn wsX10_goal wsX10_refuse := goodIn_r _ [17, 2, 21, 22, 23, 24, 25, 26, 27, 28, 29, 30, 31, 32, 33, 34, 35, 36, 37, 38, 39, 40, 41, 42, 43, 44, 45, 46, 47, 48, 49, 50, 51, 52, 53] (by decide +kernel) (by decide +kernel)
set_option maxRecDepth 20000 in
theorem gX10_goal_X10_refuse : GoodIn wsX10_goal (wsV RX10 113 RX10 yX10_refuse wsX10_refuse) := goodIn_app (goodIn_of _ (by decide +kernel)) ggX10_goal_X10_refuse
set_option maxRecDepth 20000 in
theorem ggX10_goal_X10_isDay : GoodIn wsX10_goal wsX10_isDay := goodIn_r _ [20] (by decide +kernel) (by decide +kernel)
set_option maxRecDepth 20000 in
theorem gX10_goal_X10_isDay : GoodIn wsX10_goal (va_wsS RX10 162 yX10_isDay wsX10_isDay) := goodIn_app (goodIn_of _ (by decide +kernel)) ggX10_goal_X10_isDay
set_option maxRecDepth 20000 in
theorem ggX10_confirm_X10_no : GoodIn wsX10_confirm wsX10_no := goodIn_r _ [9, 2, 13, 14, 15, 16, 17, 18, 19, 20, 21, 22, 23, 24, 25, 26, 27, 28, 29, 30, 31, 32, 33, 34, 35, 36, 37, 38, 39, 40, 41, 42, 43, 44, 45] (by decide +kernel) (by decide +kernel)
set_option maxRecDepth 20000 in
theorem gX10_confirm_X10_no : GoodIn wsX10_confirm (wsV RX10 89 RX10 yX10_no wsX10_no) := goodIn_app (goodIn_of _ (by decide +kernel)) ggX10_confirm_X10_no
set_option maxRecDepth 20000 in
theorem ggX10_confirm_X10_isDay : GoodIn wsX10_confirm wsX10_isDay := goodIn_r _ [12] (by decide +kernel) (by decide +kernel)
set_option maxRecDepth 20000 in
theorem gX10_confirm_X10_isDay : GoodIn wsX10_confirm (va_wsS RX10 162 yX10_isDay wsX10_isDay) := goodIn_app (goodIn_of _ (by decide +kernel)) ggX10_confirm_X10_isDay
set_option maxRecDepth 20000 in
theorem ggX10_goalAt_X10_refuse : GoodIn wsX10_goalAt wsX10_refuse := goodIn_r _ [9, 2, 19, 20, 21, 22, 23, 24, 25, 26, 27, 28, 29, 30, 31, 32, 33, 34, 35, 36, 37, 38, 39, 40, 41, 42, 43, 44, 45, 46, 47, 48, 49, 50, 51] (by decide +kernel) (by decide +kernel)
set_option maxRecDepth 20000 in
theorem gX10_goalAt_X10_refuse : GoodIn wsX10_goalAt (wsV RX10 113 RX10 yX10_refuse wsX10_refuse) := goodIn_app (goodIn_of _ (by decide +kernel)) ggX10_goalAt_X10_refuse
set_option maxRecDepth 20000 in
theorem ggX10_goalAt_X10_isDay : GoodIn wsX10_goalAt wsX10_isDay := goodIn_r _ [12] (by decide +kernel) (by decide +kernel)
set_option maxRecDepth 20000 in
theorem gX10_goalAt_X10_isDay : GoodIn wsX10_goalAt (va_wsS RX10 162 yX10_isDay wsX10_isDay) := goodIn_app (goodIn_of _ (by decide +kernel)) ggX10_goalAt_X10_isDay
set_option maxRecDepth 20000 in
theorem ggX10_goalAt_X10_isReached : GoodIn wsX10_goalAt wsX10_isReached := goodIn_r _ [16, 17, 4, 18, 19, 20, 21, 22, 23, 24, 25, 26, 27, 28, 29, 30, 31, 32, 33, 34, 35, 36, 37, 38, 39, 40, 41, 42, 43, 44, 45, 46, 47, 48, 49, 50, 51] (by decide +kernel) (by decide +kernel)
set_option maxRecDepth 20000 in
theorem gX10_goalAt_X10_isReached : GoodIn wsX10_goalAt (wsV RX10 174 RX10 yX10_isReached wsX10_isReached) := goodIn_app (goodIn_of _ (by decide +kernel)) ggX10_goalAt_X10_isReached
set_option maxRecDepth 20000 in
theorem ggX10_tells_X10_common : GoodIn wsX10_tells wsX10_common := goodIn_r _ [6, 7, 8, 9, 10] (by decide +kernel) (by decide +kernel)
set_option maxRecDepth 20000 in
theorem gX10_tells_X10_common : GoodIn wsX10_tells (va_wsS RX10 183 yX10_common wsX10_common) := goodIn_app (goodIn_of _ (by decide +kernel)) ggX10_tells_X10_common
set_option maxRecDepth 20000 in
theorem ggX10_run_X10_no : GoodIn wsX10_run wsX10_no := goodIn_r _ [10, 2, 11, 12, 13, 14, 15, 16, 17, 18, 19, 20, 21, 22, 23, 24, 25, 26, 27, 28, 29, 30, 31, 32, 33, 34, 35, 36, 37, 38, 39, 40, 41, 42, 43] (by decide +kernel) (by decide +kernel)
set_option maxRecDepth 20000 in
theorem gX10_run_X10_no : GoodIn wsX10_run (wsV RX10 89 RX10 yX10_no wsX10_no) := goodIn_app (goodIn_of _ (by decide +kernel)) ggX10_run_X10_no
set_option maxRecDepth 20000 in
theorem ggX10_lasts_X10_no : GoodIn wsX10_lasts wsX10_no := goodIn_r _ [10, 2, 24, 25, 26, 27, 28, 29, 30, 31, 32, 33, 34, 35, 36, 37, 38, 39, 40, 41, 42, 43, 44, 45, 46, 47, 48, 49, 50, 51, 52, 53, 54, 55, 56] (by decide +kernel) (by decide +kernel)
set_option maxRecDepth 20000 in
theorem gX10_lasts_X10_no : GoodIn wsX10_lasts (wsV RX10 89 RX10 yX10_no wsX10_no) := goodIn_app (goodIn_of _ (by decide +kernel)) ggX10_lasts_X10_no
set_option maxRecDepth 20000 in
theorem ggX10_lasts_X10_tells : GoodIn wsX10_lasts wsX10_tells := goodIn_r _ [14, 15, 16, 17, 18, 9, 19, 20, 21, 22, 23, 24, 25, 26, 27, 28, 29, 30, 31, 32, 33, 34, 35, 36, 37, 38, 39, 40, 41, 42, 43, 44, 45, 46, 47, 48, 49, 50, 51, 52, 53, 54, 55, 56] (by decide +kernel) (by decide +kernel)
set_option maxRecDepth 20000 in
theorem gX10_lasts_X10_tells : GoodIn wsX10_lasts (wsV RX10 193 RX10 yX10_tells wsX10_tells) := goodIn_app (goodIn_of _ (by decide +kernel)) ggX10_lasts_X10_tells
set_option maxRecDepth 20000 in
theorem ggX10_trial_X10_trayed : GoodIn wsX10_trial wsX10_trayed := goodIn_r _ [8, 1, 9, 10, 11, 12, 13, 14, 15, 16, 17, 18, 19, 20, 21, 22, 23, 24, 25, 26, 27, 28, 29, 30, 31, 32, 33, 34, 35, 36, 37, 38, 39, 40, 41] (by decide +kernel) (by decide +kernel)
set_option maxRecDepth 20000 in
theorem gX10_trial_X10_trayed : GoodIn wsX10_trial (wsV RX10 93 RX10 yX10_trayed wsX10_trayed) := goodIn_app (goodIn_of _ (by decide +kernel)) ggX10_trial_X10_trayed
set_option maxRecDepth 20000 in
theorem ggX10_gain_X10_trial : GoodIn wsX10_gain wsX10_trial := goodIn_r _ [7, 8, 9, 10, 11, 12, 13, 6, 14, 39, 40, 41, 42, 43, 44, 45, 46, 47, 48, 49, 50, 51, 52, 53, 54, 55, 56, 57, 58, 59, 60, 61, 62, 63, 64, 65, 66, 67, 68, 69, 70, 71] (by decide +kernel) (by decide +kernel)
set_option maxRecDepth 20000 in
theorem gX10_gain_X10_trial : GoodIn wsX10_gain (wsV RX10 199 RX10 yX10_trial wsX10_trial) := goodIn_app (goodIn_of _ (by decide +kernel)) ggX10_gain_X10_trial
set_option maxRecDepth 20000 in
theorem ggX10_gain_J6_bitCount_0f7a4 : GoodIn wsX10_gain wsJ6_bitCount_0f7a4 := goodIn_r _ [18, 19, 20, 21] (by decide +kernel) (by decide +kernel)
set_option maxRecDepth 20000 in
theorem gX10_gain_J6_bitCount_0f7a4 : GoodIn wsX10_gain (va_wsS RX10 203 yJ6_bitCount_0f7a4 wsJ6_bitCount_0f7a4) := goodIn_app (goodIn_of _ (by decide +kernel)) ggX10_gain_J6_bitCount_0f7a4
set_option maxRecDepth 20000 in
theorem ggX10_gain_X10_sumOf : GoodIn wsX10_gain wsX10_sumOf := goodIn_r _ [25, 9, 39, 40, 41, 42, 43, 44, 45, 46, 47, 48, 49, 50, 51, 52, 53, 54, 55, 56, 57, 58, 59, 60, 61, 62, 63, 64, 65, 66, 67, 68, 69, 70, 71] (by decide +kernel) (by decide +kernel)
set_option maxRecDepth 20000 in
theorem gX10_gain_X10_sumOf : GoodIn wsX10_gain (wsV RX10 208 RX10 yX10_sumOf wsX10_sumOf) := goodIn_app (goodIn_of _ (by decide +kernel)) ggX10_gain_X10_sumOf
set_option maxRecDepth 20000 in
theorem ggX10_gain_X10_tells : GoodIn wsX10_gain wsX10_tells := goodIn_r _ [29, 30, 31, 32, 33, 6, 34, 35, 36, 37, 38, 39, 40, 41, 42, 43, 44, 45, 46, 47, 48, 49, 50, 51, 52, 53, 54, 55, 56, 57, 58, 59, 60, 61, 62, 63, 64, 65, 66, 67, 68, 69, 70, 71] (by decide +kernel) (by decide +kernel)
set_option maxRecDepth 20000 in
theorem gX10_gain_X10_tells : GoodIn wsX10_gain (wsV RX10 193 RX10 yX10_tells wsX10_tells) := goodIn_app (goodIn_of _ (by decide +kernel)) ggX10_gain_X10_tells
set_option maxRecDepth 20000 in
theorem ggX10_chance_X10_trial : GoodIn wsX10_chance wsX10_trial := goodIn_r _ [7, 8, 9, 10, 11, 12, 13, 6, 14, 39, 40, 41, 42, 43, 44, 45, 46, 47, 48, 49, 50, 51, 52, 53, 54, 55, 56, 57, 58, 59, 60, 61, 62, 63, 64, 65, 66, 67, 68, 69, 70, 71] (by decide +kernel) (by decide +kernel)
set_option maxRecDepth 20000 in
theorem gX10_chance_X10_trial : GoodIn wsX10_chance (wsV RX10 199 RX10 yX10_trial wsX10_trial) := goodIn_app (goodIn_of _ (by decide +kernel)) ggX10_chance_X10_trial
set_option maxRecDepth 20000 in
theorem ggX10_chance_J6_bitCount_0f7a4 : GoodIn wsX10_chance wsJ6_bitCount_0f7a4 := goodIn_r _ [18, 19, 20, 21] (by decide +kernel) (by decide +kernel)
set_option maxRecDepth 20000 in
theorem gX10_chance_J6_bitCount_0f7a4 : GoodIn wsX10_chance (va_wsS RX10 203 yJ6_bitCount_0f7a4 wsJ6_bitCount_0f7a4) := goodIn_app (goodIn_of _ (by decide +kernel)) ggX10_chance_J6_bitCount_0f7a4
set_option maxRecDepth 20000 in
theorem ggX10_chance_X10_sumOf : GoodIn wsX10_chance wsX10_sumOf := goodIn_r _ [25, 9, 39, 40, 41, 42, 43, 44, 45, 46, 47, 48, 49, 50, 51, 52, 53, 54, 55, 56, 57, 58, 59, 60, 61, 62, 63, 64, 65, 66, 67, 68, 69, 70, 71] (by decide +kernel) (by decide +kernel)
set_option maxRecDepth 20000 in
theorem gX10_chance_X10_sumOf : GoodIn wsX10_chance (wsV RX10 208 RX10 yX10_sumOf wsX10_sumOf) := goodIn_app (goodIn_of _ (by decide +kernel)) ggX10_chance_X10_sumOf
set_option maxRecDepth 20000 in
theorem ggX10_chance_X10_tells : GoodIn wsX10_chance wsX10_tells := goodIn_r _ [29, 30, 31, 32, 33, 6, 34, 35, 36, 37, 38, 39, 40, 41, 42, 43, 44, 45, 46, 47, 48, 49, 50, 51, 52, 53, 54, 55, 56, 57, 58, 59, 60, 61, 62, 63, 64, 65, 66, 67, 68, 69, 70, 71] (by decide +kernel) (by decide +kernel)
set_option maxRecDepth 20000 in
theorem gX10_chance_X10_tells : GoodIn wsX10_chance (wsV RX10 193 RX10 yX10_tells wsX10_tells) := goodIn_app (goodIn_of _ (by decide +kernel)) ggX10_chance_X10_tells
set_option maxRecDepth 20000 in
theorem ggX10_draw_X10_refuse : GoodIn wsX10_draw wsX10_refuse := goodIn_r _ [10, 2, 11, 12, 13, 14, 15, 16, 17, 18, 19, 20, 21, 22, 23, 24, 25, 26, 27, 28, 29, 30, 31, 32, 33, 34, 35, 36, 37, 38, 39, 40, 41, 42, 43] (by decide +kernel) (by decide +kernel)
set_option maxRecDepth 20000 in
theorem gX10_draw_X10_refuse : GoodIn wsX10_draw (wsV RX10 113 RX10 yX10_refuse wsX10_refuse) := goodIn_app (goodIn_of _ (by decide +kernel)) ggX10_draw_X10_refuse
abbrev vwCl : List vw_C := [(RX0, TX0, 6), (RX1, TX1, 2), (RX2, TX2, 5), (RX3, TX3, 7), (RX4, TX4, 3), (RX5, TX5, 5), (RX6, TX6, 3), (RX7, TX7, 4), (RX8, TX8, 3), (RX9, TX9, 10), (RX10, TX10, 33)]
end
section
theorem dX0_init_0 : decode cX0_init 0 = .ok (.aload_n 0, 1) := by decide +kernel
theorem dX0_init_1 : decode cX0_init 1 = .ok (.invokespecial 3, 3) := by decide +kernel
theorem dX0_init_4 : decode cX0_init 4 = .ok (.aload_n 0, 1) := by decide +kernel
theorem dX0_init_5 : decode cX0_init 5 = .ok (.bipush 12, 2) := by decide +kernel
theorem dX0_init_7 : decode cX0_init 7 = .ok (.newarray .int, 2) := by decide +kernel
theorem dX0_init_9 : decode cX0_init 9 = .ok (.putfield 9, 3) := by decide +kernel
theorem dX0_init_12 : decode cX0_init 12 = .ok (.aload_n 0, 1) := by decide +kernel
theorem dX0_init_13 : decode cX0_init 13 = .ok (.sipush 192, 3) := by decide +kernel
theorem dX0_init_16 : decode cX0_init 16 = .ok (.newarray .int, 2) := by decide +kernel
theorem dX0_init_18 : decode cX0_init 18 = .ok (.putfield 15, 3) := by decide +kernel
theorem dX0_init_21 : decode cX0_init 21 = .ok (.aload_n 0, 1) := by decide +kernel
theorem dX0_init_22 : decode cX0_init 22 = .ok (.sipush 192, 3) := by decide +kernel
theorem dX0_init_25 : decode cX0_init 25 = .ok (.newarray .int, 2) := by decide +kernel
theorem dX0_init_27 : decode cX0_init 27 = .ok (.putfield 18, 3) := by decide +kernel
theorem dX0_init_30 : decode cX0_init 30 = .ok (.aload_n 0, 1) := by decide +kernel
theorem dX0_init_31 : decode cX0_init 31 = .ok (.sipush 192, 3) := by decide +kernel
theorem dX0_init_34 : decode cX0_init 34 = .ok (.newarray .boolean, 2) := by decide +kernel
theorem dX0_init_36 : decode cX0_init 36 = .ok (.putfield 21, 3) := by decide +kernel
theorem dX0_init_39 : decode cX0_init 39 = .ok (.aload_n 0, 1) := by decide +kernel
theorem dX0_init_40 : decode cX0_init 40 = .ok (.iconst 0, 1) := by decide +kernel
theorem dX0_init_41 : decode cX0_init 41 = .ok (.putfield 25, 3) := by decide +kernel
theorem dX0_init_44 : decode cX0_init 44 = .ok (.aload_n 0, 1) := by decide +kernel
theorem dX0_init_45 : decode cX0_init 45 = .ok (.iconst 0, 1) := by decide +kernel
theorem dX0_init_46 : decode cX0_init 46 = .ok (.putfield 29, 3) := by decide +kernel
theorem dX0_init_49 : decode cX0_init 49 = .ok (.return_, 1) := by decide +kernel
theorem dX0_spot_0 : decode cX0_spot 0 = .ok (.iload_n 0, 1) := by decide +kernel
theorem dX0_spot_1 : decode cX0_spot 1 = .ok (.bipush 16, 2) := by decide +kernel
theorem dX0_spot_3 : decode cX0_spot 3 = .ok (.imul, 1) := by decide +kernel
theorem dX0_spot_4 : decode cX0_spot 4 = .ok (.iload_n 1, 1) := by decide +kernel
theorem dX0_spot_5 : decode cX0_spot 5 = .ok (.iadd, 1) := by decide +kernel
theorem dX0_spot_6 : decode cX0_spot 6 = .ok (.ireturn, 1) := by decide +kernel
theorem dX0_isElder_0 : decode cX0_isElder 0 = .ok (.iload_n 1, 1) := by decide +kernel
theorem dX0_isElder_1 : decode cX0_isElder 1 = .ok (.ifCond .lt 15, 3) := by decide +kernel
theorem dX0_isElder_4 : decode cX0_isElder 4 = .ok (.iload_n 1, 1) := by decide +kernel
theorem dX0_isElder_5 : decode cX0_isElder 5 = .ok (.aload_n 0, 1) := by decide +kernel
theorem dX0_isElder_6 : decode cX0_isElder 6 = .ok (.getfield 25, 3) := by decide +kernel
theorem dX0_isElder_9 : decode cX0_isElder 9 = .ok (.if_icmp .ge 7, 3) := by decide +kernel
theorem dX0_isElder_12 : decode cX0_isElder 12 = .ok (.iconst 1, 1) := by decide +kernel
theorem dX0_isElder_13 : decode cX0_isElder 13 = .ok (.goto 4, 3) := by decide +kernel
theorem dX0_isElder_16 : decode cX0_isElder 16 = .ok (.iconst 0, 1) := by decide +kernel
theorem dX0_isElder_17 : decode cX0_isElder 17 = .ok (.ireturn, 1) := by decide +kernel
theorem dX0_isBeginner_0 : decode cX0_isBeginner 0 = .ok (.iload_n 1, 1) := by decide +kernel
theorem dX0_isBeginner_1 : decode cX0_isBeginner 1 = .ok (.ifCond .lt 15, 3) := by decide +kernel
theorem dX0_isBeginner_4 : decode cX0_isBeginner 4 = .ok (.iload_n 1, 1) := by decide +kernel
theorem dX0_isBeginner_5 : decode cX0_isBeginner 5 = .ok (.aload_n 0, 1) := by decide +kernel
theorem dX0_isBeginner_6 : decode cX0_isBeginner 6 = .ok (.getfield 29, 3) := by decide +kernel
theorem dX0_isBeginner_9 : decode cX0_isBeginner 9 = .ok (.if_icmp .ge 7, 3) := by decide +kernel
theorem dX0_isBeginner_12 : decode cX0_isBeginner 12 = .ok (.iconst 1, 1) := by decide +kernel
theorem dX0_isBeginner_13 : decode cX0_isBeginner 13 = .ok (.goto 4, 3) := by decide +kernel
theorem dX0_isBeginner_16 : decode cX0_isBeginner 16 = .ok (.iconst 0, 1) := by decide +kernel
theorem dX0_isBeginner_17 : decode cX0_isBeginner 17 = .ok (.ireturn, 1) := by decide +kernel
theorem dX0_areTwo_0 : decode cX0_areTwo 0 = .ok (.aload_n 0, 1) := by decide +kernel
theorem dX0_areTwo_1 : decode cX0_areTwo 1 = .ok (.iload_n 1, 1) := by decide +kernel
theorem dX0_areTwo_2 : decode cX0_areTwo 2 = .ok (.invokevirtual 32, 3) := by decide +kernel
theorem dX0_areTwo_5 : decode cX0_areTwo 5 = .ok (.ifCond .eq 15, 3) := by decide +kernel
theorem dX0_areTwo_8 : decode cX0_areTwo 8 = .ok (.aload_n 0, 1) := by decide +kernel
theorem dX0_areTwo_9 : decode cX0_areTwo 9 = .ok (.iload_n 2, 1) := by decide +kernel
theorem dX0_areTwo_10 : decode cX0_areTwo 10 = .ok (.invokevirtual 36, 3) := by decide +kernel
theorem dX0_areTwo_13 : decode cX0_areTwo 13 = .ok (.ifCond .eq 7, 3) := by decide +kernel
theorem dX0_areTwo_16 : decode cX0_areTwo 16 = .ok (.iconst 1, 1) := by decide +kernel
theorem dX0_areTwo_17 : decode cX0_areTwo 17 = .ok (.goto 4, 3) := by decide +kernel
theorem dX0_areTwo_20 : decode cX0_areTwo 20 = .ok (.iconst 0, 1) := by decide +kernel
theorem dX0_areTwo_21 : decode cX0_areTwo 21 = .ok (.ireturn, 1) := by decide +kernel
theorem dX0_addElder_0 : decode cX0_addElder 0 = .ok (.aload_n 0, 1) := by decide +kernel
theorem dX0_addElder_1 : decode cX0_addElder 1 = .ok (.getfield 9, 3) := by decide +kernel
theorem dX0_addElder_4 : decode cX0_addElder 4 = .ok (.aload_n 0, 1) := by decide +kernel
theorem dX0_addElder_5 : decode cX0_addElder 5 = .ok (.getfield 25, 3) := by decide +kernel
theorem dX0_addElder_8 : decode cX0_addElder 8 = .ok (.iload_n 1, 1) := by decide +kernel
theorem dX0_addElder_9 : decode cX0_addElder 9 = .ok (.iastore, 1) := by decide +kernel
theorem dX0_addElder_10 : decode cX0_addElder 10 = .ok (.aload_n 0, 1) := by decide +kernel
theorem dX0_addElder_11 : decode cX0_addElder 11 = .ok (.dup, 1) := by decide +kernel
theorem dX0_addElder_12 : decode cX0_addElder 12 = .ok (.getfield 25, 3) := by decide +kernel
theorem dX0_addElder_15 : decode cX0_addElder 15 = .ok (.iconst 1, 1) := by decide +kernel
theorem dX0_addElder_16 : decode cX0_addElder 16 = .ok (.iadd, 1) := by decide +kernel
theorem dX0_addElder_17 : decode cX0_addElder 17 = .ok (.putfield 25, 3) := by decide +kernel
theorem dX0_addElder_20 : decode cX0_addElder 20 = .ok (.aload_n 0, 1) := by decide +kernel
theorem dX0_addElder_21 : decode cX0_addElder 21 = .ok (.getfield 25, 3) := by decide +kernel
theorem dX0_addElder_24 : decode cX0_addElder 24 = .ok (.iconst 1, 1) := by decide +kernel
theorem dX0_addElder_25 : decode cX0_addElder 25 = .ok (.isub, 1) := by decide +kernel
theorem dX0_addElder_26 : decode cX0_addElder 26 = .ok (.ireturn, 1) := by decide +kernel
theorem dX0_addBeginner_0 : decode cX0_addBeginner 0 = .ok (.aload_n 0, 1) := by decide +kernel
theorem dX0_addBeginner_1 : decode cX0_addBeginner 1 = .ok (.dup, 1) := by decide +kernel
theorem dX0_addBeginner_2 : decode cX0_addBeginner 2 = .ok (.getfield 29, 3) := by decide +kernel
theorem dX0_addBeginner_5 : decode cX0_addBeginner 5 = .ok (.iconst 1, 1) := by decide +kernel
theorem dX0_addBeginner_6 : decode cX0_addBeginner 6 = .ok (.iadd, 1) := by decide +kernel
theorem dX0_addBeginner_7 : decode cX0_addBeginner 7 = .ok (.putfield 29, 3) := by decide +kernel
theorem dX0_addBeginner_10 : decode cX0_addBeginner 10 = .ok (.aload_n 0, 1) := by decide +kernel
theorem dX0_addBeginner_11 : decode cX0_addBeginner 11 = .ok (.getfield 29, 3) := by decide +kernel
theorem dX0_addBeginner_14 : decode cX0_addBeginner 14 = .ok (.iconst 1, 1) := by decide +kernel
theorem dX0_addBeginner_15 : decode cX0_addBeginner 15 = .ok (.isub, 1) := by decide +kernel
theorem dX0_addBeginner_16 : decode cX0_addBeginner 16 = .ok (.ireturn, 1) := by decide +kernel
theorem dX0_setLiking_0 : decode cX0_setLiking 0 = .ok (.iload_n 3, 1) := by decide +kernel
theorem dX0_setLiking_1 : decode cX0_setLiking 1 = .ok (.ifCond .eq 10, 3) := by decide +kernel
theorem dX0_setLiking_4 : decode cX0_setLiking 4 = .ok (.aload_n 0, 1) := by decide +kernel
theorem dX0_setLiking_5 : decode cX0_setLiking 5 = .ok (.getfield 15, 3) := by decide +kernel
theorem dX0_setLiking_8 : decode cX0_setLiking 8 = .ok (.goto 7, 3) := by decide +kernel
theorem dX0_setLiking_11 : decode cX0_setLiking 11 = .ok (.aload_n 0, 1) := by decide +kernel
theorem dX0_setLiking_12 : decode cX0_setLiking 12 = .ok (.getfield 18, 3) := by decide +kernel
theorem dX0_setLiking_15 : decode cX0_setLiking 15 = .ok (.astore 5, 2) := by decide +kernel
theorem dX0_setLiking_17 : decode cX0_setLiking 17 = .ok (.aload 5, 2) := by decide +kernel
theorem dX0_setLiking_19 : decode cX0_setLiking 19 = .ok (.iload_n 1, 1) := by decide +kernel
theorem dX0_setLiking_20 : decode cX0_setLiking 20 = .ok (.iload_n 2, 1) := by decide +kernel
theorem dX0_setLiking_21 : decode cX0_setLiking 21 = .ok (.invokestatic 39, 3) := by decide +kernel
theorem dX0_setLiking_24 : decode cX0_setLiking 24 = .ok (.iload 4, 2) := by decide +kernel
theorem dX0_setLiking_26 : decode cX0_setLiking 26 = .ok (.iastore, 1) := by decide +kernel
theorem dX0_setLiking_27 : decode cX0_setLiking 27 = .ok (.return_, 1) := by decide +kernel
theorem dX0_isBarred_0 : decode cX0_isBarred 0 = .ok (.aload_n 0, 1) := by decide +kernel
theorem dX0_isBarred_1 : decode cX0_isBarred 1 = .ok (.getfield 21, 3) := by decide +kernel
theorem dX0_isBarred_4 : decode cX0_isBarred 4 = .ok (.iload_n 1, 1) := by decide +kernel
theorem dX0_isBarred_5 : decode cX0_isBarred 5 = .ok (.iload_n 2, 1) := by decide +kernel
theorem dX0_isBarred_6 : decode cX0_isBarred 6 = .ok (.invokestatic 39, 3) := by decide +kernel
theorem dX0_isBarred_9 : decode cX0_isBarred 9 = .ok (.baload, 1) := by decide +kernel
theorem dX0_isBarred_10 : decode cX0_isBarred 10 = .ok (.ireturn, 1) := by decide +kernel
theorem dX0_setBarred_0 : decode cX0_setBarred 0 = .ok (.aload_n 0, 1) := by decide +kernel
theorem dX0_setBarred_1 : decode cX0_setBarred 1 = .ok (.getfield 21, 3) := by decide +kernel
theorem dX0_setBarred_4 : decode cX0_setBarred 4 = .ok (.iload_n 1, 1) := by decide +kernel
theorem dX0_setBarred_5 : decode cX0_setBarred 5 = .ok (.iload_n 2, 1) := by decide +kernel
theorem dX0_setBarred_6 : decode cX0_setBarred 6 = .ok (.invokestatic 39, 3) := by decide +kernel
theorem dX0_setBarred_9 : decode cX0_setBarred 9 = .ok (.iload_n 3, 1) := by decide +kernel
theorem dX0_setBarred_10 : decode cX0_setBarred 10 = .ok (.bastore, 1) := by decide +kernel
theorem dX0_setBarred_11 : decode cX0_setBarred 11 = .ok (.return_, 1) := by decide +kernel
theorem dX0_canPair_0 : decode cX0_canPair 0 = .ok (.iload_n 1, 1) := by decide +kernel
theorem dX0_canPair_1 : decode cX0_canPair 1 = .ok (.iload_n 2, 1) := by decide +kernel
theorem dX0_canPair_2 : decode cX0_canPair 2 = .ok (.invokestatic 39, 3) := by decide +kernel
theorem dX0_canPair_5 : decode cX0_canPair 5 = .ok (.istore_n 3, 1) := by decide +kernel
theorem dX0_canPair_6 : decode cX0_canPair 6 = .ok (.aload_n 0, 1) := by decide +kernel
theorem dX0_canPair_7 : decode cX0_canPair 7 = .ok (.getfield 15, 3) := by decide +kernel
theorem dX0_canPair_10 : decode cX0_canPair 10 = .ok (.iload_n 3, 1) := by decide +kernel
theorem dX0_canPair_11 : decode cX0_canPair 11 = .ok (.iaload, 1) := by decide +kernel
theorem dX0_canPair_12 : decode cX0_canPair 12 = .ok (.ifCond .eq 25, 3) := by decide +kernel
theorem dX0_canPair_15 : decode cX0_canPair 15 = .ok (.aload_n 0, 1) := by decide +kernel
theorem dX0_canPair_16 : decode cX0_canPair 16 = .ok (.getfield 18, 3) := by decide +kernel
theorem dX0_canPair_19 : decode cX0_canPair 19 = .ok (.iload_n 3, 1) := by decide +kernel
theorem dX0_canPair_20 : decode cX0_canPair 20 = .ok (.iaload, 1) := by decide +kernel
theorem dX0_canPair_21 : decode cX0_canPair 21 = .ok (.ifCond .eq 16, 3) := by decide +kernel
theorem dX0_canPair_24 : decode cX0_canPair 24 = .ok (.aload_n 0, 1) := by decide +kernel
theorem dX0_canPair_25 : decode cX0_canPair 25 = .ok (.getfield 21, 3) := by decide +kernel
theorem dX0_canPair_28 : decode cX0_canPair 28 = .ok (.iload_n 3, 1) := by decide +kernel
theorem dX0_canPair_29 : decode cX0_canPair 29 = .ok (.baload, 1) := by decide +kernel
theorem dX0_canPair_30 : decode cX0_canPair 30 = .ok (.ifCond .ne 7, 3) := by decide +kernel
theorem dX0_canPair_33 : decode cX0_canPair 33 = .ok (.iconst 1, 1) := by decide +kernel
theorem dX0_canPair_34 : decode cX0_canPair 34 = .ok (.goto 4, 3) := by decide +kernel
theorem dX0_canPair_37 : decode cX0_canPair 37 = .ok (.iconst 0, 1) := by decide +kernel
theorem dX0_canPair_38 : decode cX0_canPair 38 = .ok (.ireturn, 1) := by decide +kernel
theorem dX0_beginnerPrefers_0 : decode cX0_beginnerPrefers 0 = .ok (.iload_n 3, 1) := by decide +kernel
theorem dX0_beginnerPrefers_1 : decode cX0_beginnerPrefers 1 = .ok (.iconst (-1), 1) := by decide +kernel
theorem dX0_beginnerPrefers_2 : decode cX0_beginnerPrefers 2 = .ok (.if_icmp .ne 5, 3) := by decide +kernel
theorem dX0_beginnerPrefers_5 : decode cX0_beginnerPrefers 5 = .ok (.iconst 1, 1) := by decide +kernel
theorem dX0_beginnerPrefers_6 : decode cX0_beginnerPrefers 6 = .ok (.ireturn, 1) := by decide +kernel
theorem dX0_beginnerPrefers_7 : decode cX0_beginnerPrefers 7 = .ok (.aload_n 0, 1) := by decide +kernel
theorem dX0_beginnerPrefers_8 : decode cX0_beginnerPrefers 8 = .ok (.getfield 18, 3) := by decide +kernel
theorem dX0_beginnerPrefers_11 : decode cX0_beginnerPrefers 11 = .ok (.iload_n 2, 1) := by decide +kernel
theorem dX0_beginnerPrefers_12 : decode cX0_beginnerPrefers 12 = .ok (.iload_n 1, 1) := by decide +kernel
theorem dX0_beginnerPrefers_13 : decode cX0_beginnerPrefers 13 = .ok (.invokestatic 39, 3) := by decide +kernel
theorem dX0_beginnerPrefers_16 : decode cX0_beginnerPrefers 16 = .ok (.iaload, 1) := by decide +kernel
theorem dX0_beginnerPrefers_17 : decode cX0_beginnerPrefers 17 = .ok (.istore 4, 2) := by decide +kernel
theorem dX0_beginnerPrefers_19 : decode cX0_beginnerPrefers 19 = .ok (.aload_n 0, 1) := by decide +kernel
theorem dX0_beginnerPrefers_20 : decode cX0_beginnerPrefers 20 = .ok (.getfield 18, 3) := by decide +kernel
theorem dX0_beginnerPrefers_23 : decode cX0_beginnerPrefers 23 = .ok (.iload_n 3, 1) := by decide +kernel
theorem dX0_beginnerPrefers_24 : decode cX0_beginnerPrefers 24 = .ok (.iload_n 1, 1) := by decide +kernel
theorem dX0_beginnerPrefers_25 : decode cX0_beginnerPrefers 25 = .ok (.invokestatic 39, 3) := by decide +kernel
theorem dX0_beginnerPrefers_28 : decode cX0_beginnerPrefers 28 = .ok (.iaload, 1) := by decide +kernel
theorem dX0_beginnerPrefers_29 : decode cX0_beginnerPrefers 29 = .ok (.istore 5, 2) := by decide +kernel
theorem dX0_beginnerPrefers_31 : decode cX0_beginnerPrefers 31 = .ok (.iload 4, 2) := by decide +kernel
theorem dX0_beginnerPrefers_33 : decode cX0_beginnerPrefers 33 = .ok (.iload 5, 2) := by decide +kernel
theorem dX0_beginnerPrefers_35 : decode cX0_beginnerPrefers 35 = .ok (.if_icmp .gt 15, 3) := by decide +kernel
theorem dX0_beginnerPrefers_38 : decode cX0_beginnerPrefers 38 = .ok (.iload 4, 2) := by decide +kernel
theorem dX0_beginnerPrefers_40 : decode cX0_beginnerPrefers 40 = .ok (.iload 5, 2) := by decide +kernel
theorem dX0_beginnerPrefers_42 : decode cX0_beginnerPrefers 42 = .ok (.if_icmp .ne 12, 3) := by decide +kernel
theorem dX0_beginnerPrefers_45 : decode cX0_beginnerPrefers 45 = .ok (.iload_n 2, 1) := by decide +kernel
theorem dX0_beginnerPrefers_46 : decode cX0_beginnerPrefers 46 = .ok (.iload_n 3, 1) := by decide +kernel
theorem dX0_beginnerPrefers_47 : decode cX0_beginnerPrefers 47 = .ok (.if_icmp .ge 7, 3) := by decide +kernel
theorem dX0_beginnerPrefers_50 : decode cX0_beginnerPrefers 50 = .ok (.iconst 1, 1) := by decide +kernel
theorem dX0_beginnerPrefers_51 : decode cX0_beginnerPrefers 51 = .ok (.goto 4, 3) := by decide +kernel
theorem dX0_beginnerPrefers_54 : decode cX0_beginnerPrefers 54 = .ok (.iconst 0, 1) := by decide +kernel
theorem dX0_beginnerPrefers_55 : decode cX0_beginnerPrefers 55 = .ok (.ireturn, 1) := by decide +kernel
theorem dX0_elderPrefers_0 : decode cX0_elderPrefers 0 = .ok (.aload_n 0, 1) := by decide +kernel
theorem dX0_elderPrefers_1 : decode cX0_elderPrefers 1 = .ok (.getfield 15, 3) := by decide +kernel
theorem dX0_elderPrefers_4 : decode cX0_elderPrefers 4 = .ok (.iload_n 1, 1) := by decide +kernel
theorem dX0_elderPrefers_5 : decode cX0_elderPrefers 5 = .ok (.iload_n 2, 1) := by decide +kernel
theorem dX0_elderPrefers_6 : decode cX0_elderPrefers 6 = .ok (.invokestatic 39, 3) := by decide +kernel
theorem dX0_elderPrefers_9 : decode cX0_elderPrefers 9 = .ok (.iaload, 1) := by decide +kernel
theorem dX0_elderPrefers_10 : decode cX0_elderPrefers 10 = .ok (.istore 4, 2) := by decide +kernel
theorem dX0_elderPrefers_12 : decode cX0_elderPrefers 12 = .ok (.aload_n 0, 1) := by decide +kernel
theorem dX0_elderPrefers_13 : decode cX0_elderPrefers 13 = .ok (.getfield 15, 3) := by decide +kernel
theorem dX0_elderPrefers_16 : decode cX0_elderPrefers 16 = .ok (.iload_n 1, 1) := by decide +kernel
theorem dX0_elderPrefers_17 : decode cX0_elderPrefers 17 = .ok (.iload_n 3, 1) := by decide +kernel
theorem dX0_elderPrefers_18 : decode cX0_elderPrefers 18 = .ok (.invokestatic 39, 3) := by decide +kernel
theorem dX0_elderPrefers_21 : decode cX0_elderPrefers 21 = .ok (.iaload, 1) := by decide +kernel
theorem dX0_elderPrefers_22 : decode cX0_elderPrefers 22 = .ok (.istore 5, 2) := by decide +kernel
theorem dX0_elderPrefers_24 : decode cX0_elderPrefers 24 = .ok (.iload 4, 2) := by decide +kernel
theorem dX0_elderPrefers_26 : decode cX0_elderPrefers 26 = .ok (.iload 5, 2) := by decide +kernel
theorem dX0_elderPrefers_28 : decode cX0_elderPrefers 28 = .ok (.if_icmp .gt 15, 3) := by decide +kernel
theorem dX0_elderPrefers_31 : decode cX0_elderPrefers 31 = .ok (.iload 4, 2) := by decide +kernel
theorem dX0_elderPrefers_33 : decode cX0_elderPrefers 33 = .ok (.iload 5, 2) := by decide +kernel
theorem dX0_elderPrefers_35 : decode cX0_elderPrefers 35 = .ok (.if_icmp .ne 12, 3) := by decide +kernel
theorem dX0_elderPrefers_38 : decode cX0_elderPrefers 38 = .ok (.iload_n 2, 1) := by decide +kernel
theorem dX0_elderPrefers_39 : decode cX0_elderPrefers 39 = .ok (.iload_n 3, 1) := by decide +kernel
theorem dX0_elderPrefers_40 : decode cX0_elderPrefers 40 = .ok (.if_icmp .ge 7, 3) := by decide +kernel
theorem dX0_elderPrefers_43 : decode cX0_elderPrefers 43 = .ok (.iconst 1, 1) := by decide +kernel
theorem dX0_elderPrefers_44 : decode cX0_elderPrefers 44 = .ok (.goto 4, 3) := by decide +kernel
theorem dX0_elderPrefers_47 : decode cX0_elderPrefers 47 = .ok (.iconst 0, 1) := by decide +kernel
theorem dX0_elderPrefers_48 : decode cX0_elderPrefers 48 = .ok (.ireturn, 1) := by decide +kernel
theorem dX1_init_0 : decode cX1_init 0 = .ok (.aload_n 0, 1) := by decide +kernel
theorem dX1_init_1 : decode cX1_init 1 = .ok (.invokespecial 1, 3) := by decide +kernel
theorem dX1_init_4 : decode cX1_init 4 = .ok (.aload_n 0, 1) := by decide +kernel
theorem dX1_init_5 : decode cX1_init 5 = .ok (.lconst 0, 1) := by decide +kernel
theorem dX1_init_6 : decode cX1_init 6 = .ok (.putfield 7, 3) := by decide +kernel
theorem dX1_init_9 : decode cX1_init 9 = .ok (.aload_n 0, 1) := by decide +kernel
theorem dX1_init_10 : decode cX1_init 10 = .ok (.lconst 1, 1) := by decide +kernel
theorem dX1_init_11 : decode cX1_init 11 = .ok (.putfield 13, 3) := by decide +kernel
theorem dX1_init_14 : decode cX1_init 14 = .ok (.return_, 1) := by decide +kernel
theorem dX1_become_0 : decode cX1_become 0 = .ok (.lload_n 1, 1) := by decide +kernel
theorem dX1_become_1 : decode cX1_become 1 = .ok (.invokestatic 16, 3) := by decide +kernel
theorem dX1_become_4 : decode cX1_become 4 = .ok (.lload_n 3, 1) := by decide +kernel
theorem dX1_become_5 : decode cX1_become 5 = .ok (.invokestatic 22, 3) := by decide +kernel
theorem dX1_become_8 : decode cX1_become 8 = .ok (.lstore 5, 2) := by decide +kernel
theorem dX1_become_10 : decode cX1_become 10 = .ok (.lload 5, 2) := by decide +kernel
theorem dX1_become_12 : decode cX1_become 12 = .ok (.lconst 0, 1) := by decide +kernel
theorem dX1_become_13 : decode cX1_become 13 = .ok (.lcmp, 1) := by decide +kernel
theorem dX1_become_14 : decode cX1_become 14 = .ok (.ifCond .le 19, 3) := by decide +kernel
theorem dX1_become_17 : decode cX1_become 17 = .ok (.aload_n 0, 1) := by decide +kernel
theorem dX1_become_18 : decode cX1_become 18 = .ok (.lload_n 1, 1) := by decide +kernel
theorem dX1_become_19 : decode cX1_become 19 = .ok (.lload 5, 2) := by decide +kernel
theorem dX1_become_21 : decode cX1_become 21 = .ok (.ldiv, 1) := by decide +kernel
theorem dX1_become_22 : decode cX1_become 22 = .ok (.putfield 7, 3) := by decide +kernel
theorem dX1_become_25 : decode cX1_become 25 = .ok (.aload_n 0, 1) := by decide +kernel
theorem dX1_become_26 : decode cX1_become 26 = .ok (.lload_n 3, 1) := by decide +kernel
theorem dX1_become_27 : decode cX1_become 27 = .ok (.lload 5, 2) := by decide +kernel
theorem dX1_become_29 : decode cX1_become 29 = .ok (.ldiv, 1) := by decide +kernel
theorem dX1_become_30 : decode cX1_become 30 = .ok (.putfield 13, 3) := by decide +kernel
theorem dX1_become_33 : decode cX1_become 33 = .ok (.return_, 1) := by decide +kernel
theorem dX1_commonDivisor_0 : decode cX1_commonDivisor 0 = .ok (.lload_n 0, 1) := by decide +kernel
theorem dX1_commonDivisor_1 : decode cX1_commonDivisor 1 = .ok (.lstore 4, 2) := by decide +kernel
theorem dX1_commonDivisor_3 : decode cX1_commonDivisor 3 = .ok (.lload_n 2, 1) := by decide +kernel
theorem dX1_commonDivisor_4 : decode cX1_commonDivisor 4 = .ok (.lstore 6, 2) := by decide +kernel
theorem dX1_commonDivisor_6 : decode cX1_commonDivisor 6 = .ok (.iconst 0, 1) := by decide +kernel
theorem dX1_commonDivisor_7 : decode cX1_commonDivisor 7 = .ok (.istore 8, 2) := by decide +kernel
theorem dX1_commonDivisor_9 : decode cX1_commonDivisor 9 = .ok (.iload 8, 2) := by decide +kernel
theorem dX1_commonDivisor_11 : decode cX1_commonDivisor 11 = .ok (.bipush 100, 2) := by decide +kernel
theorem dX1_commonDivisor_13 : decode cX1_commonDivisor 13 = .ok (.if_icmp .ge 31, 3) := by decide +kernel
theorem dX1_commonDivisor_16 : decode cX1_commonDivisor 16 = .ok (.lload 6, 2) := by decide +kernel
theorem dX1_commonDivisor_18 : decode cX1_commonDivisor 18 = .ok (.lconst 0, 1) := by decide +kernel
theorem dX1_commonDivisor_19 : decode cX1_commonDivisor 19 = .ok (.lcmp, 1) := by decide +kernel
theorem dX1_commonDivisor_20 : decode cX1_commonDivisor 20 = .ok (.ifCond .eq 24, 3) := by decide +kernel
theorem dX1_commonDivisor_23 : decode cX1_commonDivisor 23 = .ok (.lload 4, 2) := by decide +kernel
theorem dX1_commonDivisor_25 : decode cX1_commonDivisor 25 = .ok (.lload 6, 2) := by decide +kernel
theorem dX1_commonDivisor_27 : decode cX1_commonDivisor 27 = .ok (.lrem, 1) := by decide +kernel
theorem dX1_commonDivisor_28 : decode cX1_commonDivisor 28 = .ok (.lstore 9, 2) := by decide +kernel
theorem dX1_commonDivisor_30 : decode cX1_commonDivisor 30 = .ok (.lload 6, 2) := by decide +kernel
theorem dX1_commonDivisor_32 : decode cX1_commonDivisor 32 = .ok (.lstore 4, 2) := by decide +kernel
theorem dX1_commonDivisor_34 : decode cX1_commonDivisor 34 = .ok (.lload 9, 2) := by decide +kernel
theorem dX1_commonDivisor_36 : decode cX1_commonDivisor 36 = .ok (.lstore 6, 2) := by decide +kernel
theorem dX1_commonDivisor_38 : decode cX1_commonDivisor 38 = .ok (.iinc 8 1, 3) := by decide +kernel
theorem dX1_commonDivisor_41 : decode cX1_commonDivisor 41 = .ok (.goto (-32), 3) := by decide +kernel
theorem dX1_commonDivisor_44 : decode cX1_commonDivisor 44 = .ok (.lload 4, 2) := by decide +kernel
theorem dX1_commonDivisor_46 : decode cX1_commonDivisor 46 = .ok (.lreturn, 1) := by decide +kernel
theorem dX2_init_0 : decode cX2_init 0 = .ok (.aload_n 0, 1) := by decide +kernel
theorem dX2_init_1 : decode cX2_init 1 = .ok (.invokespecial 3, 3) := by decide +kernel
theorem dX2_init_4 : decode cX2_init 4 = .ok (.aload_n 0, 1) := by decide +kernel
theorem dX2_init_5 : decode cX2_init 5 = .ok (.bipush 40, 2) := by decide +kernel
theorem dX2_init_7 : decode cX2_init 7 = .ok (.newarray .int, 2) := by decide +kernel
theorem dX2_init_9 : decode cX2_init 9 = .ok (.putfield 9, 3) := by decide +kernel
theorem dX2_init_12 : decode cX2_init 12 = .ok (.aload_n 0, 1) := by decide +kernel
theorem dX2_init_13 : decode cX2_init 13 = .ok (.bipush 40, 2) := by decide +kernel
theorem dX2_init_15 : decode cX2_init 15 = .ok (.newarray .int, 2) := by decide +kernel
theorem dX2_init_17 : decode cX2_init 17 = .ok (.putfield 15, 3) := by decide +kernel
theorem dX2_init_20 : decode cX2_init 20 = .ok (.aload_n 0, 1) := by decide +kernel
theorem dX2_init_21 : decode cX2_init 21 = .ok (.bipush 40, 2) := by decide +kernel
theorem dX2_init_23 : decode cX2_init 23 = .ok (.newarray .int, 2) := by decide +kernel
theorem dX2_init_25 : decode cX2_init 25 = .ok (.putfield 18, 3) := by decide +kernel
theorem dX2_init_28 : decode cX2_init 28 = .ok (.aload_n 0, 1) := by decide +kernel
theorem dX2_init_29 : decode cX2_init 29 = .ok (.bipush 40, 2) := by decide +kernel
theorem dX2_init_31 : decode cX2_init 31 = .ok (.newarray .int, 2) := by decide +kernel
theorem dX2_init_33 : decode cX2_init 33 = .ok (.putfield 21, 3) := by decide +kernel
theorem dX2_init_36 : decode cX2_init 36 = .ok (.aload_n 0, 1) := by decide +kernel
theorem dX2_init_37 : decode cX2_init 37 = .ok (.iconst 0, 1) := by decide +kernel
theorem dX2_init_38 : decode cX2_init 38 = .ok (.putfield 24, 3) := by decide +kernel
theorem dX2_init_41 : decode cX2_init 41 = .ok (.return_, 1) := by decide +kernel
theorem dX2_isGoal_0 : decode cX2_isGoal 0 = .ok (.iload_n 1, 1) := by decide +kernel
theorem dX2_isGoal_1 : decode cX2_isGoal 1 = .ok (.ifCond .lt 15, 3) := by decide +kernel
theorem dX2_isGoal_4 : decode cX2_isGoal 4 = .ok (.iload_n 1, 1) := by decide +kernel
theorem dX2_isGoal_5 : decode cX2_isGoal 5 = .ok (.aload_n 0, 1) := by decide +kernel
theorem dX2_isGoal_6 : decode cX2_isGoal 6 = .ok (.getfield 24, 3) := by decide +kernel
theorem dX2_isGoal_9 : decode cX2_isGoal 9 = .ok (.if_icmp .ge 7, 3) := by decide +kernel
theorem dX2_isGoal_12 : decode cX2_isGoal 12 = .ok (.iconst 1, 1) := by decide +kernel
theorem dX2_isGoal_13 : decode cX2_isGoal 13 = .ok (.goto 4, 3) := by decide +kernel
theorem dX2_isGoal_16 : decode cX2_isGoal 16 = .ok (.iconst 0, 1) := by decide +kernel
theorem dX2_isGoal_17 : decode cX2_isGoal 17 = .ok (.ireturn, 1) := by decide +kernel
theorem dX2_isGoalOf_0 : decode cX2_isGoalOf 0 = .ok (.aload_n 0, 1) := by decide +kernel
theorem dX2_isGoalOf_1 : decode cX2_isGoalOf 1 = .ok (.iload_n 1, 1) := by decide +kernel
theorem dX2_isGoalOf_2 : decode cX2_isGoalOf 2 = .ok (.invokevirtual 28, 3) := by decide +kernel
theorem dX2_isGoalOf_5 : decode cX2_isGoalOf 5 = .ok (.ifCond .eq 17, 3) := by decide +kernel
theorem dX2_isGoalOf_8 : decode cX2_isGoalOf 8 = .ok (.aload_n 0, 1) := by decide +kernel
theorem dX2_isGoalOf_9 : decode cX2_isGoalOf 9 = .ok (.getfield 9, 3) := by decide +kernel
theorem dX2_isGoalOf_12 : decode cX2_isGoalOf 12 = .ok (.iload_n 1, 1) := by decide +kernel
theorem dX2_isGoalOf_13 : decode cX2_isGoalOf 13 = .ok (.iaload, 1) := by decide +kernel
theorem dX2_isGoalOf_14 : decode cX2_isGoalOf 14 = .ok (.iload_n 2, 1) := by decide +kernel
theorem dX2_isGoalOf_15 : decode cX2_isGoalOf 15 = .ok (.if_icmp .ne 7, 3) := by decide +kernel
theorem dX2_isGoalOf_18 : decode cX2_isGoalOf 18 = .ok (.iconst 1, 1) := by decide +kernel
theorem dX2_isGoalOf_19 : decode cX2_isGoalOf 19 = .ok (.goto 4, 3) := by decide +kernel
theorem dX2_isGoalOf_22 : decode cX2_isGoalOf 22 = .ok (.iconst 0, 1) := by decide +kernel
theorem dX2_isGoalOf_23 : decode cX2_isGoalOf 23 = .ok (.ireturn, 1) := by decide +kernel
theorem dX2_add_0 : decode cX2_add 0 = .ok (.aload_n 0, 1) := by decide +kernel
theorem dX2_add_1 : decode cX2_add 1 = .ok (.getfield 9, 3) := by decide +kernel
theorem dX2_add_4 : decode cX2_add 4 = .ok (.aload_n 0, 1) := by decide +kernel
theorem dX2_add_5 : decode cX2_add 5 = .ok (.getfield 24, 3) := by decide +kernel
theorem dX2_add_8 : decode cX2_add 8 = .ok (.iload_n 1, 1) := by decide +kernel
theorem dX2_add_9 : decode cX2_add 9 = .ok (.iastore, 1) := by decide +kernel
theorem dX2_add_10 : decode cX2_add 10 = .ok (.aload_n 0, 1) := by decide +kernel
theorem dX2_add_11 : decode cX2_add 11 = .ok (.getfield 15, 3) := by decide +kernel
theorem dX2_add_14 : decode cX2_add 14 = .ok (.aload_n 0, 1) := by decide +kernel
theorem dX2_add_15 : decode cX2_add 15 = .ok (.getfield 24, 3) := by decide +kernel
theorem dX2_add_18 : decode cX2_add 18 = .ok (.iload_n 2, 1) := by decide +kernel
theorem dX2_add_19 : decode cX2_add 19 = .ok (.iastore, 1) := by decide +kernel
theorem dX2_add_20 : decode cX2_add 20 = .ok (.aload_n 0, 1) := by decide +kernel
theorem dX2_add_21 : decode cX2_add 21 = .ok (.getfield 18, 3) := by decide +kernel
theorem dX2_add_24 : decode cX2_add 24 = .ok (.aload_n 0, 1) := by decide +kernel
theorem dX2_add_25 : decode cX2_add 25 = .ok (.getfield 24, 3) := by decide +kernel
theorem dX2_add_28 : decode cX2_add 28 = .ok (.iload_n 3, 1) := by decide +kernel
theorem dX2_add_29 : decode cX2_add 29 = .ok (.iastore, 1) := by decide +kernel
theorem dX2_add_30 : decode cX2_add 30 = .ok (.aload_n 0, 1) := by decide +kernel
theorem dX2_add_31 : decode cX2_add 31 = .ok (.getfield 21, 3) := by decide +kernel
theorem dX2_add_34 : decode cX2_add 34 = .ok (.aload_n 0, 1) := by decide +kernel
theorem dX2_add_35 : decode cX2_add 35 = .ok (.getfield 24, 3) := by decide +kernel
theorem dX2_add_38 : decode cX2_add 38 = .ok (.iconst (-1), 1) := by decide +kernel
theorem dX2_add_39 : decode cX2_add 39 = .ok (.iastore, 1) := by decide +kernel
theorem dX2_add_40 : decode cX2_add 40 = .ok (.aload_n 0, 1) := by decide +kernel
theorem dX2_add_41 : decode cX2_add 41 = .ok (.dup, 1) := by decide +kernel
theorem dX2_add_42 : decode cX2_add 42 = .ok (.getfield 24, 3) := by decide +kernel
theorem dX2_add_45 : decode cX2_add 45 = .ok (.iconst 1, 1) := by decide +kernel
theorem dX2_add_46 : decode cX2_add 46 = .ok (.iadd, 1) := by decide +kernel
theorem dX2_add_47 : decode cX2_add 47 = .ok (.putfield 24, 3) := by decide +kernel
theorem dX2_add_50 : decode cX2_add 50 = .ok (.aload_n 0, 1) := by decide +kernel
theorem dX2_add_51 : decode cX2_add 51 = .ok (.getfield 24, 3) := by decide +kernel
theorem dX2_add_54 : decode cX2_add 54 = .ok (.iconst 1, 1) := by decide +kernel
theorem dX2_add_55 : decode cX2_add 55 = .ok (.isub, 1) := by decide +kernel
theorem dX2_add_56 : decode cX2_add 56 = .ok (.ireturn, 1) := by decide +kernel
theorem dX2_asOf_0 : decode cX2_asOf 0 = .ok (.aload_n 0, 1) := by decide +kernel
theorem dX2_asOf_1 : decode cX2_asOf 1 = .ok (.iload_n 1, 1) := by decide +kernel
theorem dX2_asOf_2 : decode cX2_asOf 2 = .ok (.iload_n 2, 1) := by decide +kernel
theorem dX2_asOf_3 : decode cX2_asOf 3 = .ok (.invokevirtual 32, 3) := by decide +kernel
theorem dX2_asOf_6 : decode cX2_asOf 6 = .ok (.ifCond .eq 5, 3) := by decide +kernel
theorem dX2_asOf_9 : decode cX2_asOf 9 = .ok (.iconst 1, 1) := by decide +kernel
theorem dX2_asOf_10 : decode cX2_asOf 10 = .ok (.ireturn, 1) := by decide +kernel
theorem dX2_asOf_11 : decode cX2_asOf 11 = .ok (.iload_n 2, 1) := by decide +kernel
theorem dX2_asOf_12 : decode cX2_asOf 12 = .ok (.aload_n 0, 1) := by decide +kernel
theorem dX2_asOf_13 : decode cX2_asOf 13 = .ok (.getfield 15, 3) := by decide +kernel
theorem dX2_asOf_16 : decode cX2_asOf 16 = .ok (.iload_n 1, 1) := by decide +kernel
theorem dX2_asOf_17 : decode cX2_asOf 17 = .ok (.iaload, 1) := by decide +kernel
theorem dX2_asOf_18 : decode cX2_asOf 18 = .ok (.if_icmp .le 7, 3) := by decide +kernel
theorem dX2_asOf_21 : decode cX2_asOf 21 = .ok (.iconst 2, 1) := by decide +kernel
theorem dX2_asOf_22 : decode cX2_asOf 22 = .ok (.goto 4, 3) := by decide +kernel
theorem dX2_asOf_25 : decode cX2_asOf 25 = .ok (.iconst 0, 1) := by decide +kernel
theorem dX2_asOf_26 : decode cX2_asOf 26 = .ok (.ireturn, 1) := by decide +kernel
theorem dX2_isReached_0 : decode cX2_isReached 0 = .ok (.iload_n 1, 1) := by decide +kernel
theorem dX2_isReached_1 : decode cX2_isReached 1 = .ok (.istore_n 3, 1) := by decide +kernel
theorem dX2_isReached_2 : decode cX2_isReached 2 = .ok (.iload_n 2, 1) := by decide +kernel
theorem dX2_isReached_3 : decode cX2_isReached 3 = .ok (.istore 4, 2) := by decide +kernel
theorem dX2_isReached_5 : decode cX2_isReached 5 = .ok (.iconst 0, 1) := by decide +kernel
theorem dX2_isReached_6 : decode cX2_isReached 6 = .ok (.istore 5, 2) := by decide +kernel
theorem dX2_isReached_8 : decode cX2_isReached 8 = .ok (.iload 5, 2) := by decide +kernel
theorem dX2_isReached_10 : decode cX2_isReached 10 = .ok (.bipush 40, 2) := by decide +kernel
theorem dX2_isReached_12 : decode cX2_isReached 12 = .ok (.if_icmp .ge 59, 3) := by decide +kernel
theorem dX2_isReached_15 : decode cX2_isReached 15 = .ok (.iload_n 3, 1) := by decide +kernel
theorem dX2_isReached_16 : decode cX2_isReached 16 = .ok (.iconst (-1), 1) := by decide +kernel
theorem dX2_isReached_17 : decode cX2_isReached 17 = .ok (.if_icmp .eq 54, 3) := by decide +kernel
theorem dX2_isReached_20 : decode cX2_isReached 20 = .ok (.aload_n 0, 1) := by decide +kernel
theorem dX2_isReached_21 : decode cX2_isReached 21 = .ok (.getfield 21, 3) := by decide +kernel
theorem dX2_isReached_24 : decode cX2_isReached 24 = .ok (.iload_n 3, 1) := by decide +kernel
theorem dX2_isReached_25 : decode cX2_isReached 25 = .ok (.iaload, 1) := by decide +kernel
theorem dX2_isReached_26 : decode cX2_isReached 26 = .ok (.istore 6, 2) := by decide +kernel
theorem dX2_isReached_28 : decode cX2_isReached 28 = .ok (.iload 6, 2) := by decide +kernel
theorem dX2_isReached_30 : decode cX2_isReached 30 = .ok (.iconst (-1), 1) := by decide +kernel
theorem dX2_isReached_31 : decode cX2_isReached 31 = .ok (.if_icmp .eq 21, 3) := by decide +kernel
theorem dX2_isReached_34 : decode cX2_isReached 34 = .ok (.iload 6, 2) := by decide +kernel
theorem dX2_isReached_36 : decode cX2_isReached 36 = .ok (.iload 4, 2) := by decide +kernel
theorem dX2_isReached_38 : decode cX2_isReached 38 = .ok (.if_icmp .gt 14, 3) := by decide +kernel
theorem dX2_isReached_41 : decode cX2_isReached 41 = .ok (.iload 6, 2) := by decide +kernel
theorem dX2_isReached_43 : decode cX2_isReached 43 = .ok (.aload_n 0, 1) := by decide +kernel
theorem dX2_isReached_44 : decode cX2_isReached 44 = .ok (.getfield 15, 3) := by decide +kernel
theorem dX2_isReached_47 : decode cX2_isReached 47 = .ok (.iload_n 3, 1) := by decide +kernel
theorem dX2_isReached_48 : decode cX2_isReached 48 = .ok (.iaload, 1) := by decide +kernel
theorem dX2_isReached_49 : decode cX2_isReached 49 = .ok (.if_icmp .le 5, 3) := by decide +kernel
theorem dX2_isReached_52 : decode cX2_isReached 52 = .ok (.iconst 0, 1) := by decide +kernel
theorem dX2_isReached_53 : decode cX2_isReached 53 = .ok (.ireturn, 1) := by decide +kernel
theorem dX2_isReached_54 : decode cX2_isReached 54 = .ok (.iload 6, 2) := by decide +kernel
theorem dX2_isReached_56 : decode cX2_isReached 56 = .ok (.istore 4, 2) := by decide +kernel
theorem dX2_isReached_58 : decode cX2_isReached 58 = .ok (.aload_n 0, 1) := by decide +kernel
theorem dX2_isReached_59 : decode cX2_isReached 59 = .ok (.getfield 18, 3) := by decide +kernel
theorem dX2_isReached_62 : decode cX2_isReached 62 = .ok (.iload_n 3, 1) := by decide +kernel
theorem dX2_isReached_63 : decode cX2_isReached 63 = .ok (.iaload, 1) := by decide +kernel
theorem dX2_isReached_64 : decode cX2_isReached 64 = .ok (.istore_n 3, 1) := by decide +kernel
theorem dX2_isReached_65 : decode cX2_isReached 65 = .ok (.iinc 5 1, 3) := by decide +kernel
theorem dX2_isReached_68 : decode cX2_isReached 68 = .ok (.goto (-60), 3) := by decide +kernel
theorem dX2_isReached_71 : decode cX2_isReached 71 = .ok (.iconst 1, 1) := by decide +kernel
theorem dX2_isReached_72 : decode cX2_isReached 72 = .ok (.ireturn, 1) := by decide +kernel
theorem dX3_init_0 : decode cX3_init 0 = .ok (.aload_n 0, 1) := by decide +kernel
theorem dX3_init_1 : decode cX3_init 1 = .ok (.invokespecial 3, 3) := by decide +kernel
theorem dX3_init_4 : decode cX3_init 4 = .ok (.aload_n 0, 1) := by decide +kernel
theorem dX3_init_5 : decode cX3_init 5 = .ok (.bipush 100, 2) := by decide +kernel
theorem dX3_init_7 : decode cX3_init 7 = .ok (.newarray .int, 2) := by decide +kernel
theorem dX3_init_9 : decode cX3_init 9 = .ok (.putfield 9, 3) := by decide +kernel
theorem dX3_init_12 : decode cX3_init 12 = .ok (.aload_n 0, 1) := by decide +kernel
theorem dX3_init_13 : decode cX3_init 13 = .ok (.bipush 100, 2) := by decide +kernel
theorem dX3_init_15 : decode cX3_init 15 = .ok (.newarray .int, 2) := by decide +kernel
theorem dX3_init_17 : decode cX3_init 17 = .ok (.putfield 15, 3) := by decide +kernel
theorem dX3_init_20 : decode cX3_init 20 = .ok (.aload_n 0, 1) := by decide +kernel
theorem dX3_init_21 : decode cX3_init 21 = .ok (.sipush 200, 3) := by decide +kernel
theorem dX3_init_24 : decode cX3_init 24 = .ok (.newarray .int, 2) := by decide +kernel
theorem dX3_init_26 : decode cX3_init 26 = .ok (.putfield 18, 3) := by decide +kernel
theorem dX3_init_29 : decode cX3_init 29 = .ok (.aload_n 0, 1) := by decide +kernel
theorem dX3_init_30 : decode cX3_init 30 = .ok (.sipush 200, 3) := by decide +kernel
theorem dX3_init_33 : decode cX3_init 33 = .ok (.newarray .int, 2) := by decide +kernel
theorem dX3_init_35 : decode cX3_init 35 = .ok (.putfield 21, 3) := by decide +kernel
theorem dX3_init_38 : decode cX3_init 38 = .ok (.aload_n 0, 1) := by decide +kernel
theorem dX3_init_39 : decode cX3_init 39 = .ok (.sipush 200, 3) := by decide +kernel
theorem dX3_init_42 : decode cX3_init 42 = .ok (.newarray .boolean, 2) := by decide +kernel
theorem dX3_init_44 : decode cX3_init 44 = .ok (.putfield 24, 3) := by decide +kernel
theorem dX3_init_47 : decode cX3_init 47 = .ok (.aload_n 0, 1) := by decide +kernel
theorem dX3_init_48 : decode cX3_init 48 = .ok (.iconst 0, 1) := by decide +kernel
theorem dX3_init_49 : decode cX3_init 49 = .ok (.putfield 28, 3) := by decide +kernel
theorem dX3_init_52 : decode cX3_init 52 = .ok (.aload_n 0, 1) := by decide +kernel
theorem dX3_init_53 : decode cX3_init 53 = .ok (.iconst 0, 1) := by decide +kernel
theorem dX3_init_54 : decode cX3_init 54 = .ok (.putfield 32, 3) := by decide +kernel
theorem dX3_init_57 : decode cX3_init 57 = .ok (.return_, 1) := by decide +kernel
theorem dX3_isMeeting_0 : decode cX3_isMeeting 0 = .ok (.iload_n 1, 1) := by decide +kernel
theorem dX3_isMeeting_1 : decode cX3_isMeeting 1 = .ok (.ifCond .lt 15, 3) := by decide +kernel
theorem dX3_isMeeting_4 : decode cX3_isMeeting 4 = .ok (.iload_n 1, 1) := by decide +kernel
theorem dX3_isMeeting_5 : decode cX3_isMeeting 5 = .ok (.aload_n 0, 1) := by decide +kernel
theorem dX3_isMeeting_6 : decode cX3_isMeeting 6 = .ok (.getfield 28, 3) := by decide +kernel
theorem dX3_isMeeting_9 : decode cX3_isMeeting 9 = .ok (.if_icmp .ge 7, 3) := by decide +kernel
theorem dX3_isMeeting_12 : decode cX3_isMeeting 12 = .ok (.iconst 1, 1) := by decide +kernel
theorem dX3_isMeeting_13 : decode cX3_isMeeting 13 = .ok (.goto 4, 3) := by decide +kernel
theorem dX3_isMeeting_16 : decode cX3_isMeeting 16 = .ok (.iconst 0, 1) := by decide +kernel
theorem dX3_isMeeting_17 : decode cX3_isMeeting 17 = .ok (.ireturn, 1) := by decide +kernel
theorem dX3_add_0 : decode cX3_add 0 = .ok (.aload_n 0, 1) := by decide +kernel
theorem dX3_add_1 : decode cX3_add 1 = .ok (.getfield 9, 3) := by decide +kernel
theorem dX3_add_4 : decode cX3_add 4 = .ok (.aload_n 0, 1) := by decide +kernel
theorem dX3_add_5 : decode cX3_add 5 = .ok (.getfield 28, 3) := by decide +kernel
theorem dX3_add_8 : decode cX3_add 8 = .ok (.iload_n 1, 1) := by decide +kernel
theorem dX3_add_9 : decode cX3_add 9 = .ok (.iastore, 1) := by decide +kernel
theorem dX3_add_10 : decode cX3_add 10 = .ok (.aload_n 0, 1) := by decide +kernel
theorem dX3_add_11 : decode cX3_add 11 = .ok (.getfield 15, 3) := by decide +kernel
theorem dX3_add_14 : decode cX3_add 14 = .ok (.aload_n 0, 1) := by decide +kernel
theorem dX3_add_15 : decode cX3_add 15 = .ok (.getfield 28, 3) := by decide +kernel
theorem dX3_add_18 : decode cX3_add 18 = .ok (.iload_n 2, 1) := by decide +kernel
theorem dX3_add_19 : decode cX3_add 19 = .ok (.iastore, 1) := by decide +kernel
theorem dX3_add_20 : decode cX3_add 20 = .ok (.aload_n 0, 1) := by decide +kernel
theorem dX3_add_21 : decode cX3_add 21 = .ok (.dup, 1) := by decide +kernel
theorem dX3_add_22 : decode cX3_add 22 = .ok (.getfield 28, 3) := by decide +kernel
theorem dX3_add_25 : decode cX3_add 25 = .ok (.iconst 1, 1) := by decide +kernel
theorem dX3_add_26 : decode cX3_add 26 = .ok (.iadd, 1) := by decide +kernel
theorem dX3_add_27 : decode cX3_add 27 = .ok (.putfield 28, 3) := by decide +kernel
theorem dX3_add_30 : decode cX3_add 30 = .ok (.aload_n 0, 1) := by decide +kernel
theorem dX3_add_31 : decode cX3_add 31 = .ok (.getfield 28, 3) := by decide +kernel
theorem dX3_add_34 : decode cX3_add 34 = .ok (.iconst 1, 1) := by decide +kernel
theorem dX3_add_35 : decode cX3_add 35 = .ok (.isub, 1) := by decide +kernel
theorem dX3_add_36 : decode cX3_add 36 = .ok (.ireturn, 1) := by decide +kernel
theorem dX3_addTelling_0 : decode cX3_addTelling 0 = .ok (.aload_n 0, 1) := by decide +kernel
theorem dX3_addTelling_1 : decode cX3_addTelling 1 = .ok (.getfield 18, 3) := by decide +kernel
theorem dX3_addTelling_4 : decode cX3_addTelling 4 = .ok (.aload_n 0, 1) := by decide +kernel
theorem dX3_addTelling_5 : decode cX3_addTelling 5 = .ok (.getfield 32, 3) := by decide +kernel
theorem dX3_addTelling_8 : decode cX3_addTelling 8 = .ok (.iload_n 1, 1) := by decide +kernel
theorem dX3_addTelling_9 : decode cX3_addTelling 9 = .ok (.iastore, 1) := by decide +kernel
theorem dX3_addTelling_10 : decode cX3_addTelling 10 = .ok (.aload_n 0, 1) := by decide +kernel
theorem dX3_addTelling_11 : decode cX3_addTelling 11 = .ok (.getfield 24, 3) := by decide +kernel
theorem dX3_addTelling_14 : decode cX3_addTelling 14 = .ok (.aload_n 0, 1) := by decide +kernel
theorem dX3_addTelling_15 : decode cX3_addTelling 15 = .ok (.getfield 32, 3) := by decide +kernel
theorem dX3_addTelling_18 : decode cX3_addTelling 18 = .ok (.iload_n 2, 1) := by decide +kernel
theorem dX3_addTelling_19 : decode cX3_addTelling 19 = .ok (.bastore, 1) := by decide +kernel
theorem dX3_addTelling_20 : decode cX3_addTelling 20 = .ok (.aload_n 0, 1) := by decide +kernel
theorem dX3_addTelling_21 : decode cX3_addTelling 21 = .ok (.getfield 21, 3) := by decide +kernel
theorem dX3_addTelling_24 : decode cX3_addTelling 24 = .ok (.aload_n 0, 1) := by decide +kernel
theorem dX3_addTelling_25 : decode cX3_addTelling 25 = .ok (.getfield 32, 3) := by decide +kernel
theorem dX3_addTelling_28 : decode cX3_addTelling 28 = .ok (.iload_n 3, 1) := by decide +kernel
theorem dX3_addTelling_29 : decode cX3_addTelling 29 = .ok (.iastore, 1) := by decide +kernel
theorem dX3_addTelling_30 : decode cX3_addTelling 30 = .ok (.aload_n 0, 1) := by decide +kernel
theorem dX3_addTelling_31 : decode cX3_addTelling 31 = .ok (.dup, 1) := by decide +kernel
theorem dX3_addTelling_32 : decode cX3_addTelling 32 = .ok (.getfield 32, 3) := by decide +kernel
theorem dX3_addTelling_35 : decode cX3_addTelling 35 = .ok (.iconst 1, 1) := by decide +kernel
theorem dX3_addTelling_36 : decode cX3_addTelling 36 = .ok (.iadd, 1) := by decide +kernel
theorem dX3_addTelling_37 : decode cX3_addTelling 37 = .ok (.putfield 32, 3) := by decide +kernel
theorem dX3_addTelling_40 : decode cX3_addTelling 40 = .ok (.return_, 1) := by decide +kernel
theorem dX3_count_0 : decode cX3_count 0 = .ok (.iconst 0, 1) := by decide +kernel
theorem dX3_count_1 : decode cX3_count 1 = .ok (.istore 4, 2) := by decide +kernel
theorem dX3_count_3 : decode cX3_count 3 = .ok (.iconst 0, 1) := by decide +kernel
theorem dX3_count_4 : decode cX3_count 4 = .ok (.istore 5, 2) := by decide +kernel
theorem dX3_count_6 : decode cX3_count 6 = .ok (.iload 5, 2) := by decide +kernel
theorem dX3_count_8 : decode cX3_count 8 = .ok (.aload_n 0, 1) := by decide +kernel
theorem dX3_count_9 : decode cX3_count 9 = .ok (.getfield 28, 3) := by decide +kernel
theorem dX3_count_12 : decode cX3_count 12 = .ok (.if_icmp .ge 45, 3) := by decide +kernel
theorem dX3_count_15 : decode cX3_count 15 = .ok (.aload_n 0, 1) := by decide +kernel
theorem dX3_count_16 : decode cX3_count 16 = .ok (.getfield 9, 3) := by decide +kernel
theorem dX3_count_19 : decode cX3_count 19 = .ok (.iload 5, 2) := by decide +kernel
theorem dX3_count_21 : decode cX3_count 21 = .ok (.iaload, 1) := by decide +kernel
theorem dX3_count_22 : decode cX3_count 22 = .ok (.iload_n 1, 1) := by decide +kernel
theorem dX3_count_23 : decode cX3_count 23 = .ok (.if_icmp .ne 28, 3) := by decide +kernel
theorem dX3_count_26 : decode cX3_count 26 = .ok (.aload_n 0, 1) := by decide +kernel
theorem dX3_count_27 : decode cX3_count 27 = .ok (.getfield 15, 3) := by decide +kernel
theorem dX3_count_30 : decode cX3_count 30 = .ok (.iload 5, 2) := by decide +kernel
theorem dX3_count_32 : decode cX3_count 32 = .ok (.iaload, 1) := by decide +kernel
theorem dX3_count_33 : decode cX3_count 33 = .ok (.iload_n 2, 1) := by decide +kernel
theorem dX3_count_34 : decode cX3_count 34 = .ok (.if_icmp .gt 17, 3) := by decide +kernel
theorem dX3_count_37 : decode cX3_count 37 = .ok (.aload_n 0, 1) := by decide +kernel
theorem dX3_count_38 : decode cX3_count 38 = .ok (.iload 5, 2) := by decide +kernel
theorem dX3_count_40 : decode cX3_count 40 = .ok (.iload_n 2, 1) := by decide +kernel
theorem dX3_count_41 : decode cX3_count 41 = .ok (.invokevirtual 35, 3) := by decide +kernel
theorem dX3_count_44 : decode cX3_count 44 = .ok (.iload_n 3, 1) := by decide +kernel
theorem dX3_count_45 : decode cX3_count 45 = .ok (.if_icmp .ne 6, 3) := by decide +kernel
theorem dX3_count_48 : decode cX3_count 48 = .ok (.iinc 4 1, 3) := by decide +kernel
theorem dX3_count_51 : decode cX3_count 51 = .ok (.iinc 5 1, 3) := by decide +kernel
theorem dX3_count_54 : decode cX3_count 54 = .ok (.goto (-48), 3) := by decide +kernel
theorem dX3_count_57 : decode cX3_count 57 = .ok (.iload 4, 2) := by decide +kernel
theorem dX3_count_59 : decode cX3_count 59 = .ok (.ireturn, 1) := by decide +kernel
theorem dX3_knownOn_0 : decode cX3_knownOn 0 = .ok (.iconst (-1), 1) := by decide +kernel
theorem dX3_knownOn_1 : decode cX3_knownOn 1 = .ok (.istore_n 3, 1) := by decide +kernel
theorem dX3_knownOn_2 : decode cX3_knownOn 2 = .ok (.iconst 0, 1) := by decide +kernel
theorem dX3_knownOn_3 : decode cX3_knownOn 3 = .ok (.istore 4, 2) := by decide +kernel
theorem dX3_knownOn_5 : decode cX3_knownOn 5 = .ok (.iload 4, 2) := by decide +kernel
theorem dX3_knownOn_7 : decode cX3_knownOn 7 = .ok (.aload_n 0, 1) := by decide +kernel
theorem dX3_knownOn_8 : decode cX3_knownOn 8 = .ok (.getfield 32, 3) := by decide +kernel
theorem dX3_knownOn_11 : decode cX3_knownOn 11 = .ok (.if_icmp .ge 67, 3) := by decide +kernel
theorem dX3_knownOn_14 : decode cX3_knownOn 14 = .ok (.aload_n 0, 1) := by decide +kernel
theorem dX3_knownOn_15 : decode cX3_knownOn 15 = .ok (.getfield 18, 3) := by decide +kernel
theorem dX3_knownOn_18 : decode cX3_knownOn 18 = .ok (.iload 4, 2) := by decide +kernel
theorem dX3_knownOn_20 : decode cX3_knownOn 20 = .ok (.iaload, 1) := by decide +kernel
theorem dX3_knownOn_21 : decode cX3_knownOn 21 = .ok (.iload_n 1, 1) := by decide +kernel
theorem dX3_knownOn_22 : decode cX3_knownOn 22 = .ok (.if_icmp .ne 18, 3) := by decide +kernel
theorem dX3_knownOn_25 : decode cX3_knownOn 25 = .ok (.aload_n 0, 1) := by decide +kernel
theorem dX3_knownOn_26 : decode cX3_knownOn 26 = .ok (.getfield 21, 3) := by decide +kernel
theorem dX3_knownOn_29 : decode cX3_knownOn 29 = .ok (.iload 4, 2) := by decide +kernel
theorem dX3_knownOn_31 : decode cX3_knownOn 31 = .ok (.iaload, 1) := by decide +kernel
theorem dX3_knownOn_32 : decode cX3_knownOn 32 = .ok (.iload_n 2, 1) := by decide +kernel
theorem dX3_knownOn_33 : decode cX3_knownOn 33 = .ok (.if_icmp .gt 7, 3) := by decide +kernel
theorem dX3_knownOn_36 : decode cX3_knownOn 36 = .ok (.iconst 1, 1) := by decide +kernel
theorem dX3_knownOn_37 : decode cX3_knownOn 37 = .ok (.goto 4, 3) := by decide +kernel
theorem dX3_knownOn_40 : decode cX3_knownOn 40 = .ok (.iconst 0, 1) := by decide +kernel
theorem dX3_knownOn_41 : decode cX3_knownOn 41 = .ok (.istore 5, 2) := by decide +kernel
theorem dX3_knownOn_43 : decode cX3_knownOn 43 = .ok (.iload 5, 2) := by decide +kernel
theorem dX3_knownOn_45 : decode cX3_knownOn 45 = .ok (.ifCond .eq 27, 3) := by decide +kernel
theorem dX3_knownOn_48 : decode cX3_knownOn 48 = .ok (.iload_n 3, 1) := by decide +kernel
theorem dX3_knownOn_49 : decode cX3_knownOn 49 = .ok (.iconst (-1), 1) := by decide +kernel
theorem dX3_knownOn_50 : decode cX3_knownOn 50 = .ok (.if_icmp .eq 19, 3) := by decide +kernel
theorem dX3_knownOn_53 : decode cX3_knownOn 53 = .ok (.aload_n 0, 1) := by decide +kernel
theorem dX3_knownOn_54 : decode cX3_knownOn 54 = .ok (.getfield 21, 3) := by decide +kernel
theorem dX3_knownOn_57 : decode cX3_knownOn 57 = .ok (.iload 4, 2) := by decide +kernel
theorem dX3_knownOn_59 : decode cX3_knownOn 59 = .ok (.iaload, 1) := by decide +kernel
theorem dX3_knownOn_60 : decode cX3_knownOn 60 = .ok (.aload_n 0, 1) := by decide +kernel
theorem dX3_knownOn_61 : decode cX3_knownOn 61 = .ok (.getfield 21, 3) := by decide +kernel
theorem dX3_knownOn_64 : decode cX3_knownOn 64 = .ok (.iload_n 3, 1) := by decide +kernel
theorem dX3_knownOn_65 : decode cX3_knownOn 65 = .ok (.iaload, 1) := by decide +kernel
theorem dX3_knownOn_66 : decode cX3_knownOn 66 = .ok (.if_icmp .lt 6, 3) := by decide +kernel
theorem dX3_knownOn_69 : decode cX3_knownOn 69 = .ok (.iload 4, 2) := by decide +kernel
theorem dX3_knownOn_71 : decode cX3_knownOn 71 = .ok (.istore_n 3, 1) := by decide +kernel
theorem dX3_knownOn_72 : decode cX3_knownOn 72 = .ok (.iinc 4 1, 3) := by decide +kernel
theorem dX3_knownOn_75 : decode cX3_knownOn 75 = .ok (.goto (-70), 3) := by decide +kernel
theorem dX3_knownOn_78 : decode cX3_knownOn 78 = .ok (.iload_n 3, 1) := by decide +kernel
theorem dX3_knownOn_79 : decode cX3_knownOn 79 = .ok (.iconst (-1), 1) := by decide +kernel
theorem dX3_knownOn_80 : decode cX3_knownOn 80 = .ok (.if_icmp .ne 5, 3) := by decide +kernel
theorem dX3_knownOn_83 : decode cX3_knownOn 83 = .ok (.iconst 2, 1) := by decide +kernel
theorem dX3_knownOn_84 : decode cX3_knownOn 84 = .ok (.ireturn, 1) := by decide +kernel
theorem dX3_knownOn_85 : decode cX3_knownOn 85 = .ok (.aload_n 0, 1) := by decide +kernel
theorem dX3_knownOn_86 : decode cX3_knownOn 86 = .ok (.getfield 24, 3) := by decide +kernel
theorem dX3_knownOn_89 : decode cX3_knownOn 89 = .ok (.iload_n 3, 1) := by decide +kernel
theorem dX3_knownOn_90 : decode cX3_knownOn 90 = .ok (.baload, 1) := by decide +kernel
theorem dX3_knownOn_91 : decode cX3_knownOn 91 = .ok (.ifCond .eq 7, 3) := by decide +kernel
theorem dX3_knownOn_94 : decode cX3_knownOn 94 = .ok (.iconst 0, 1) := by decide +kernel
theorem dX3_knownOn_95 : decode cX3_knownOn 95 = .ok (.goto 4, 3) := by decide +kernel
theorem dX3_knownOn_98 : decode cX3_knownOn 98 = .ok (.iconst 1, 1) := by decide +kernel
theorem dX3_knownOn_99 : decode cX3_knownOn 99 = .ok (.ireturn, 1) := by decide +kernel
theorem dX4_init_0 : decode cX4_init 0 = .ok (.aload_n 0, 1) := by decide +kernel
theorem dX4_init_1 : decode cX4_init 1 = .ok (.invokespecial 3, 3) := by decide +kernel
theorem dX4_init_4 : decode cX4_init 4 = .ok (.aload_n 0, 1) := by decide +kernel
theorem dX4_init_5 : decode cX4_init 5 = .ok (.bipush 16, 2) := by decide +kernel
theorem dX4_init_7 : decode cX4_init 7 = .ok (.newarray .int, 2) := by decide +kernel
theorem dX4_init_9 : decode cX4_init 9 = .ok (.putfield 9, 3) := by decide +kernel
theorem dX4_init_12 : decode cX4_init 12 = .ok (.aload_n 0, 1) := by decide +kernel
theorem dX4_init_13 : decode cX4_init 13 = .ok (.bipush 16, 2) := by decide +kernel
theorem dX4_init_15 : decode cX4_init 15 = .ok (.newarray .int, 2) := by decide +kernel
theorem dX4_init_17 : decode cX4_init 17 = .ok (.putfield 15, 3) := by decide +kernel
theorem dX4_init_20 : decode cX4_init 20 = .ok (.aload_n 0, 1) := by decide +kernel
theorem dX4_init_21 : decode cX4_init 21 = .ok (.iconst 0, 1) := by decide +kernel
theorem dX4_init_22 : decode cX4_init 22 = .ok (.putfield 18, 3) := by decide +kernel
theorem dX4_init_25 : decode cX4_init 25 = .ok (.aload_n 0, 1) := by decide +kernel
theorem dX4_init_26 : decode cX4_init 26 = .ok (.getfield 9, 3) := by decide +kernel
theorem dX4_init_29 : decode cX4_init 29 = .ok (.iconst (-1), 1) := by decide +kernel
theorem dX4_init_30 : decode cX4_init 30 = .ok (.invokestatic 22, 3) := by decide +kernel
theorem dX4_init_33 : decode cX4_init 33 = .ok (.return_, 1) := by decide +kernel
theorem dX4_countOf_0 : decode cX4_countOf 0 = .ok (.iconst 0, 1) := by decide +kernel
theorem dX4_countOf_1 : decode cX4_countOf 1 = .ok (.istore_n 2, 1) := by decide +kernel
theorem dX4_countOf_2 : decode cX4_countOf 2 = .ok (.iconst 0, 1) := by decide +kernel
theorem dX4_countOf_3 : decode cX4_countOf 3 = .ok (.istore_n 3, 1) := by decide +kernel
theorem dX4_countOf_4 : decode cX4_countOf 4 = .ok (.iload_n 3, 1) := by decide +kernel
theorem dX4_countOf_5 : decode cX4_countOf 5 = .ok (.bipush 16, 2) := by decide +kernel
theorem dX4_countOf_7 : decode cX4_countOf 7 = .ok (.if_icmp .ge 22, 3) := by decide +kernel
theorem dX4_countOf_10 : decode cX4_countOf 10 = .ok (.aload_n 0, 1) := by decide +kernel
theorem dX4_countOf_11 : decode cX4_countOf 11 = .ok (.getfield 9, 3) := by decide +kernel
theorem dX4_countOf_14 : decode cX4_countOf 14 = .ok (.iload_n 3, 1) := by decide +kernel
theorem dX4_countOf_15 : decode cX4_countOf 15 = .ok (.iaload, 1) := by decide +kernel
theorem dX4_countOf_16 : decode cX4_countOf 16 = .ok (.iload_n 1, 1) := by decide +kernel
theorem dX4_countOf_17 : decode cX4_countOf 17 = .ok (.if_icmp .ne 6, 3) := by decide +kernel
theorem dX4_countOf_20 : decode cX4_countOf 20 = .ok (.iinc 2 1, 3) := by decide +kernel
theorem dX4_countOf_23 : decode cX4_countOf 23 = .ok (.iinc 3 1, 3) := by decide +kernel
theorem dX4_countOf_26 : decode cX4_countOf 26 = .ok (.goto (-22), 3) := by decide +kernel
theorem dX4_countOf_29 : decode cX4_countOf 29 = .ok (.iload_n 2, 1) := by decide +kernel
theorem dX4_countOf_30 : decode cX4_countOf 30 = .ok (.ireturn, 1) := by decide +kernel
theorem dX4_hasPlaceLeft_0 : decode cX4_hasPlaceLeft 0 = .ok (.aload_n 0, 1) := by decide +kernel
theorem dX4_hasPlaceLeft_1 : decode cX4_hasPlaceLeft 1 = .ok (.iload_n 2, 1) := by decide +kernel
theorem dX4_hasPlaceLeft_2 : decode cX4_hasPlaceLeft 2 = .ok (.invokevirtual 28, 3) := by decide +kernel
theorem dX4_hasPlaceLeft_5 : decode cX4_hasPlaceLeft 5 = .ok (.aload_n 1, 1) := by decide +kernel
theorem dX4_hasPlaceLeft_6 : decode cX4_hasPlaceLeft 6 = .ok (.getfield 32, 3) := by decide +kernel
theorem dX4_hasPlaceLeft_9 : decode cX4_hasPlaceLeft 9 = .ok (.iload_n 2, 1) := by decide +kernel
theorem dX4_hasPlaceLeft_10 : decode cX4_hasPlaceLeft 10 = .ok (.iaload, 1) := by decide +kernel
theorem dX4_hasPlaceLeft_11 : decode cX4_hasPlaceLeft 11 = .ok (.if_icmp .ge 7, 3) := by decide +kernel
theorem dX4_hasPlaceLeft_14 : decode cX4_hasPlaceLeft 14 = .ok (.iconst 1, 1) := by decide +kernel
theorem dX4_hasPlaceLeft_15 : decode cX4_hasPlaceLeft 15 = .ok (.goto 4, 3) := by decide +kernel
theorem dX4_hasPlaceLeft_18 : decode cX4_hasPlaceLeft 18 = .ok (.iconst 0, 1) := by decide +kernel
theorem dX4_hasPlaceLeft_19 : decode cX4_hasPlaceLeft 19 = .ok (.ireturn, 1) := by decide +kernel
theorem dX4_leastOf_0 : decode cX4_leastOf 0 = .ok (.iconst (-1), 1) := by decide +kernel
theorem dX4_leastOf_1 : decode cX4_leastOf 1 = .ok (.istore_n 3, 1) := by decide +kernel
theorem dX4_leastOf_2 : decode cX4_leastOf 2 = .ok (.iconst 0, 1) := by decide +kernel
theorem dX4_leastOf_3 : decode cX4_leastOf 3 = .ok (.istore 4, 2) := by decide +kernel
theorem dX4_leastOf_5 : decode cX4_leastOf 5 = .ok (.iload 4, 2) := by decide +kernel
theorem dX4_leastOf_7 : decode cX4_leastOf 7 = .ok (.aload_n 1, 1) := by decide +kernel
theorem dX4_leastOf_8 : decode cX4_leastOf 8 = .ok (.getfield 37, 3) := by decide +kernel
theorem dX4_leastOf_11 : decode cX4_leastOf 11 = .ok (.if_icmp .ge 39, 3) := by decide +kernel
theorem dX4_leastOf_14 : decode cX4_leastOf 14 = .ok (.aload_n 0, 1) := by decide +kernel
theorem dX4_leastOf_15 : decode cX4_leastOf 15 = .ok (.getfield 9, 3) := by decide +kernel
theorem dX4_leastOf_18 : decode cX4_leastOf 18 = .ok (.iload 4, 2) := by decide +kernel
theorem dX4_leastOf_20 : decode cX4_leastOf 20 = .ok (.iaload, 1) := by decide +kernel
theorem dX4_leastOf_21 : decode cX4_leastOf 21 = .ok (.iload_n 2, 1) := by decide +kernel
theorem dX4_leastOf_22 : decode cX4_leastOf 22 = .ok (.if_icmp .ne 22, 3) := by decide +kernel
theorem dX4_leastOf_25 : decode cX4_leastOf 25 = .ok (.iload_n 3, 1) := by decide +kernel
theorem dX4_leastOf_26 : decode cX4_leastOf 26 = .ok (.iconst (-1), 1) := by decide +kernel
theorem dX4_leastOf_27 : decode cX4_leastOf 27 = .ok (.if_icmp .eq 14, 3) := by decide +kernel
theorem dX4_leastOf_30 : decode cX4_leastOf 30 = .ok (.aload_n 1, 1) := by decide +kernel
theorem dX4_leastOf_31 : decode cX4_leastOf 31 = .ok (.iload_n 2, 1) := by decide +kernel
theorem dX4_leastOf_32 : decode cX4_leastOf 32 = .ok (.iload_n 3, 1) := by decide +kernel
theorem dX4_leastOf_33 : decode cX4_leastOf 33 = .ok (.iload 4, 2) := by decide +kernel
theorem dX4_leastOf_35 : decode cX4_leastOf 35 = .ok (.invokevirtual 41, 3) := by decide +kernel
theorem dX4_leastOf_38 : decode cX4_leastOf 38 = .ok (.ifCond .eq 6, 3) := by decide +kernel
theorem dX4_leastOf_41 : decode cX4_leastOf 41 = .ok (.iload 4, 2) := by decide +kernel
theorem dX4_leastOf_43 : decode cX4_leastOf 43 = .ok (.istore_n 3, 1) := by decide +kernel
theorem dX4_leastOf_44 : decode cX4_leastOf 44 = .ok (.iinc 4 1, 3) := by decide +kernel
theorem dX4_leastOf_47 : decode cX4_leastOf 47 = .ok (.goto (-42), 3) := by decide +kernel
theorem dX4_leastOf_50 : decode cX4_leastOf 50 = .ok (.iload_n 3, 1) := by decide +kernel
theorem dX4_leastOf_51 : decode cX4_leastOf 51 = .ok (.ireturn, 1) := by decide +kernel
theorem dX4_makeBest_0 : decode cX4_makeBest 0 = .ok (.aload_n 0, 1) := by decide +kernel
theorem dX4_makeBest_1 : decode cX4_makeBest 1 = .ok (.iconst 1, 1) := by decide +kernel
theorem dX4_makeBest_2 : decode cX4_makeBest 2 = .ok (.putfield 18, 3) := by decide +kernel
theorem dX4_makeBest_5 : decode cX4_makeBest 5 = .ok (.aload_n 0, 1) := by decide +kernel
theorem dX4_makeBest_6 : decode cX4_makeBest 6 = .ok (.getfield 9, 3) := by decide +kernel
theorem dX4_makeBest_9 : decode cX4_makeBest 9 = .ok (.iconst (-1), 1) := by decide +kernel
theorem dX4_makeBest_10 : decode cX4_makeBest 10 = .ok (.invokestatic 22, 3) := by decide +kernel
theorem dX4_makeBest_13 : decode cX4_makeBest 13 = .ok (.aload_n 0, 1) := by decide +kernel
theorem dX4_makeBest_14 : decode cX4_makeBest 14 = .ok (.getfield 15, 3) := by decide +kernel
theorem dX4_makeBest_17 : decode cX4_makeBest 17 = .ok (.iconst (-1), 1) := by decide +kernel
theorem dX4_makeBest_18 : decode cX4_makeBest 18 = .ok (.invokestatic 22, 3) := by decide +kernel
theorem dX4_makeBest_21 : decode cX4_makeBest 21 = .ok (.iconst 0, 1) := by decide +kernel
theorem dX4_makeBest_22 : decode cX4_makeBest 22 = .ok (.istore_n 2, 1) := by decide +kernel
theorem dX4_makeBest_23 : decode cX4_makeBest 23 = .ok (.iload_n 2, 1) := by decide +kernel
theorem dX4_makeBest_24 : decode cX4_makeBest 24 = .ok (.aload_n 1, 1) := by decide +kernel
theorem dX4_makeBest_25 : decode cX4_makeBest 25 = .ok (.getfield 37, 3) := by decide +kernel
theorem dX4_makeBest_28 : decode cX4_makeBest 28 = .ok (.if_icmp .ge 15, 3) := by decide +kernel
theorem dX4_makeBest_31 : decode cX4_makeBest 31 = .ok (.aload_n 0, 1) := by decide +kernel
theorem dX4_makeBest_32 : decode cX4_makeBest 32 = .ok (.aload_n 1, 1) := by decide +kernel
theorem dX4_makeBest_33 : decode cX4_makeBest 33 = .ok (.iload_n 2, 1) := by decide +kernel
theorem dX4_makeBest_34 : decode cX4_makeBest 34 = .ok (.invokevirtual 45, 3) := by decide +kernel
theorem dX4_makeBest_37 : decode cX4_makeBest 37 = .ok (.iinc 2 1, 3) := by decide +kernel
theorem dX4_makeBest_40 : decode cX4_makeBest 40 = .ok (.goto (-17), 3) := by decide +kernel
theorem dX4_makeBest_43 : decode cX4_makeBest 43 = .ok (.aload_n 0, 1) := by decide +kernel
theorem dX4_makeBest_44 : decode cX4_makeBest 44 = .ok (.invokevirtual 49, 3) := by decide +kernel
theorem dX4_makeBest_47 : decode cX4_makeBest 47 = .ok (.ireturn, 1) := by decide +kernel
theorem dX4_countPairs_0 : decode cX4_countPairs 0 = .ok (.iconst 0, 1) := by decide +kernel
theorem dX4_countPairs_1 : decode cX4_countPairs 1 = .ok (.istore_n 1, 1) := by decide +kernel
theorem dX4_countPairs_2 : decode cX4_countPairs 2 = .ok (.iconst 0, 1) := by decide +kernel
theorem dX4_countPairs_3 : decode cX4_countPairs 3 = .ok (.istore_n 2, 1) := by decide +kernel
theorem dX4_countPairs_4 : decode cX4_countPairs 4 = .ok (.iload_n 2, 1) := by decide +kernel
theorem dX4_countPairs_5 : decode cX4_countPairs 5 = .ok (.bipush 16, 2) := by decide +kernel
theorem dX4_countPairs_7 : decode cX4_countPairs 7 = .ok (.if_icmp .ge 22, 3) := by decide +kernel
theorem dX4_countPairs_10 : decode cX4_countPairs 10 = .ok (.aload_n 0, 1) := by decide +kernel
theorem dX4_countPairs_11 : decode cX4_countPairs 11 = .ok (.getfield 9, 3) := by decide +kernel
theorem dX4_countPairs_14 : decode cX4_countPairs 14 = .ok (.iload_n 2, 1) := by decide +kernel
theorem dX4_countPairs_15 : decode cX4_countPairs 15 = .ok (.iaload, 1) := by decide +kernel
theorem dX4_countPairs_16 : decode cX4_countPairs 16 = .ok (.iconst (-1), 1) := by decide +kernel
theorem dX4_countPairs_17 : decode cX4_countPairs 17 = .ok (.if_icmp .eq 6, 3) := by decide +kernel
theorem dX4_countPairs_20 : decode cX4_countPairs 20 = .ok (.iinc 1 1, 3) := by decide +kernel
theorem dX4_countPairs_23 : decode cX4_countPairs 23 = .ok (.iinc 2 1, 3) := by decide +kernel
theorem dX4_countPairs_26 : decode cX4_countPairs 26 = .ok (.goto (-22), 3) := by decide +kernel
theorem dX4_countPairs_29 : decode cX4_countPairs 29 = .ok (.iload_n 1, 1) := by decide +kernel
theorem dX4_countPairs_30 : decode cX4_countPairs 30 = .ok (.ireturn, 1) := by decide +kernel
theorem dX4_seat_0 : decode cX4_seat 0 = .ok (.iload_n 2, 1) := by decide +kernel
theorem dX4_seat_1 : decode cX4_seat 1 = .ok (.istore_n 3, 1) := by decide +kernel
theorem dX4_seat_2 : decode cX4_seat 2 = .ok (.iconst 0, 1) := by decide +kernel
theorem dX4_seat_3 : decode cX4_seat 3 = .ok (.istore 4, 2) := by decide +kernel
theorem dX4_seat_5 : decode cX4_seat 5 = .ok (.iload 4, 2) := by decide +kernel
theorem dX4_seat_7 : decode cX4_seat 7 = .ok (.sipush 192, 3) := by decide +kernel
theorem dX4_seat_10 : decode cX4_seat 10 = .ok (.if_icmp .ge 46, 3) := by decide +kernel
theorem dX4_seat_13 : decode cX4_seat 13 = .ok (.iload_n 3, 1) := by decide +kernel
theorem dX4_seat_14 : decode cX4_seat 14 = .ok (.iconst (-1), 1) := by decide +kernel
theorem dX4_seat_15 : decode cX4_seat 15 = .ok (.if_icmp .eq 41, 3) := by decide +kernel
theorem dX4_seat_18 : decode cX4_seat 18 = .ok (.aload_n 0, 1) := by decide +kernel
theorem dX4_seat_19 : decode cX4_seat 19 = .ok (.aload_n 1, 1) := by decide +kernel
theorem dX4_seat_20 : decode cX4_seat 20 = .ok (.iload_n 3, 1) := by decide +kernel
theorem dX4_seat_21 : decode cX4_seat 21 = .ok (.invokevirtual 53, 3) := by decide +kernel
theorem dX4_seat_24 : decode cX4_seat 24 = .ok (.istore 5, 2) := by decide +kernel
theorem dX4_seat_26 : decode cX4_seat 26 = .ok (.iload 5, 2) := by decide +kernel
theorem dX4_seat_28 : decode cX4_seat 28 = .ok (.iconst (-1), 1) := by decide +kernel
theorem dX4_seat_29 : decode cX4_seat 29 = .ok (.if_icmp .ne 4, 3) := by decide +kernel
theorem dX4_seat_32 : decode cX4_seat 32 = .ok (.return_, 1) := by decide +kernel
theorem dX4_seat_33 : decode cX4_seat 33 = .ok (.aload_n 0, 1) := by decide +kernel
theorem dX4_seat_34 : decode cX4_seat 34 = .ok (.getfield 15, 3) := by decide +kernel
theorem dX4_seat_37 : decode cX4_seat 37 = .ok (.iload_n 3, 1) := by decide +kernel
theorem dX4_seat_38 : decode cX4_seat 38 = .ok (.iload 5, 2) := by decide +kernel
theorem dX4_seat_40 : decode cX4_seat 40 = .ok (.iastore, 1) := by decide +kernel
theorem dX4_seat_41 : decode cX4_seat 41 = .ok (.aload_n 0, 1) := by decide +kernel
theorem dX4_seat_42 : decode cX4_seat 42 = .ok (.aload_n 1, 1) := by decide +kernel
theorem dX4_seat_43 : decode cX4_seat 43 = .ok (.iload 5, 2) := by decide +kernel
theorem dX4_seat_45 : decode cX4_seat 45 = .ok (.iload_n 3, 1) := by decide +kernel
theorem dX4_seat_46 : decode cX4_seat 46 = .ok (.invokevirtual 57, 3) := by decide +kernel
theorem dX4_seat_49 : decode cX4_seat 49 = .ok (.istore_n 3, 1) := by decide +kernel
theorem dX4_seat_50 : decode cX4_seat 50 = .ok (.iinc 4 1, 3) := by decide +kernel
theorem dX4_seat_53 : decode cX4_seat 53 = .ok (.goto (-48), 3) := by decide +kernel
theorem dX4_seat_56 : decode cX4_seat 56 = .ok (.return_, 1) := by decide +kernel
theorem dX4_nextChoice_0 : decode cX4_nextChoice 0 = .ok (.aload_n 0, 1) := by decide +kernel
theorem dX4_nextChoice_1 : decode cX4_nextChoice 1 = .ok (.getfield 15, 3) := by decide +kernel
theorem dX4_nextChoice_4 : decode cX4_nextChoice 4 = .ok (.iload_n 2, 1) := by decide +kernel
theorem dX4_nextChoice_5 : decode cX4_nextChoice 5 = .ok (.iaload, 1) := by decide +kernel
theorem dX4_nextChoice_6 : decode cX4_nextChoice 6 = .ok (.istore_n 3, 1) := by decide +kernel
theorem dX4_nextChoice_7 : decode cX4_nextChoice 7 = .ok (.iconst (-1), 1) := by decide +kernel
theorem dX4_nextChoice_8 : decode cX4_nextChoice 8 = .ok (.istore 4, 2) := by decide +kernel
theorem dX4_nextChoice_10 : decode cX4_nextChoice 10 = .ok (.iconst 0, 1) := by decide +kernel
theorem dX4_nextChoice_11 : decode cX4_nextChoice 11 = .ok (.istore 5, 2) := by decide +kernel
theorem dX4_nextChoice_13 : decode cX4_nextChoice 13 = .ok (.iload 5, 2) := by decide +kernel
theorem dX4_nextChoice_15 : decode cX4_nextChoice 15 = .ok (.aload_n 1, 1) := by decide +kernel
theorem dX4_nextChoice_16 : decode cX4_nextChoice 16 = .ok (.getfield 61, 3) := by decide +kernel
theorem dX4_nextChoice_19 : decode cX4_nextChoice 19 = .ok (.if_icmp .ge 63, 3) := by decide +kernel
theorem dX4_nextChoice_22 : decode cX4_nextChoice 22 = .ok (.aload_n 1, 1) := by decide +kernel
theorem dX4_nextChoice_23 : decode cX4_nextChoice 23 = .ok (.iload 5, 2) := by decide +kernel
theorem dX4_nextChoice_25 : decode cX4_nextChoice 25 = .ok (.iload_n 2, 1) := by decide +kernel
theorem dX4_nextChoice_26 : decode cX4_nextChoice 26 = .ok (.invokevirtual 64, 3) := by decide +kernel
theorem dX4_nextChoice_29 : decode cX4_nextChoice 29 = .ok (.ifCond .eq 23, 3) := by decide +kernel
theorem dX4_nextChoice_32 : decode cX4_nextChoice 32 = .ok (.iload_n 3, 1) := by decide +kernel
theorem dX4_nextChoice_33 : decode cX4_nextChoice 33 = .ok (.iconst (-1), 1) := by decide +kernel
theorem dX4_nextChoice_34 : decode cX4_nextChoice 34 = .ok (.if_icmp .eq 14, 3) := by decide +kernel
theorem dX4_nextChoice_37 : decode cX4_nextChoice 37 = .ok (.aload_n 1, 1) := by decide +kernel
theorem dX4_nextChoice_38 : decode cX4_nextChoice 38 = .ok (.iload_n 2, 1) := by decide +kernel
theorem dX4_nextChoice_39 : decode cX4_nextChoice 39 = .ok (.iload_n 3, 1) := by decide +kernel
theorem dX4_nextChoice_40 : decode cX4_nextChoice 40 = .ok (.iload 5, 2) := by decide +kernel
theorem dX4_nextChoice_42 : decode cX4_nextChoice 42 = .ok (.invokevirtual 68, 3) := by decide +kernel
theorem dX4_nextChoice_45 : decode cX4_nextChoice 45 = .ok (.ifCond .eq 7, 3) := by decide +kernel
theorem dX4_nextChoice_48 : decode cX4_nextChoice 48 = .ok (.iconst 1, 1) := by decide +kernel
theorem dX4_nextChoice_49 : decode cX4_nextChoice 49 = .ok (.goto 4, 3) := by decide +kernel
theorem dX4_nextChoice_52 : decode cX4_nextChoice 52 = .ok (.iconst 0, 1) := by decide +kernel
theorem dX4_nextChoice_53 : decode cX4_nextChoice 53 = .ok (.istore 6, 2) := by decide +kernel
theorem dX4_nextChoice_55 : decode cX4_nextChoice 55 = .ok (.iload 6, 2) := by decide +kernel
theorem dX4_nextChoice_57 : decode cX4_nextChoice 57 = .ok (.ifCond .eq 19, 3) := by decide +kernel
theorem dX4_nextChoice_60 : decode cX4_nextChoice 60 = .ok (.aload_n 1, 1) := by decide +kernel
theorem dX4_nextChoice_61 : decode cX4_nextChoice 61 = .ok (.iload_n 2, 1) := by decide +kernel
theorem dX4_nextChoice_62 : decode cX4_nextChoice 62 = .ok (.iload 5, 2) := by decide +kernel
theorem dX4_nextChoice_64 : decode cX4_nextChoice 64 = .ok (.iload 4, 2) := by decide +kernel
theorem dX4_nextChoice_66 : decode cX4_nextChoice 66 = .ok (.invokevirtual 68, 3) := by decide +kernel
theorem dX4_nextChoice_69 : decode cX4_nextChoice 69 = .ok (.ifCond .eq 7, 3) := by decide +kernel
theorem dX4_nextChoice_72 : decode cX4_nextChoice 72 = .ok (.iload 5, 2) := by decide +kernel
theorem dX4_nextChoice_74 : decode cX4_nextChoice 74 = .ok (.istore 4, 2) := by decide +kernel
theorem dX4_nextChoice_76 : decode cX4_nextChoice 76 = .ok (.iinc 5 1, 3) := by decide +kernel
theorem dX4_nextChoice_79 : decode cX4_nextChoice 79 = .ok (.goto (-66), 3) := by decide +kernel
theorem dX4_nextChoice_82 : decode cX4_nextChoice 82 = .ok (.iload 4, 2) := by decide +kernel
theorem dX4_nextChoice_84 : decode cX4_nextChoice 84 = .ok (.ireturn, 1) := by decide +kernel
theorem dX4_askFor_0 : decode cX4_askFor 0 = .ok (.iconst (-1), 1) := by decide +kernel
theorem dX4_askFor_1 : decode cX4_askFor 1 = .ok (.istore 4, 2) := by decide +kernel
theorem dX4_askFor_3 : decode cX4_askFor 3 = .ok (.aload_n 0, 1) := by decide +kernel
theorem dX4_askFor_4 : decode cX4_askFor 4 = .ok (.aload_n 1, 1) := by decide +kernel
theorem dX4_askFor_5 : decode cX4_askFor 5 = .ok (.iload_n 2, 1) := by decide +kernel
theorem dX4_askFor_6 : decode cX4_askFor 6 = .ok (.invokevirtual 71, 3) := by decide +kernel
theorem dX4_askFor_9 : decode cX4_askFor 9 = .ok (.ifCond .ne 38, 3) := by decide +kernel
theorem dX4_askFor_12 : decode cX4_askFor 12 = .ok (.aload_n 0, 1) := by decide +kernel
theorem dX4_askFor_13 : decode cX4_askFor 13 = .ok (.aload_n 1, 1) := by decide +kernel
theorem dX4_askFor_14 : decode cX4_askFor 14 = .ok (.iload_n 2, 1) := by decide +kernel
theorem dX4_askFor_15 : decode cX4_askFor 15 = .ok (.invokevirtual 75, 3) := by decide +kernel
theorem dX4_askFor_18 : decode cX4_askFor 18 = .ok (.istore 4, 2) := by decide +kernel
theorem dX4_askFor_20 : decode cX4_askFor 20 = .ok (.iload 4, 2) := by decide +kernel
theorem dX4_askFor_22 : decode cX4_askFor 22 = .ok (.iconst (-1), 1) := by decide +kernel
theorem dX4_askFor_23 : decode cX4_askFor 23 = .ok (.if_icmp .eq 14, 3) := by decide +kernel
theorem dX4_askFor_26 : decode cX4_askFor 26 = .ok (.aload_n 1, 1) := by decide +kernel
theorem dX4_askFor_27 : decode cX4_askFor 27 = .ok (.iload_n 2, 1) := by decide +kernel
theorem dX4_askFor_28 : decode cX4_askFor 28 = .ok (.iload_n 3, 1) := by decide +kernel
theorem dX4_askFor_29 : decode cX4_askFor 29 = .ok (.iload 4, 2) := by decide +kernel
theorem dX4_askFor_31 : decode cX4_askFor 31 = .ok (.invokevirtual 41, 3) := by decide +kernel
theorem dX4_askFor_34 : decode cX4_askFor 34 = .ok (.ifCond .ne 5, 3) := by decide +kernel
theorem dX4_askFor_37 : decode cX4_askFor 37 = .ok (.iload_n 3, 1) := by decide +kernel
theorem dX4_askFor_38 : decode cX4_askFor 38 = .ok (.ireturn, 1) := by decide +kernel
theorem dX4_askFor_39 : decode cX4_askFor 39 = .ok (.aload_n 0, 1) := by decide +kernel
theorem dX4_askFor_40 : decode cX4_askFor 40 = .ok (.getfield 9, 3) := by decide +kernel
theorem dX4_askFor_43 : decode cX4_askFor 43 = .ok (.iload 4, 2) := by decide +kernel
theorem dX4_askFor_45 : decode cX4_askFor 45 = .ok (.iconst (-1), 1) := by decide +kernel
theorem dX4_askFor_46 : decode cX4_askFor 46 = .ok (.iastore, 1) := by decide +kernel
theorem dX4_askFor_47 : decode cX4_askFor 47 = .ok (.aload_n 0, 1) := by decide +kernel
theorem dX4_askFor_48 : decode cX4_askFor 48 = .ok (.getfield 9, 3) := by decide +kernel
theorem dX4_askFor_51 : decode cX4_askFor 51 = .ok (.iload_n 3, 1) := by decide +kernel
theorem dX4_askFor_52 : decode cX4_askFor 52 = .ok (.iload_n 2, 1) := by decide +kernel
theorem dX4_askFor_53 : decode cX4_askFor 53 = .ok (.iastore, 1) := by decide +kernel
theorem dX4_askFor_54 : decode cX4_askFor 54 = .ok (.iload 4, 2) := by decide +kernel
theorem dX4_askFor_56 : decode cX4_askFor 56 = .ok (.ireturn, 1) := by decide +kernel
theorem dX4_isBlockedBy_0 : decode cX4_isBlockedBy 0 = .ok (.aload_n 0, 1) := by decide +kernel
theorem dX4_isBlockedBy_1 : decode cX4_isBlockedBy 1 = .ok (.getfield 9, 3) := by decide +kernel
theorem dX4_isBlockedBy_4 : decode cX4_isBlockedBy 4 = .ok (.iload_n 3, 1) := by decide +kernel
theorem dX4_isBlockedBy_5 : decode cX4_isBlockedBy 5 = .ok (.iaload, 1) := by decide +kernel
theorem dX4_isBlockedBy_6 : decode cX4_isBlockedBy 6 = .ok (.istore 4, 2) := by decide +kernel
theorem dX4_isBlockedBy_8 : decode cX4_isBlockedBy 8 = .ok (.iload 4, 2) := by decide +kernel
theorem dX4_isBlockedBy_10 : decode cX4_isBlockedBy 10 = .ok (.iload_n 2, 1) := by decide +kernel
theorem dX4_isBlockedBy_11 : decode cX4_isBlockedBy 11 = .ok (.if_icmp .eq 23, 3) := by decide +kernel
theorem dX4_isBlockedBy_14 : decode cX4_isBlockedBy 14 = .ok (.aload_n 1, 1) := by decide +kernel
theorem dX4_isBlockedBy_15 : decode cX4_isBlockedBy 15 = .ok (.iload_n 2, 1) := by decide +kernel
theorem dX4_isBlockedBy_16 : decode cX4_isBlockedBy 16 = .ok (.iload_n 3, 1) := by decide +kernel
theorem dX4_isBlockedBy_17 : decode cX4_isBlockedBy 17 = .ok (.invokevirtual 64, 3) := by decide +kernel
theorem dX4_isBlockedBy_20 : decode cX4_isBlockedBy 20 = .ok (.ifCond .eq 14, 3) := by decide +kernel
theorem dX4_isBlockedBy_23 : decode cX4_isBlockedBy 23 = .ok (.aload_n 1, 1) := by decide +kernel
theorem dX4_isBlockedBy_24 : decode cX4_isBlockedBy 24 = .ok (.iload_n 3, 1) := by decide +kernel
theorem dX4_isBlockedBy_25 : decode cX4_isBlockedBy 25 = .ok (.iload_n 2, 1) := by decide +kernel
theorem dX4_isBlockedBy_26 : decode cX4_isBlockedBy 26 = .ok (.iload 4, 2) := by decide +kernel
theorem dX4_isBlockedBy_28 : decode cX4_isBlockedBy 28 = .ok (.invokevirtual 68, 3) := by decide +kernel
theorem dX4_isBlockedBy_31 : decode cX4_isBlockedBy 31 = .ok (.ifCond .ne 5, 3) := by decide +kernel
theorem dX4_isBlockedBy_34 : decode cX4_isBlockedBy 34 = .ok (.iconst 0, 1) := by decide +kernel
theorem dX4_isBlockedBy_35 : decode cX4_isBlockedBy 35 = .ok (.ireturn, 1) := by decide +kernel
theorem dX4_isBlockedBy_36 : decode cX4_isBlockedBy 36 = .ok (.aload_n 0, 1) := by decide +kernel
theorem dX4_isBlockedBy_37 : decode cX4_isBlockedBy 37 = .ok (.aload_n 1, 1) := by decide +kernel
theorem dX4_isBlockedBy_38 : decode cX4_isBlockedBy 38 = .ok (.iload_n 2, 1) := by decide +kernel
theorem dX4_isBlockedBy_39 : decode cX4_isBlockedBy 39 = .ok (.invokevirtual 71, 3) := by decide +kernel
theorem dX4_isBlockedBy_42 : decode cX4_isBlockedBy 42 = .ok (.ifCond .eq 5, 3) := by decide +kernel
theorem dX4_isBlockedBy_45 : decode cX4_isBlockedBy 45 = .ok (.iconst 1, 1) := by decide +kernel
theorem dX4_isBlockedBy_46 : decode cX4_isBlockedBy 46 = .ok (.ireturn, 1) := by decide +kernel
theorem dX4_isBlockedBy_47 : decode cX4_isBlockedBy 47 = .ok (.aload_n 0, 1) := by decide +kernel
theorem dX4_isBlockedBy_48 : decode cX4_isBlockedBy 48 = .ok (.aload_n 1, 1) := by decide +kernel
theorem dX4_isBlockedBy_49 : decode cX4_isBlockedBy 49 = .ok (.iload_n 2, 1) := by decide +kernel
theorem dX4_isBlockedBy_50 : decode cX4_isBlockedBy 50 = .ok (.invokevirtual 75, 3) := by decide +kernel
theorem dX4_isBlockedBy_53 : decode cX4_isBlockedBy 53 = .ok (.istore 5, 2) := by decide +kernel
theorem dX4_isBlockedBy_55 : decode cX4_isBlockedBy 55 = .ok (.iload 5, 2) := by decide +kernel
theorem dX4_isBlockedBy_57 : decode cX4_isBlockedBy 57 = .ok (.iconst (-1), 1) := by decide +kernel
theorem dX4_isBlockedBy_58 : decode cX4_isBlockedBy 58 = .ok (.if_icmp .eq 18, 3) := by decide +kernel
theorem dX4_isBlockedBy_61 : decode cX4_isBlockedBy 61 = .ok (.aload_n 1, 1) := by decide +kernel
theorem dX4_isBlockedBy_62 : decode cX4_isBlockedBy 62 = .ok (.iload_n 2, 1) := by decide +kernel
theorem dX4_isBlockedBy_63 : decode cX4_isBlockedBy 63 = .ok (.iload_n 3, 1) := by decide +kernel
theorem dX4_isBlockedBy_64 : decode cX4_isBlockedBy 64 = .ok (.iload 5, 2) := by decide +kernel
theorem dX4_isBlockedBy_66 : decode cX4_isBlockedBy 66 = .ok (.invokevirtual 41, 3) := by decide +kernel
theorem dX4_isBlockedBy_69 : decode cX4_isBlockedBy 69 = .ok (.ifCond .eq 7, 3) := by decide +kernel
theorem dX4_isBlockedBy_72 : decode cX4_isBlockedBy 72 = .ok (.iconst 1, 1) := by decide +kernel
theorem dX4_isBlockedBy_73 : decode cX4_isBlockedBy 73 = .ok (.goto 4, 3) := by decide +kernel
theorem dX4_isBlockedBy_76 : decode cX4_isBlockedBy 76 = .ok (.iconst 0, 1) := by decide +kernel
theorem dX4_isBlockedBy_77 : decode cX4_isBlockedBy 77 = .ok (.ireturn, 1) := by decide +kernel
theorem dX4_countBlocking_0 : decode cX4_countBlocking 0 = .ok (.iconst 0, 1) := by decide +kernel
theorem dX4_countBlocking_1 : decode cX4_countBlocking 1 = .ok (.istore_n 2, 1) := by decide +kernel
theorem dX4_countBlocking_2 : decode cX4_countBlocking 2 = .ok (.iconst 0, 1) := by decide +kernel
theorem dX4_countBlocking_3 : decode cX4_countBlocking 3 = .ok (.istore_n 3, 1) := by decide +kernel
theorem dX4_countBlocking_4 : decode cX4_countBlocking 4 = .ok (.iload_n 3, 1) := by decide +kernel
theorem dX4_countBlocking_5 : decode cX4_countBlocking 5 = .ok (.aload_n 1, 1) := by decide +kernel
theorem dX4_countBlocking_6 : decode cX4_countBlocking 6 = .ok (.getfield 61, 3) := by decide +kernel
theorem dX4_countBlocking_9 : decode cX4_countBlocking 9 = .ok (.if_icmp .ge 41, 3) := by decide +kernel
theorem dX4_countBlocking_12 : decode cX4_countBlocking 12 = .ok (.iconst 0, 1) := by decide +kernel
theorem dX4_countBlocking_13 : decode cX4_countBlocking 13 = .ok (.istore 4, 2) := by decide +kernel
theorem dX4_countBlocking_15 : decode cX4_countBlocking 15 = .ok (.iload 4, 2) := by decide +kernel
theorem dX4_countBlocking_17 : decode cX4_countBlocking 17 = .ok (.aload_n 1, 1) := by decide +kernel
theorem dX4_countBlocking_18 : decode cX4_countBlocking 18 = .ok (.getfield 37, 3) := by decide +kernel
theorem dX4_countBlocking_21 : decode cX4_countBlocking 21 = .ok (.if_icmp .ge 23, 3) := by decide +kernel
theorem dX4_countBlocking_24 : decode cX4_countBlocking 24 = .ok (.aload_n 0, 1) := by decide +kernel
theorem dX4_countBlocking_25 : decode cX4_countBlocking 25 = .ok (.aload_n 1, 1) := by decide +kernel
theorem dX4_countBlocking_26 : decode cX4_countBlocking 26 = .ok (.iload_n 3, 1) := by decide +kernel
theorem dX4_countBlocking_27 : decode cX4_countBlocking 27 = .ok (.iload 4, 2) := by decide +kernel
theorem dX4_countBlocking_29 : decode cX4_countBlocking 29 = .ok (.invokevirtual 78, 3) := by decide +kernel
theorem dX4_countBlocking_32 : decode cX4_countBlocking 32 = .ok (.ifCond .eq 6, 3) := by decide +kernel
theorem dX4_countBlocking_35 : decode cX4_countBlocking 35 = .ok (.iinc 2 1, 3) := by decide +kernel
theorem dX4_countBlocking_38 : decode cX4_countBlocking 38 = .ok (.iinc 4 1, 3) := by decide +kernel
theorem dX4_countBlocking_41 : decode cX4_countBlocking 41 = .ok (.goto (-26), 3) := by decide +kernel
theorem dX4_countBlocking_44 : decode cX4_countBlocking 44 = .ok (.iinc 3 1, 3) := by decide +kernel
theorem dX4_countBlocking_47 : decode cX4_countBlocking 47 = .ok (.goto (-43), 3) := by decide +kernel
theorem dX4_countBlocking_50 : decode cX4_countBlocking 50 = .ok (.iload_n 2, 1) := by decide +kernel
theorem dX4_countBlocking_51 : decode cX4_countBlocking 51 = .ok (.ireturn, 1) := by decide +kernel
theorem dX5_init_0 : decode cX5_init 0 = .ok (.aload_n 0, 1) := by decide +kernel
theorem dX5_init_1 : decode cX5_init 1 = .ok (.invokespecial 3, 3) := by decide +kernel
theorem dX5_init_4 : decode cX5_init 4 = .ok (.aload_n 0, 1) := by decide +kernel
theorem dX5_init_5 : decode cX5_init 5 = .ok (.bipush 16, 2) := by decide +kernel
theorem dX5_init_7 : decode cX5_init 7 = .ok (.newarray .int, 2) := by decide +kernel
theorem dX5_init_9 : decode cX5_init 9 = .ok (.putfield 9, 3) := by decide +kernel
theorem dX5_init_12 : decode cX5_init 12 = .ok (.aload_n 0, 1) := by decide +kernel
theorem dX5_init_13 : decode cX5_init 13 = .ok (.bipush 16, 2) := by decide +kernel
theorem dX5_init_15 : decode cX5_init 15 = .ok (.newarray .int, 2) := by decide +kernel
theorem dX5_init_17 : decode cX5_init 17 = .ok (.putfield 15, 3) := by decide +kernel
theorem dX5_init_20 : decode cX5_init 20 = .ok (.aload_n 0, 1) := by decide +kernel
theorem dX5_init_21 : decode cX5_init 21 = .ok (.iconst 0, 1) := by decide +kernel
theorem dX5_init_22 : decode cX5_init 22 = .ok (.putfield 18, 3) := by decide +kernel
theorem dX5_init_25 : decode cX5_init 25 = .ok (.aload_n 0, 1) := by decide +kernel
theorem dX5_init_26 : decode cX5_init 26 = .ok (.iconst (-1), 1) := by decide +kernel
theorem dX5_init_27 : decode cX5_init 27 = .ok (.putfield 22, 3) := by decide +kernel
theorem dX5_init_30 : decode cX5_init 30 = .ok (.aload_n 0, 1) := by decide +kernel
theorem dX5_init_31 : decode cX5_init 31 = .ok (.iconst (-1), 1) := by decide +kernel
theorem dX5_init_32 : decode cX5_init 32 = .ok (.putfield 25, 3) := by decide +kernel
theorem dX5_init_35 : decode cX5_init 35 = .ok (.return_, 1) := by decide +kernel
theorem dX5_findLast_0 : decode cX5_findLast 0 = .ok (.aload_n 0, 1) := by decide +kernel
theorem dX5_findLast_1 : decode cX5_findLast 1 = .ok (.getfield 15, 3) := by decide +kernel
theorem dX5_findLast_4 : decode cX5_findLast 4 = .ok (.iconst (-1), 1) := by decide +kernel
theorem dX5_findLast_5 : decode cX5_findLast 5 = .ok (.invokestatic 28, 3) := by decide +kernel
theorem dX5_findLast_8 : decode cX5_findLast 8 = .ok (.aload_n 0, 1) := by decide +kernel
theorem dX5_findLast_9 : decode cX5_findLast 9 = .ok (.iload_n 3, 1) := by decide +kernel
theorem dX5_findLast_10 : decode cX5_findLast 10 = .ok (.putfield 22, 3) := by decide +kernel
theorem dX5_findLast_13 : decode cX5_findLast 13 = .ok (.aload_n 0, 1) := by decide +kernel
theorem dX5_findLast_14 : decode cX5_findLast 14 = .ok (.getfield 9, 3) := by decide +kernel
theorem dX5_findLast_17 : decode cX5_findLast 17 = .ok (.iconst 0, 1) := by decide +kernel
theorem dX5_findLast_18 : decode cX5_findLast 18 = .ok (.iload_n 3, 1) := by decide +kernel
theorem dX5_findLast_19 : decode cX5_findLast 19 = .ok (.iastore, 1) := by decide +kernel
theorem dX5_findLast_20 : decode cX5_findLast 20 = .ok (.aload_n 0, 1) := by decide +kernel
theorem dX5_findLast_21 : decode cX5_findLast 21 = .ok (.iconst 1, 1) := by decide +kernel
theorem dX5_findLast_22 : decode cX5_findLast 22 = .ok (.putfield 18, 3) := by decide +kernel
theorem dX5_findLast_25 : decode cX5_findLast 25 = .ok (.iconst 0, 1) := by decide +kernel
theorem dX5_findLast_26 : decode cX5_findLast 26 = .ok (.istore 4, 2) := by decide +kernel
theorem dX5_findLast_28 : decode cX5_findLast 28 = .ok (.iload 4, 2) := by decide +kernel
theorem dX5_findLast_30 : decode cX5_findLast 30 = .ok (.bipush 16, 2) := by decide +kernel
theorem dX5_findLast_32 : decode cX5_findLast 32 = .ok (.if_icmp .ge 58, 3) := by decide +kernel
theorem dX5_findLast_35 : decode cX5_findLast 35 = .ok (.iload 4, 2) := by decide +kernel
theorem dX5_findLast_37 : decode cX5_findLast 37 = .ok (.aload_n 0, 1) := by decide +kernel
theorem dX5_findLast_38 : decode cX5_findLast 38 = .ok (.getfield 18, 3) := by decide +kernel
theorem dX5_findLast_41 : decode cX5_findLast 41 = .ok (.if_icmp .ge 49, 3) := by decide +kernel
theorem dX5_findLast_44 : decode cX5_findLast 44 = .ok (.aload_n 0, 1) := by decide +kernel
theorem dX5_findLast_45 : decode cX5_findLast 45 = .ok (.getfield 9, 3) := by decide +kernel
theorem dX5_findLast_48 : decode cX5_findLast 48 = .ok (.iload 4, 2) := by decide +kernel
theorem dX5_findLast_50 : decode cX5_findLast 50 = .ok (.iaload, 1) := by decide +kernel
theorem dX5_findLast_51 : decode cX5_findLast 51 = .ok (.istore 5, 2) := by decide +kernel
theorem dX5_findLast_53 : decode cX5_findLast 53 = .ok (.aload_n 0, 1) := by decide +kernel
theorem dX5_findLast_54 : decode cX5_findLast 54 = .ok (.aload_n 0, 1) := by decide +kernel
theorem dX5_findLast_55 : decode cX5_findLast 55 = .ok (.aload_n 1, 1) := by decide +kernel
theorem dX5_findLast_56 : decode cX5_findLast 56 = .ok (.aload_n 2, 1) := by decide +kernel
theorem dX5_findLast_57 : decode cX5_findLast 57 = .ok (.iload 5, 2) := by decide +kernel
theorem dX5_findLast_59 : decode cX5_findLast 59 = .ok (.invokevirtual 34, 3) := by decide +kernel
theorem dX5_findLast_62 : decode cX5_findLast 62 = .ok (.putfield 25, 3) := by decide +kernel
theorem dX5_findLast_65 : decode cX5_findLast 65 = .ok (.aload_n 0, 1) := by decide +kernel
theorem dX5_findLast_66 : decode cX5_findLast 66 = .ok (.getfield 25, 3) := by decide +kernel
theorem dX5_findLast_69 : decode cX5_findLast 69 = .ok (.iconst (-1), 1) := by decide +kernel
theorem dX5_findLast_70 : decode cX5_findLast 70 = .ok (.if_icmp .eq 6, 3) := by decide +kernel
theorem dX5_findLast_73 : decode cX5_findLast 73 = .ok (.iload 5, 2) := by decide +kernel
theorem dX5_findLast_75 : decode cX5_findLast 75 = .ok (.ireturn, 1) := by decide +kernel
theorem dX5_findLast_76 : decode cX5_findLast 76 = .ok (.aload_n 0, 1) := by decide +kernel
theorem dX5_findLast_77 : decode cX5_findLast 77 = .ok (.aload_n 1, 1) := by decide +kernel
theorem dX5_findLast_78 : decode cX5_findLast 78 = .ok (.aload_n 2, 1) := by decide +kernel
theorem dX5_findLast_79 : decode cX5_findLast 79 = .ok (.iload 5, 2) := by decide +kernel
theorem dX5_findLast_81 : decode cX5_findLast 81 = .ok (.invokevirtual 38, 3) := by decide +kernel
theorem dX5_findLast_84 : decode cX5_findLast 84 = .ok (.iinc 4 1, 3) := by decide +kernel
theorem dX5_findLast_87 : decode cX5_findLast 87 = .ok (.goto (-59), 3) := by decide +kernel
theorem dX5_findLast_90 : decode cX5_findLast 90 = .ok (.iconst (-1), 1) := by decide +kernel
theorem dX5_findLast_91 : decode cX5_findLast 91 = .ok (.ireturn, 1) := by decide +kernel
theorem dX5_mayMove_0 : decode cX5_mayMove 0 = .ok (.iload_n 3, 1) := by decide +kernel
theorem dX5_mayMove_1 : decode cX5_mayMove 1 = .ok (.aload_n 1, 1) := by decide +kernel
theorem dX5_mayMove_2 : decode cX5_mayMove 2 = .ok (.getfield 42, 3) := by decide +kernel
theorem dX5_mayMove_5 : decode cX5_mayMove 5 = .ok (.iload_n 2, 1) := by decide +kernel
theorem dX5_mayMove_6 : decode cX5_mayMove 6 = .ok (.iaload, 1) := by decide +kernel
theorem dX5_mayMove_7 : decode cX5_mayMove 7 = .ok (.if_icmp .eq 16, 3) := by decide +kernel
theorem dX5_mayMove_10 : decode cX5_mayMove 10 = .ok (.aload_n 0, 1) := by decide +kernel
theorem dX5_mayMove_11 : decode cX5_mayMove 11 = .ok (.iload_n 3, 1) := by decide +kernel
theorem dX5_mayMove_12 : decode cX5_mayMove 12 = .ok (.iload_n 2, 1) := by decide +kernel
theorem dX5_mayMove_13 : decode cX5_mayMove 13 = .ok (.invokevirtual 47, 3) := by decide +kernel
theorem dX5_mayMove_16 : decode cX5_mayMove 16 = .ok (.ifCond .eq 7, 3) := by decide +kernel
theorem dX5_mayMove_19 : decode cX5_mayMove 19 = .ok (.iconst 1, 1) := by decide +kernel
theorem dX5_mayMove_20 : decode cX5_mayMove 20 = .ok (.goto 4, 3) := by decide +kernel
theorem dX5_mayMove_23 : decode cX5_mayMove 23 = .ok (.iconst 0, 1) := by decide +kernel
theorem dX5_mayMove_24 : decode cX5_mayMove 24 = .ok (.ireturn, 1) := by decide +kernel
theorem dX5_freeElderFor_0 : decode cX5_freeElderFor 0 = .ok (.iconst 0, 1) := by decide +kernel
theorem dX5_freeElderFor_1 : decode cX5_freeElderFor 1 = .ok (.istore 4, 2) := by decide +kernel
theorem dX5_freeElderFor_3 : decode cX5_freeElderFor 3 = .ok (.iload 4, 2) := by decide +kernel
theorem dX5_freeElderFor_5 : decode cX5_freeElderFor 5 = .ok (.aload_n 1, 1) := by decide +kernel
theorem dX5_freeElderFor_6 : decode cX5_freeElderFor 6 = .ok (.getfield 53, 3) := by decide +kernel
theorem dX5_freeElderFor_9 : decode cX5_freeElderFor 9 = .ok (.if_icmp .ge 34, 3) := by decide +kernel
theorem dX5_freeElderFor_12 : decode cX5_freeElderFor 12 = .ok (.aload_n 1, 1) := by decide +kernel
theorem dX5_freeElderFor_13 : decode cX5_freeElderFor 13 = .ok (.aload_n 2, 1) := by decide +kernel
theorem dX5_freeElderFor_14 : decode cX5_freeElderFor 14 = .ok (.iload_n 3, 1) := by decide +kernel
theorem dX5_freeElderFor_15 : decode cX5_freeElderFor 15 = .ok (.iload 4, 2) := by decide +kernel
theorem dX5_freeElderFor_17 : decode cX5_freeElderFor 17 = .ok (.invokestatic 56, 3) := by decide +kernel
theorem dX5_freeElderFor_20 : decode cX5_freeElderFor 20 = .ok (.ifCond .eq 17, 3) := by decide +kernel
theorem dX5_freeElderFor_23 : decode cX5_freeElderFor 23 = .ok (.aload_n 0, 1) := by decide +kernel
theorem dX5_freeElderFor_24 : decode cX5_freeElderFor 24 = .ok (.aload_n 1, 1) := by decide +kernel
theorem dX5_freeElderFor_25 : decode cX5_freeElderFor 25 = .ok (.aload_n 2, 1) := by decide +kernel
theorem dX5_freeElderFor_26 : decode cX5_freeElderFor 26 = .ok (.iload 4, 2) := by decide +kernel
theorem dX5_freeElderFor_28 : decode cX5_freeElderFor 28 = .ok (.invokevirtual 60, 3) := by decide +kernel
theorem dX5_freeElderFor_31 : decode cX5_freeElderFor 31 = .ok (.ifCond .eq 6, 3) := by decide +kernel
theorem dX5_freeElderFor_34 : decode cX5_freeElderFor 34 = .ok (.iload 4, 2) := by decide +kernel
theorem dX5_freeElderFor_36 : decode cX5_freeElderFor 36 = .ok (.ireturn, 1) := by decide +kernel
theorem dX5_freeElderFor_37 : decode cX5_freeElderFor 37 = .ok (.iinc 4 1, 3) := by decide +kernel
theorem dX5_freeElderFor_40 : decode cX5_freeElderFor 40 = .ok (.goto (-37), 3) := by decide +kernel
theorem dX5_freeElderFor_43 : decode cX5_freeElderFor 43 = .ok (.iconst (-1), 1) := by decide +kernel
theorem dX5_freeElderFor_44 : decode cX5_freeElderFor 44 = .ok (.ireturn, 1) := by decide +kernel
theorem dX5_isFree_0 : decode cX5_isFree 0 = .ok (.aload_n 2, 1) := by decide +kernel
theorem dX5_isFree_1 : decode cX5_isFree 1 = .ok (.getfield 42, 3) := by decide +kernel
theorem dX5_isFree_4 : decode cX5_isFree 4 = .ok (.aload_n 0, 1) := by decide +kernel
theorem dX5_isFree_5 : decode cX5_isFree 5 = .ok (.getfield 22, 3) := by decide +kernel
theorem dX5_isFree_8 : decode cX5_isFree 8 = .ok (.iaload, 1) := by decide +kernel
theorem dX5_isFree_9 : decode cX5_isFree 9 = .ok (.iload_n 3, 1) := by decide +kernel
theorem dX5_isFree_10 : decode cX5_isFree 10 = .ok (.if_icmp .ne 7, 3) := by decide +kernel
theorem dX5_isFree_13 : decode cX5_isFree 13 = .ok (.iconst 1, 1) := by decide +kernel
theorem dX5_isFree_14 : decode cX5_isFree 14 = .ok (.goto 4, 3) := by decide +kernel
theorem dX5_isFree_17 : decode cX5_isFree 17 = .ok (.iconst 0, 1) := by decide +kernel
theorem dX5_isFree_18 : decode cX5_isFree 18 = .ok (.istore 4, 2) := by decide +kernel
theorem dX5_isFree_20 : decode cX5_isFree 20 = .ok (.aload_n 2, 1) := by decide +kernel
theorem dX5_isFree_21 : decode cX5_isFree 21 = .ok (.iload_n 3, 1) := by decide +kernel
theorem dX5_isFree_22 : decode cX5_isFree 22 = .ok (.invokevirtual 64, 3) := by decide +kernel
theorem dX5_isFree_25 : decode cX5_isFree 25 = .ok (.iload 4, 2) := by decide +kernel
theorem dX5_isFree_27 : decode cX5_isFree 27 = .ok (.isub, 1) := by decide +kernel
theorem dX5_isFree_28 : decode cX5_isFree 28 = .ok (.aload_n 1, 1) := by decide +kernel
theorem dX5_isFree_29 : decode cX5_isFree 29 = .ok (.getfield 68, 3) := by decide +kernel
theorem dX5_isFree_32 : decode cX5_isFree 32 = .ok (.iload_n 3, 1) := by decide +kernel
theorem dX5_isFree_33 : decode cX5_isFree 33 = .ok (.iaload, 1) := by decide +kernel
theorem dX5_isFree_34 : decode cX5_isFree 34 = .ok (.if_icmp .ge 7, 3) := by decide +kernel
theorem dX5_isFree_37 : decode cX5_isFree 37 = .ok (.iconst 1, 1) := by decide +kernel
theorem dX5_isFree_38 : decode cX5_isFree 38 = .ok (.goto 4, 3) := by decide +kernel
theorem dX5_isFree_41 : decode cX5_isFree 41 = .ok (.iconst 0, 1) := by decide +kernel
theorem dX5_isFree_42 : decode cX5_isFree 42 = .ok (.ireturn, 1) := by decide +kernel
theorem dX5_queueLeavers_0 : decode cX5_queueLeavers 0 = .ok (.iconst 0, 1) := by decide +kernel
theorem dX5_queueLeavers_1 : decode cX5_queueLeavers 1 = .ok (.istore 4, 2) := by decide +kernel
theorem dX5_queueLeavers_3 : decode cX5_queueLeavers 3 = .ok (.iload 4, 2) := by decide +kernel
theorem dX5_queueLeavers_5 : decode cX5_queueLeavers 5 = .ok (.aload_n 1, 1) := by decide +kernel
theorem dX5_queueLeavers_6 : decode cX5_queueLeavers 6 = .ok (.getfield 53, 3) := by decide +kernel
theorem dX5_queueLeavers_9 : decode cX5_queueLeavers 9 = .ok (.if_icmp .ge 29, 3) := by decide +kernel
theorem dX5_queueLeavers_12 : decode cX5_queueLeavers 12 = .ok (.aload_n 1, 1) := by decide +kernel
theorem dX5_queueLeavers_13 : decode cX5_queueLeavers 13 = .ok (.aload_n 2, 1) := by decide +kernel
theorem dX5_queueLeavers_14 : decode cX5_queueLeavers 14 = .ok (.iload_n 3, 1) := by decide +kernel
theorem dX5_queueLeavers_15 : decode cX5_queueLeavers 15 = .ok (.iload 4, 2) := by decide +kernel
theorem dX5_queueLeavers_17 : decode cX5_queueLeavers 17 = .ok (.invokestatic 56, 3) := by decide +kernel
theorem dX5_queueLeavers_20 : decode cX5_queueLeavers 20 = .ok (.ifCond .eq 12, 3) := by decide +kernel
theorem dX5_queueLeavers_23 : decode cX5_queueLeavers 23 = .ok (.aload_n 0, 1) := by decide +kernel
theorem dX5_queueLeavers_24 : decode cX5_queueLeavers 24 = .ok (.aload_n 1, 1) := by decide +kernel
theorem dX5_queueLeavers_25 : decode cX5_queueLeavers 25 = .ok (.aload_n 2, 1) := by decide +kernel
theorem dX5_queueLeavers_26 : decode cX5_queueLeavers 26 = .ok (.iload_n 3, 1) := by decide +kernel
theorem dX5_queueLeavers_27 : decode cX5_queueLeavers 27 = .ok (.iload 4, 2) := by decide +kernel
theorem dX5_queueLeavers_29 : decode cX5_queueLeavers 29 = .ok (.invokevirtual 71, 3) := by decide +kernel
theorem dX5_queueLeavers_32 : decode cX5_queueLeavers 32 = .ok (.iinc 4 1, 3) := by decide +kernel
theorem dX5_queueLeavers_35 : decode cX5_queueLeavers 35 = .ok (.goto (-32), 3) := by decide +kernel
theorem dX5_queueLeavers_38 : decode cX5_queueLeavers 38 = .ok (.return_, 1) := by decide +kernel
theorem dX5_queueLeaversOf_0 : decode cX5_queueLeaversOf 0 = .ok (.iconst 0, 1) := by decide +kernel
theorem dX5_queueLeaversOf_1 : decode cX5_queueLeaversOf 1 = .ok (.istore 5, 2) := by decide +kernel
theorem dX5_queueLeaversOf_3 : decode cX5_queueLeaversOf 3 = .ok (.iload 5, 2) := by decide +kernel
theorem dX5_queueLeaversOf_5 : decode cX5_queueLeaversOf 5 = .ok (.aload_n 1, 1) := by decide +kernel
theorem dX5_queueLeaversOf_6 : decode cX5_queueLeaversOf 6 = .ok (.getfield 75, 3) := by decide +kernel
theorem dX5_queueLeaversOf_9 : decode cX5_queueLeaversOf 9 = .ok (.if_icmp .ge 91, 3) := by decide +kernel
theorem dX5_queueLeaversOf_12 : decode cX5_queueLeaversOf 12 = .ok (.iload 5, 2) := by decide +kernel
theorem dX5_queueLeaversOf_14 : decode cX5_queueLeaversOf 14 = .ok (.aload_n 0, 1) := by decide +kernel
theorem dX5_queueLeaversOf_15 : decode cX5_queueLeaversOf 15 = .ok (.getfield 22, 3) := by decide +kernel
theorem dX5_queueLeaversOf_18 : decode cX5_queueLeaversOf 18 = .ok (.if_icmp .eq 18, 3) := by decide +kernel
theorem dX5_queueLeaversOf_21 : decode cX5_queueLeaversOf 21 = .ok (.aload_n 0, 1) := by decide +kernel
theorem dX5_queueLeaversOf_22 : decode cX5_queueLeaversOf 22 = .ok (.getfield 15, 3) := by decide +kernel
theorem dX5_queueLeaversOf_25 : decode cX5_queueLeaversOf 25 = .ok (.iload 5, 2) := by decide +kernel
theorem dX5_queueLeaversOf_27 : decode cX5_queueLeaversOf 27 = .ok (.iaload, 1) := by decide +kernel
theorem dX5_queueLeaversOf_28 : decode cX5_queueLeaversOf 28 = .ok (.iconst (-1), 1) := by decide +kernel
theorem dX5_queueLeaversOf_29 : decode cX5_queueLeaversOf 29 = .ok (.if_icmp .ne 7, 3) := by decide +kernel
theorem dX5_queueLeaversOf_32 : decode cX5_queueLeaversOf 32 = .ok (.iconst 1, 1) := by decide +kernel
theorem dX5_queueLeaversOf_33 : decode cX5_queueLeaversOf 33 = .ok (.goto 4, 3) := by decide +kernel
theorem dX5_queueLeaversOf_36 : decode cX5_queueLeaversOf 36 = .ok (.iconst 0, 1) := by decide +kernel
theorem dX5_queueLeaversOf_37 : decode cX5_queueLeaversOf 37 = .ok (.istore 6, 2) := by decide +kernel
theorem dX5_queueLeaversOf_39 : decode cX5_queueLeaversOf 39 = .ok (.iload 6, 2) := by decide +kernel
theorem dX5_queueLeaversOf_41 : decode cX5_queueLeaversOf 41 = .ok (.ifCond .eq 53, 3) := by decide +kernel
theorem dX5_queueLeaversOf_44 : decode cX5_queueLeaversOf 44 = .ok (.aload_n 2, 1) := by decide +kernel
theorem dX5_queueLeaversOf_45 : decode cX5_queueLeaversOf 45 = .ok (.getfield 42, 3) := by decide +kernel
theorem dX5_queueLeaversOf_48 : decode cX5_queueLeaversOf 48 = .ok (.iload 5, 2) := by decide +kernel
theorem dX5_queueLeaversOf_50 : decode cX5_queueLeaversOf 50 = .ok (.iaload, 1) := by decide +kernel
theorem dX5_queueLeaversOf_51 : decode cX5_queueLeaversOf 51 = .ok (.iload 4, 2) := by decide +kernel
theorem dX5_queueLeaversOf_53 : decode cX5_queueLeaversOf 53 = .ok (.if_icmp .ne 41, 3) := by decide +kernel
theorem dX5_queueLeaversOf_56 : decode cX5_queueLeaversOf 56 = .ok (.aload_n 0, 1) := by decide +kernel
theorem dX5_queueLeaversOf_57 : decode cX5_queueLeaversOf 57 = .ok (.getfield 18, 3) := by decide +kernel
theorem dX5_queueLeaversOf_60 : decode cX5_queueLeaversOf 60 = .ok (.bipush 16, 2) := by decide +kernel
theorem dX5_queueLeaversOf_62 : decode cX5_queueLeaversOf 62 = .ok (.if_icmp .ge 32, 3) := by decide +kernel
theorem dX5_queueLeaversOf_65 : decode cX5_queueLeaversOf 65 = .ok (.aload_n 0, 1) := by decide +kernel
theorem dX5_queueLeaversOf_66 : decode cX5_queueLeaversOf 66 = .ok (.getfield 15, 3) := by decide +kernel
theorem dX5_queueLeaversOf_69 : decode cX5_queueLeaversOf 69 = .ok (.iload 5, 2) := by decide +kernel
theorem dX5_queueLeaversOf_71 : decode cX5_queueLeaversOf 71 = .ok (.iload_n 3, 1) := by decide +kernel
theorem dX5_queueLeaversOf_72 : decode cX5_queueLeaversOf 72 = .ok (.iastore, 1) := by decide +kernel
theorem dX5_queueLeaversOf_73 : decode cX5_queueLeaversOf 73 = .ok (.aload_n 0, 1) := by decide +kernel
theorem dX5_queueLeaversOf_74 : decode cX5_queueLeaversOf 74 = .ok (.getfield 9, 3) := by decide +kernel
theorem dX5_queueLeaversOf_77 : decode cX5_queueLeaversOf 77 = .ok (.aload_n 0, 1) := by decide +kernel
theorem dX5_queueLeaversOf_78 : decode cX5_queueLeaversOf 78 = .ok (.getfield 18, 3) := by decide +kernel
theorem dX5_queueLeaversOf_81 : decode cX5_queueLeaversOf 81 = .ok (.iload 5, 2) := by decide +kernel
theorem dX5_queueLeaversOf_83 : decode cX5_queueLeaversOf 83 = .ok (.iastore, 1) := by decide +kernel
theorem dX5_queueLeaversOf_84 : decode cX5_queueLeaversOf 84 = .ok (.aload_n 0, 1) := by decide +kernel
theorem dX5_queueLeaversOf_85 : decode cX5_queueLeaversOf 85 = .ok (.dup, 1) := by decide +kernel
theorem dX5_queueLeaversOf_86 : decode cX5_queueLeaversOf 86 = .ok (.getfield 18, 3) := by decide +kernel
theorem dX5_queueLeaversOf_89 : decode cX5_queueLeaversOf 89 = .ok (.iconst 1, 1) := by decide +kernel
theorem dX5_queueLeaversOf_90 : decode cX5_queueLeaversOf 90 = .ok (.iadd, 1) := by decide +kernel
theorem dX5_queueLeaversOf_91 : decode cX5_queueLeaversOf 91 = .ok (.putfield 18, 3) := by decide +kernel
theorem dX5_queueLeaversOf_94 : decode cX5_queueLeaversOf 94 = .ok (.iinc 5 1, 3) := by decide +kernel
theorem dX5_queueLeaversOf_97 : decode cX5_queueLeaversOf 97 = .ok (.goto (-94), 3) := by decide +kernel
theorem dX5_queueLeaversOf_100 : decode cX5_queueLeaversOf 100 = .ok (.return_, 1) := by decide +kernel
theorem dX5_moveAll_0 : decode cX5_moveAll 0 = .ok (.iload_n 2, 1) := by decide +kernel
theorem dX5_moveAll_1 : decode cX5_moveAll 1 = .ok (.istore_n 3, 1) := by decide +kernel
theorem dX5_moveAll_2 : decode cX5_moveAll 2 = .ok (.aload_n 0, 1) := by decide +kernel
theorem dX5_moveAll_3 : decode cX5_moveAll 3 = .ok (.getfield 25, 3) := by decide +kernel
theorem dX5_moveAll_6 : decode cX5_moveAll 6 = .ok (.istore 4, 2) := by decide +kernel
theorem dX5_moveAll_8 : decode cX5_moveAll 8 = .ok (.iconst 0, 1) := by decide +kernel
theorem dX5_moveAll_9 : decode cX5_moveAll 9 = .ok (.istore 5, 2) := by decide +kernel
theorem dX5_moveAll_11 : decode cX5_moveAll 11 = .ok (.iload 5, 2) := by decide +kernel
theorem dX5_moveAll_13 : decode cX5_moveAll 13 = .ok (.bipush 16, 2) := by decide +kernel
theorem dX5_moveAll_15 : decode cX5_moveAll 15 = .ok (.if_icmp .ge 41, 3) := by decide +kernel
theorem dX5_moveAll_18 : decode cX5_moveAll 18 = .ok (.iload_n 3, 1) := by decide +kernel
theorem dX5_moveAll_19 : decode cX5_moveAll 19 = .ok (.iconst (-1), 1) := by decide +kernel
theorem dX5_moveAll_20 : decode cX5_moveAll 20 = .ok (.if_icmp .eq 36, 3) := by decide +kernel
theorem dX5_moveAll_23 : decode cX5_moveAll 23 = .ok (.aload_n 1, 1) := by decide +kernel
theorem dX5_moveAll_24 : decode cX5_moveAll 24 = .ok (.getfield 42, 3) := by decide +kernel
theorem dX5_moveAll_27 : decode cX5_moveAll 27 = .ok (.iload_n 3, 1) := by decide +kernel
theorem dX5_moveAll_28 : decode cX5_moveAll 28 = .ok (.iaload, 1) := by decide +kernel
theorem dX5_moveAll_29 : decode cX5_moveAll 29 = .ok (.istore 6, 2) := by decide +kernel
theorem dX5_moveAll_31 : decode cX5_moveAll 31 = .ok (.aload_n 1, 1) := by decide +kernel
theorem dX5_moveAll_32 : decode cX5_moveAll 32 = .ok (.getfield 42, 3) := by decide +kernel
theorem dX5_moveAll_35 : decode cX5_moveAll 35 = .ok (.iload_n 3, 1) := by decide +kernel
theorem dX5_moveAll_36 : decode cX5_moveAll 36 = .ok (.iload 4, 2) := by decide +kernel
theorem dX5_moveAll_38 : decode cX5_moveAll 38 = .ok (.iastore, 1) := by decide +kernel
theorem dX5_moveAll_39 : decode cX5_moveAll 39 = .ok (.iload 6, 2) := by decide +kernel
theorem dX5_moveAll_41 : decode cX5_moveAll 41 = .ok (.istore 4, 2) := by decide +kernel
theorem dX5_moveAll_43 : decode cX5_moveAll 43 = .ok (.aload_n 0, 1) := by decide +kernel
theorem dX5_moveAll_44 : decode cX5_moveAll 44 = .ok (.getfield 15, 3) := by decide +kernel
theorem dX5_moveAll_47 : decode cX5_moveAll 47 = .ok (.iload_n 3, 1) := by decide +kernel
theorem dX5_moveAll_48 : decode cX5_moveAll 48 = .ok (.iaload, 1) := by decide +kernel
theorem dX5_moveAll_49 : decode cX5_moveAll 49 = .ok (.istore_n 3, 1) := by decide +kernel
theorem dX5_moveAll_50 : decode cX5_moveAll 50 = .ok (.iinc 5 1, 3) := by decide +kernel
theorem dX5_moveAll_53 : decode cX5_moveAll 53 = .ok (.goto (-42), 3) := by decide +kernel
theorem dX5_moveAll_56 : decode cX5_moveAll 56 = .ok (.iload 5, 2) := by decide +kernel
theorem dX5_moveAll_58 : decode cX5_moveAll 58 = .ok (.ireturn, 1) := by decide +kernel
theorem dX6_init_0 : decode cX6_init 0 = .ok (.aload_n 0, 1) := by decide +kernel
theorem dX6_init_1 : decode cX6_init 1 = .ok (.invokespecial 3, 3) := by decide +kernel
theorem dX6_init_4 : decode cX6_init 4 = .ok (.aload_n 0, 1) := by decide +kernel
theorem dX6_init_5 : decode cX6_init 5 = .ok (.bipush 16, 2) := by decide +kernel
theorem dX6_init_7 : decode cX6_init 7 = .ok (.newarray .int, 2) := by decide +kernel
theorem dX6_init_9 : decode cX6_init 9 = .ok (.putfield 9, 3) := by decide +kernel
theorem dX6_init_12 : decode cX6_init 12 = .ok (.aload_n 0, 1) := by decide +kernel
theorem dX6_init_13 : decode cX6_init 13 = .ok (.bipush 16, 2) := by decide +kernel
theorem dX6_init_15 : decode cX6_init 15 = .ok (.newarray .boolean, 2) := by decide +kernel
theorem dX6_init_17 : decode cX6_init 17 = .ok (.putfield 15, 3) := by decide +kernel
theorem dX6_init_20 : decode cX6_init 20 = .ok (.aload_n 0, 1) := by decide +kernel
theorem dX6_init_21 : decode cX6_init 21 = .ok (.iconst 0, 1) := by decide +kernel
theorem dX6_init_22 : decode cX6_init 22 = .ok (.putfield 19, 3) := by decide +kernel
theorem dX6_init_25 : decode cX6_init 25 = .ok (.return_, 1) := by decide +kernel
theorem dX6_add_0 : decode cX6_add 0 = .ok (.aload_n 0, 1) := by decide +kernel
theorem dX6_add_1 : decode cX6_add 1 = .ok (.getfield 9, 3) := by decide +kernel
theorem dX6_add_4 : decode cX6_add 4 = .ok (.aload_n 0, 1) := by decide +kernel
theorem dX6_add_5 : decode cX6_add 5 = .ok (.getfield 19, 3) := by decide +kernel
theorem dX6_add_8 : decode cX6_add 8 = .ok (.iload_n 1, 1) := by decide +kernel
theorem dX6_add_9 : decode cX6_add 9 = .ok (.iastore, 1) := by decide +kernel
theorem dX6_add_10 : decode cX6_add 10 = .ok (.aload_n 0, 1) := by decide +kernel
theorem dX6_add_11 : decode cX6_add 11 = .ok (.getfield 15, 3) := by decide +kernel
theorem dX6_add_14 : decode cX6_add 14 = .ok (.aload_n 0, 1) := by decide +kernel
theorem dX6_add_15 : decode cX6_add 15 = .ok (.getfield 19, 3) := by decide +kernel
theorem dX6_add_18 : decode cX6_add 18 = .ok (.iload_n 2, 1) := by decide +kernel
theorem dX6_add_19 : decode cX6_add 19 = .ok (.bastore, 1) := by decide +kernel
theorem dX6_add_20 : decode cX6_add 20 = .ok (.aload_n 0, 1) := by decide +kernel
theorem dX6_add_21 : decode cX6_add 21 = .ok (.dup, 1) := by decide +kernel
theorem dX6_add_22 : decode cX6_add 22 = .ok (.getfield 19, 3) := by decide +kernel
theorem dX6_add_25 : decode cX6_add 25 = .ok (.iconst 1, 1) := by decide +kernel
theorem dX6_add_26 : decode cX6_add 26 = .ok (.iadd, 1) := by decide +kernel
theorem dX6_add_27 : decode cX6_add 27 = .ok (.putfield 19, 3) := by decide +kernel
theorem dX6_add_30 : decode cX6_add 30 = .ok (.return_, 1) := by decide +kernel
theorem dX6_shareBeyond_0 : decode cX6_shareBeyond 0 = .ok (.lconst 1, 1) := by decide +kernel
theorem dX6_shareBeyond_1 : decode cX6_shareBeyond 1 = .ok (.lstore_n 3, 1) := by decide +kernel
theorem dX6_shareBeyond_2 : decode cX6_shareBeyond 2 = .ok (.lconst 1, 1) := by decide +kernel
theorem dX6_shareBeyond_3 : decode cX6_shareBeyond 3 = .ok (.lstore 5, 2) := by decide +kernel
theorem dX6_shareBeyond_5 : decode cX6_shareBeyond 5 = .ok (.iconst 1, 1) := by decide +kernel
theorem dX6_shareBeyond_6 : decode cX6_shareBeyond 6 = .ok (.istore 7, 2) := by decide +kernel
theorem dX6_shareBeyond_8 : decode cX6_shareBeyond 8 = .ok (.iload 7, 2) := by decide +kernel
theorem dX6_shareBeyond_10 : decode cX6_shareBeyond 10 = .ok (.iload_n 1, 1) := by decide +kernel
theorem dX6_shareBeyond_11 : decode cX6_shareBeyond 11 = .ok (.if_icmp .gt 47, 3) := by decide +kernel
theorem dX6_shareBeyond_14 : decode cX6_shareBeyond 14 = .ok (.aload_n 0, 1) := by decide +kernel
theorem dX6_shareBeyond_15 : decode cX6_shareBeyond 15 = .ok (.iload 7, 2) := by decide +kernel
theorem dX6_shareBeyond_17 : decode cX6_shareBeyond 17 = .ok (.invokevirtual 23, 3) := by decide +kernel
theorem dX6_shareBeyond_20 : decode cX6_shareBeyond 20 = .ok (.istore 8, 2) := by decide +kernel
theorem dX6_shareBeyond_22 : decode cX6_shareBeyond 22 = .ok (.iload 8, 2) := by decide +kernel
theorem dX6_shareBeyond_24 : decode cX6_shareBeyond 24 = .ok (.ifCond .le 28, 3) := by decide +kernel
theorem dX6_shareBeyond_27 : decode cX6_shareBeyond 27 = .ok (.aload_n 0, 1) := by decide +kernel
theorem dX6_shareBeyond_28 : decode cX6_shareBeyond 28 = .ok (.iload 7, 2) := by decide +kernel
theorem dX6_shareBeyond_30 : decode cX6_shareBeyond 30 = .ok (.invokevirtual 27, 3) := by decide +kernel
theorem dX6_shareBeyond_33 : decode cX6_shareBeyond 33 = .ok (.istore 9, 2) := by decide +kernel
theorem dX6_shareBeyond_35 : decode cX6_shareBeyond 35 = .ok (.lload_n 3, 1) := by decide +kernel
theorem dX6_shareBeyond_36 : decode cX6_shareBeyond 36 = .ok (.iload 9, 2) := by decide +kernel
theorem dX6_shareBeyond_38 : decode cX6_shareBeyond 38 = .ok (.iload 8, 2) := by decide +kernel
theorem dX6_shareBeyond_40 : decode cX6_shareBeyond 40 = .ok (.isub, 1) := by decide +kernel
theorem dX6_shareBeyond_41 : decode cX6_shareBeyond 41 = .ok (.i2l, 1) := by decide +kernel
theorem dX6_shareBeyond_42 : decode cX6_shareBeyond 42 = .ok (.lmul, 1) := by decide +kernel
theorem dX6_shareBeyond_43 : decode cX6_shareBeyond 43 = .ok (.lstore_n 3, 1) := by decide +kernel
theorem dX6_shareBeyond_44 : decode cX6_shareBeyond 44 = .ok (.lload 5, 2) := by decide +kernel
theorem dX6_shareBeyond_46 : decode cX6_shareBeyond 46 = .ok (.iload 9, 2) := by decide +kernel
theorem dX6_shareBeyond_48 : decode cX6_shareBeyond 48 = .ok (.i2l, 1) := by decide +kernel
theorem dX6_shareBeyond_49 : decode cX6_shareBeyond 49 = .ok (.lmul, 1) := by decide +kernel
theorem dX6_shareBeyond_50 : decode cX6_shareBeyond 50 = .ok (.lstore 5, 2) := by decide +kernel
theorem dX6_shareBeyond_52 : decode cX6_shareBeyond 52 = .ok (.iinc 7 1, 3) := by decide +kernel
theorem dX6_shareBeyond_55 : decode cX6_shareBeyond 55 = .ok (.goto (-47), 3) := by decide +kernel
theorem dX6_shareBeyond_58 : decode cX6_shareBeyond 58 = .ok (.aload_n 2, 1) := by decide +kernel
theorem dX6_shareBeyond_59 : decode cX6_shareBeyond 59 = .ok (.lload_n 3, 1) := by decide +kernel
theorem dX6_shareBeyond_60 : decode cX6_shareBeyond 60 = .ok (.lload 5, 2) := by decide +kernel
theorem dX6_shareBeyond_62 : decode cX6_shareBeyond 62 = .ok (.invokevirtual 30, 3) := by decide +kernel
theorem dX6_shareBeyond_65 : decode cX6_shareBeyond 65 = .ok (.return_, 1) := by decide +kernel
theorem dX6_countEnded_0 : decode cX6_countEnded 0 = .ok (.iconst 0, 1) := by decide +kernel
theorem dX6_countEnded_1 : decode cX6_countEnded 1 = .ok (.istore_n 2, 1) := by decide +kernel
theorem dX6_countEnded_2 : decode cX6_countEnded 2 = .ok (.iconst 0, 1) := by decide +kernel
theorem dX6_countEnded_3 : decode cX6_countEnded 3 = .ok (.istore_n 3, 1) := by decide +kernel
theorem dX6_countEnded_4 : decode cX6_countEnded 4 = .ok (.iload_n 3, 1) := by decide +kernel
theorem dX6_countEnded_5 : decode cX6_countEnded 5 = .ok (.aload_n 0, 1) := by decide +kernel
theorem dX6_countEnded_6 : decode cX6_countEnded 6 = .ok (.getfield 19, 3) := by decide +kernel
theorem dX6_countEnded_9 : decode cX6_countEnded 9 = .ok (.if_icmp .ge 31, 3) := by decide +kernel
theorem dX6_countEnded_12 : decode cX6_countEnded 12 = .ok (.aload_n 0, 1) := by decide +kernel
theorem dX6_countEnded_13 : decode cX6_countEnded 13 = .ok (.getfield 15, 3) := by decide +kernel
theorem dX6_countEnded_16 : decode cX6_countEnded 16 = .ok (.iload_n 3, 1) := by decide +kernel
theorem dX6_countEnded_17 : decode cX6_countEnded 17 = .ok (.baload, 1) := by decide +kernel
theorem dX6_countEnded_18 : decode cX6_countEnded 18 = .ok (.ifCond .eq 16, 3) := by decide +kernel
theorem dX6_countEnded_21 : decode cX6_countEnded 21 = .ok (.aload_n 0, 1) := by decide +kernel
theorem dX6_countEnded_22 : decode cX6_countEnded 22 = .ok (.getfield 9, 3) := by decide +kernel
theorem dX6_countEnded_25 : decode cX6_countEnded 25 = .ok (.iload_n 3, 1) := by decide +kernel
theorem dX6_countEnded_26 : decode cX6_countEnded 26 = .ok (.iaload, 1) := by decide +kernel
theorem dX6_countEnded_27 : decode cX6_countEnded 27 = .ok (.iload_n 1, 1) := by decide +kernel
theorem dX6_countEnded_28 : decode cX6_countEnded 28 = .ok (.if_icmp .ne 6, 3) := by decide +kernel
theorem dX6_countEnded_31 : decode cX6_countEnded 31 = .ok (.iinc 2 1, 3) := by decide +kernel
theorem dX6_countEnded_34 : decode cX6_countEnded 34 = .ok (.iinc 3 1, 3) := by decide +kernel
theorem dX6_countEnded_37 : decode cX6_countEnded 37 = .ok (.goto (-33), 3) := by decide +kernel
theorem dX6_countEnded_40 : decode cX6_countEnded 40 = .ok (.iload_n 2, 1) := by decide +kernel
theorem dX6_countEnded_41 : decode cX6_countEnded 41 = .ok (.ireturn, 1) := by decide +kernel
theorem dX6_countAtRisk_0 : decode cX6_countAtRisk 0 = .ok (.iconst 0, 1) := by decide +kernel
theorem dX6_countAtRisk_1 : decode cX6_countAtRisk 1 = .ok (.istore_n 2, 1) := by decide +kernel
theorem dX6_countAtRisk_2 : decode cX6_countAtRisk 2 = .ok (.iconst 0, 1) := by decide +kernel
theorem dX6_countAtRisk_3 : decode cX6_countAtRisk 3 = .ok (.istore_n 3, 1) := by decide +kernel
theorem dX6_countAtRisk_4 : decode cX6_countAtRisk 4 = .ok (.iload_n 3, 1) := by decide +kernel
theorem dX6_countAtRisk_5 : decode cX6_countAtRisk 5 = .ok (.aload_n 0, 1) := by decide +kernel
theorem dX6_countAtRisk_6 : decode cX6_countAtRisk 6 = .ok (.getfield 19, 3) := by decide +kernel
theorem dX6_countAtRisk_9 : decode cX6_countAtRisk 9 = .ok (.if_icmp .ge 22, 3) := by decide +kernel
theorem dX6_countAtRisk_12 : decode cX6_countAtRisk 12 = .ok (.aload_n 0, 1) := by decide +kernel
theorem dX6_countAtRisk_13 : decode cX6_countAtRisk 13 = .ok (.getfield 9, 3) := by decide +kernel
theorem dX6_countAtRisk_16 : decode cX6_countAtRisk 16 = .ok (.iload_n 3, 1) := by decide +kernel
theorem dX6_countAtRisk_17 : decode cX6_countAtRisk 17 = .ok (.iaload, 1) := by decide +kernel
theorem dX6_countAtRisk_18 : decode cX6_countAtRisk 18 = .ok (.iload_n 1, 1) := by decide +kernel
theorem dX6_countAtRisk_19 : decode cX6_countAtRisk 19 = .ok (.if_icmp .lt 6, 3) := by decide +kernel
theorem dX6_countAtRisk_22 : decode cX6_countAtRisk 22 = .ok (.iinc 2 1, 3) := by decide +kernel
theorem dX6_countAtRisk_25 : decode cX6_countAtRisk 25 = .ok (.iinc 3 1, 3) := by decide +kernel
theorem dX6_countAtRisk_28 : decode cX6_countAtRisk 28 = .ok (.goto (-24), 3) := by decide +kernel
theorem dX6_countAtRisk_31 : decode cX6_countAtRisk 31 = .ok (.iload_n 2, 1) := by decide +kernel
theorem dX6_countAtRisk_32 : decode cX6_countAtRisk 32 = .ok (.ireturn, 1) := by decide +kernel
theorem dX7_init_0 : decode cX7_init 0 = .ok (.aload_n 0, 1) := by decide +kernel
theorem dX7_init_1 : decode cX7_init 1 = .ok (.invokespecial 3, 3) := by decide +kernel
theorem dX7_init_4 : decode cX7_init 4 = .ok (.aload_n 0, 1) := by decide +kernel
theorem dX7_init_5 : decode cX7_init 5 = .ok (.bipush 40, 2) := by decide +kernel
theorem dX7_init_7 : decode cX7_init 7 = .ok (.newarray .long, 2) := by decide +kernel
theorem dX7_init_9 : decode cX7_init 9 = .ok (.putfield 9, 3) := by decide +kernel
theorem dX7_init_12 : decode cX7_init 12 = .ok (.aload_n 0, 1) := by decide +kernel
theorem dX7_init_13 : decode cX7_init 13 = .ok (.iconst 1, 1) := by decide +kernel
theorem dX7_init_14 : decode cX7_init 14 = .ok (.putfield 15, 3) := by decide +kernel
theorem dX7_init_17 : decode cX7_init 17 = .ok (.aload_n 0, 1) := by decide +kernel
theorem dX7_init_18 : decode cX7_init 18 = .ok (.iconst 0, 1) := by decide +kernel
theorem dX7_init_19 : decode cX7_init 19 = .ok (.putfield 19, 3) := by decide +kernel
theorem dX7_init_22 : decode cX7_init 22 = .ok (.aload_n 0, 1) := by decide +kernel
theorem dX7_init_23 : decode cX7_init 23 = .ok (.iconst 0, 1) := by decide +kernel
theorem dX7_init_24 : decode cX7_init 24 = .ok (.putfield 23, 3) := by decide +kernel
theorem dX7_init_27 : decode cX7_init 27 = .ok (.return_, 1) := by decide +kernel
theorem dX7_make_0 : decode cX7_make 0 = .ok (.aload_n 0, 1) := by decide +kernel
theorem dX7_make_1 : decode cX7_make 1 = .ok (.iconst 0, 1) := by decide +kernel
theorem dX7_make_2 : decode cX7_make 2 = .ok (.putfield 15, 3) := by decide +kernel
theorem dX7_make_5 : decode cX7_make 5 = .ok (.aload_n 0, 1) := by decide +kernel
theorem dX7_make_6 : decode cX7_make 6 = .ok (.iload_n 1, 1) := by decide +kernel
theorem dX7_make_7 : decode cX7_make 7 = .ok (.putfield 19, 3) := by decide +kernel
theorem dX7_make_10 : decode cX7_make 10 = .ok (.aload_n 0, 1) := by decide +kernel
theorem dX7_make_11 : decode cX7_make 11 = .ok (.iload_n 2, 1) := by decide +kernel
theorem dX7_make_12 : decode cX7_make 12 = .ok (.putfield 23, 3) := by decide +kernel
theorem dX7_make_15 : decode cX7_make 15 = .ok (.aload_n 0, 1) := by decide +kernel
theorem dX7_make_16 : decode cX7_make 16 = .ok (.getfield 9, 3) := by decide +kernel
theorem dX7_make_19 : decode cX7_make 19 = .ok (.lconst 0, 1) := by decide +kernel
theorem dX7_make_20 : decode cX7_make 20 = .ok (.invokestatic 26, 3) := by decide +kernel
theorem dX7_make_23 : decode cX7_make 23 = .ok (.return_, 1) := by decide +kernel
theorem dX7_hasPlaces_0 : decode cX7_hasPlaces 0 = .ok (.iload_n 1, 1) := by decide +kernel
theorem dX7_hasPlaces_1 : decode cX7_hasPlaces 1 = .ok (.ifCond .lt 25, 3) := by decide +kernel
theorem dX7_hasPlaces_4 : decode cX7_hasPlaces 4 = .ok (.iload_n 1, 1) := by decide +kernel
theorem dX7_hasPlaces_5 : decode cX7_hasPlaces 5 = .ok (.aload_n 0, 1) := by decide +kernel
theorem dX7_hasPlaces_6 : decode cX7_hasPlaces 6 = .ok (.getfield 23, 3) := by decide +kernel
theorem dX7_hasPlaces_9 : decode cX7_hasPlaces 9 = .ok (.if_icmp .gt 17, 3) := by decide +kernel
theorem dX7_hasPlaces_12 : decode cX7_hasPlaces 12 = .ok (.iload_n 2, 1) := by decide +kernel
theorem dX7_hasPlaces_13 : decode cX7_hasPlaces 13 = .ok (.aload_n 0, 1) := by decide +kernel
theorem dX7_hasPlaces_14 : decode cX7_hasPlaces 14 = .ok (.getfield 23, 3) := by decide +kernel
theorem dX7_hasPlaces_17 : decode cX7_hasPlaces 17 = .ok (.iload_n 1, 1) := by decide +kernel
theorem dX7_hasPlaces_18 : decode cX7_hasPlaces 18 = .ok (.isub, 1) := by decide +kernel
theorem dX7_hasPlaces_19 : decode cX7_hasPlaces 19 = .ok (.if_icmp .gt 7, 3) := by decide +kernel
theorem dX7_hasPlaces_22 : decode cX7_hasPlaces 22 = .ok (.iconst 1, 1) := by decide +kernel
theorem dX7_hasPlaces_23 : decode cX7_hasPlaces 23 = .ok (.goto 4, 3) := by decide +kernel
theorem dX7_hasPlaces_26 : decode cX7_hasPlaces 26 = .ok (.iconst 0, 1) := by decide +kernel
theorem dX7_hasPlaces_27 : decode cX7_hasPlaces 27 = .ok (.ireturn, 1) := by decide +kernel
theorem dX7_put_0 : decode cX7_put 0 = .ok (.aload_n 0, 1) := by decide +kernel
theorem dX7_put_1 : decode cX7_put 1 = .ok (.getfield 9, 3) := by decide +kernel
theorem dX7_put_4 : decode cX7_put 4 = .ok (.iload_n 1, 1) := by decide +kernel
theorem dX7_put_5 : decode cX7_put 5 = .ok (.aload_n 0, 1) := by decide +kernel
theorem dX7_put_6 : decode cX7_put 6 = .ok (.lload_n 2, 1) := by decide +kernel
theorem dX7_put_7 : decode cX7_put 7 = .ok (.invokevirtual 32, 3) := by decide +kernel
theorem dX7_put_10 : decode cX7_put 10 = .ok (.lastore, 1) := by decide +kernel
theorem dX7_put_11 : decode cX7_put 11 = .ok (.return_, 1) := by decide +kernel
theorem dX7_cut_0 : decode cX7_cut 0 = .ok (.aload_n 0, 1) := by decide +kernel
theorem dX7_cut_1 : decode cX7_cut 1 = .ok (.getfield 19, 3) := by decide +kernel
theorem dX7_cut_4 : decode cX7_cut 4 = .ok (.tableswitch 42 0 2 #[28, 33, 38], 28) := by decide +kernel
theorem dX7_cut_32 : decode cX7_cut 32 = .ok (.lload_n 1, 1) := by decide +kernel
theorem dX7_cut_33 : decode cX7_cut 33 = .ok (.l2i, 1) := by decide +kernel
theorem dX7_cut_34 : decode cX7_cut 34 = .ok (.i2b, 1) := by decide +kernel
theorem dX7_cut_35 : decode cX7_cut 35 = .ok (.i2l, 1) := by decide +kernel
theorem dX7_cut_36 : decode cX7_cut 36 = .ok (.lreturn, 1) := by decide +kernel
theorem dX7_cut_37 : decode cX7_cut 37 = .ok (.lload_n 1, 1) := by decide +kernel
theorem dX7_cut_38 : decode cX7_cut 38 = .ok (.l2i, 1) := by decide +kernel
theorem dX7_cut_39 : decode cX7_cut 39 = .ok (.i2s, 1) := by decide +kernel
theorem dX7_cut_40 : decode cX7_cut 40 = .ok (.i2l, 1) := by decide +kernel
theorem dX7_cut_41 : decode cX7_cut 41 = .ok (.lreturn, 1) := by decide +kernel
theorem dX7_cut_42 : decode cX7_cut 42 = .ok (.lload_n 1, 1) := by decide +kernel
theorem dX7_cut_43 : decode cX7_cut 43 = .ok (.l2i, 1) := by decide +kernel
theorem dX7_cut_44 : decode cX7_cut 44 = .ok (.i2l, 1) := by decide +kernel
theorem dX7_cut_45 : decode cX7_cut 45 = .ok (.lreturn, 1) := by decide +kernel
theorem dX7_cut_46 : decode cX7_cut 46 = .ok (.lload_n 1, 1) := by decide +kernel
theorem dX7_cut_47 : decode cX7_cut 47 = .ok (.lreturn, 1) := by decide +kernel
theorem dX7_hasOutcomes_0 : decode cX7_hasOutcomes 0 = .ok (.iconst 0, 1) := by decide +kernel
theorem dX7_hasOutcomes_1 : decode cX7_hasOutcomes 1 = .ok (.istore_n 2, 1) := by decide +kernel
theorem dX7_hasOutcomes_2 : decode cX7_hasOutcomes 2 = .ok (.iload_n 2, 1) := by decide +kernel
theorem dX7_hasOutcomes_3 : decode cX7_hasOutcomes 3 = .ok (.iload_n 1, 1) := by decide +kernel
theorem dX7_hasOutcomes_4 : decode cX7_hasOutcomes 4 = .ok (.if_icmp .ge 35, 3) := by decide +kernel
theorem dX7_hasOutcomes_7 : decode cX7_hasOutcomes 7 = .ok (.aload_n 0, 1) := by decide +kernel
theorem dX7_hasOutcomes_8 : decode cX7_hasOutcomes 8 = .ok (.getfield 9, 3) := by decide +kernel
theorem dX7_hasOutcomes_11 : decode cX7_hasOutcomes 11 = .ok (.iload_n 2, 1) := by decide +kernel
theorem dX7_hasOutcomes_12 : decode cX7_hasOutcomes 12 = .ok (.laload, 1) := by decide +kernel
theorem dX7_hasOutcomes_13 : decode cX7_hasOutcomes 13 = .ok (.lconst 0, 1) := by decide +kernel
theorem dX7_hasOutcomes_14 : decode cX7_hasOutcomes 14 = .ok (.lcmp, 1) := by decide +kernel
theorem dX7_hasOutcomes_15 : decode cX7_hasOutcomes 15 = .ok (.ifCond .lt 16, 3) := by decide +kernel
theorem dX7_hasOutcomes_18 : decode cX7_hasOutcomes 18 = .ok (.aload_n 0, 1) := by decide +kernel
theorem dX7_hasOutcomes_19 : decode cX7_hasOutcomes 19 = .ok (.getfield 9, 3) := by decide +kernel
theorem dX7_hasOutcomes_22 : decode cX7_hasOutcomes 22 = .ok (.iload_n 2, 1) := by decide +kernel
theorem dX7_hasOutcomes_23 : decode cX7_hasOutcomes 23 = .ok (.laload, 1) := by decide +kernel
theorem dX7_hasOutcomes_24 : decode cX7_hasOutcomes 24 = .ok (.ldc2_w 36, 3) := by decide +kernel
theorem dX7_hasOutcomes_27 : decode cX7_hasOutcomes 27 = .ok (.lcmp, 1) := by decide +kernel
theorem dX7_hasOutcomes_28 : decode cX7_hasOutcomes 28 = .ok (.ifCond .le 5, 3) := by decide +kernel
theorem dX7_hasOutcomes_31 : decode cX7_hasOutcomes 31 = .ok (.iconst 0, 1) := by decide +kernel
theorem dX7_hasOutcomes_32 : decode cX7_hasOutcomes 32 = .ok (.ireturn, 1) := by decide +kernel
theorem dX7_hasOutcomes_33 : decode cX7_hasOutcomes 33 = .ok (.iinc 2 1, 3) := by decide +kernel
theorem dX7_hasOutcomes_36 : decode cX7_hasOutcomes 36 = .ok (.goto (-34), 3) := by decide +kernel
theorem dX7_hasOutcomes_39 : decode cX7_hasOutcomes 39 = .ok (.iconst 1, 1) := by decide +kernel
theorem dX7_hasOutcomes_40 : decode cX7_hasOutcomes 40 = .ok (.ireturn, 1) := by decide +kernel
theorem dX8_init_0 : decode cX8_init 0 = .ok (.aload_n 0, 1) := by decide +kernel
theorem dX8_init_1 : decode cX8_init 1 = .ok (.invokespecial 1, 3) := by decide +kernel
theorem dX8_init_4 : decode cX8_init 4 = .ok (.aload_n 0, 1) := by decide +kernel
theorem dX8_init_5 : decode cX8_init 5 = .ok (.sipush 256, 3) := by decide +kernel
theorem dX8_init_8 : decode cX8_init 8 = .ok (.newarray .long, 2) := by decide +kernel
theorem dX8_init_10 : decode cX8_init 10 = .ok (.putfield 9, 3) := by decide +kernel
theorem dX8_init_13 : decode cX8_init 13 = .ok (.aload_n 0, 1) := by decide +kernel
theorem dX8_init_14 : decode cX8_init 14 = .ok (.sipush 256, 3) := by decide +kernel
theorem dX8_init_17 : decode cX8_init 17 = .ok (.newarray .long, 2) := by decide +kernel
theorem dX8_init_19 : decode cX8_init 19 = .ok (.putfield 13, 3) := by decide +kernel
theorem dX8_init_22 : decode cX8_init 22 = .ok (.aload_n 0, 1) := by decide +kernel
theorem dX8_init_23 : decode cX8_init 23 = .ok (.iconst 0, 1) := by decide +kernel
theorem dX8_init_24 : decode cX8_init 24 = .ok (.putfield 16, 3) := by decide +kernel
theorem dX8_init_27 : decode cX8_init 27 = .ok (.return_, 1) := by decide +kernel
theorem dX8_lay_0 : decode cX8_lay 0 = .ok (.aload_n 0, 1) := by decide +kernel
theorem dX8_lay_1 : decode cX8_lay 1 = .ok (.iload_n 2, 1) := by decide +kernel
theorem dX8_lay_2 : decode cX8_lay 2 = .ok (.putfield 16, 3) := by decide +kernel
theorem dX8_lay_5 : decode cX8_lay 5 = .ok (.aload_n 0, 1) := by decide +kernel
theorem dX8_lay_6 : decode cX8_lay 6 = .ok (.aload_n 1, 1) := by decide +kernel
theorem dX8_lay_7 : decode cX8_lay 7 = .ok (.iconst 0, 1) := by decide +kernel
theorem dX8_lay_8 : decode cX8_lay 8 = .ok (.aload_n 0, 1) := by decide +kernel
theorem dX8_lay_9 : decode cX8_lay 9 = .ok (.getfield 9, 3) := by decide +kernel
theorem dX8_lay_12 : decode cX8_lay 12 = .ok (.invokevirtual 20, 3) := by decide +kernel
theorem dX8_lay_15 : decode cX8_lay 15 = .ok (.aload_n 0, 1) := by decide +kernel
theorem dX8_lay_16 : decode cX8_lay 16 = .ok (.aload_n 1, 1) := by decide +kernel
theorem dX8_lay_17 : decode cX8_lay 17 = .ok (.bipush 8, 2) := by decide +kernel
theorem dX8_lay_19 : decode cX8_lay 19 = .ok (.aload_n 0, 1) := by decide +kernel
theorem dX8_lay_20 : decode cX8_lay 20 = .ok (.getfield 13, 3) := by decide +kernel
theorem dX8_lay_23 : decode cX8_lay 23 = .ok (.invokevirtual 20, 3) := by decide +kernel
theorem dX8_lay_26 : decode cX8_lay 26 = .ok (.return_, 1) := by decide +kernel
theorem dX8_laySums_0 : decode cX8_laySums 0 = .ok (.iconst 1, 1) := by decide +kernel
theorem dX8_laySums_1 : decode cX8_laySums 1 = .ok (.istore 4, 2) := by decide +kernel
theorem dX8_laySums_3 : decode cX8_laySums 3 = .ok (.iload 4, 2) := by decide +kernel
theorem dX8_laySums_5 : decode cX8_laySums 5 = .ok (.sipush 256, 3) := by decide +kernel
theorem dX8_laySums_8 : decode cX8_laySums 8 = .ok (.if_icmp .ge 56, 3) := by decide +kernel
theorem dX8_laySums_11 : decode cX8_laySums 11 = .ok (.iload_n 2, 1) := by decide +kernel
theorem dX8_laySums_12 : decode cX8_laySums 12 = .ok (.iload 4, 2) := by decide +kernel
theorem dX8_laySums_14 : decode cX8_laySums 14 = .ok (.invokestatic 24, 3) := by decide +kernel
theorem dX8_laySums_17 : decode cX8_laySums 17 = .ok (.iadd, 1) := by decide +kernel
theorem dX8_laySums_18 : decode cX8_laySums 18 = .ok (.istore 5, 2) := by decide +kernel
theorem dX8_laySums_20 : decode cX8_laySums 20 = .ok (.iload 5, 2) := by decide +kernel
theorem dX8_laySums_22 : decode cX8_laySums 22 = .ok (.aload_n 0, 1) := by decide +kernel
theorem dX8_laySums_23 : decode cX8_laySums 23 = .ok (.getfield 16, 3) := by decide +kernel
theorem dX8_laySums_26 : decode cX8_laySums 26 = .ok (.if_icmp .ge 13, 3) := by decide +kernel
theorem dX8_laySums_29 : decode cX8_laySums 29 = .ok (.aload_n 1, 1) := by decide +kernel
theorem dX8_laySums_30 : decode cX8_laySums 30 = .ok (.getfield 30, 3) := by decide +kernel
theorem dX8_laySums_33 : decode cX8_laySums 33 = .ok (.iload 5, 2) := by decide +kernel
theorem dX8_laySums_35 : decode cX8_laySums 35 = .ok (.laload, 1) := by decide +kernel
theorem dX8_laySums_36 : decode cX8_laySums 36 = .ok (.goto 4, 3) := by decide +kernel
theorem dX8_laySums_39 : decode cX8_laySums 39 = .ok (.lconst 0, 1) := by decide +kernel
theorem dX8_laySums_40 : decode cX8_laySums 40 = .ok (.lstore 6, 2) := by decide +kernel
theorem dX8_laySums_42 : decode cX8_laySums 42 = .ok (.aload_n 3, 1) := by decide +kernel
theorem dX8_laySums_43 : decode cX8_laySums 43 = .ok (.iload 4, 2) := by decide +kernel
theorem dX8_laySums_45 : decode cX8_laySums 45 = .ok (.aload_n 3, 1) := by decide +kernel
theorem dX8_laySums_46 : decode cX8_laySums 46 = .ok (.iload 4, 2) := by decide +kernel
theorem dX8_laySums_48 : decode cX8_laySums 48 = .ok (.iload 4, 2) := by decide +kernel
theorem dX8_laySums_50 : decode cX8_laySums 50 = .ok (.iconst 1, 1) := by decide +kernel
theorem dX8_laySums_51 : decode cX8_laySums 51 = .ok (.isub, 1) := by decide +kernel
theorem dX8_laySums_52 : decode cX8_laySums 52 = .ok (.iand, 1) := by decide +kernel
theorem dX8_laySums_53 : decode cX8_laySums 53 = .ok (.laload, 1) := by decide +kernel
theorem dX8_laySums_54 : decode cX8_laySums 54 = .ok (.lload 6, 2) := by decide +kernel
theorem dX8_laySums_56 : decode cX8_laySums 56 = .ok (.ladd, 1) := by decide +kernel
theorem dX8_laySums_57 : decode cX8_laySums 57 = .ok (.lastore, 1) := by decide +kernel
theorem dX8_laySums_58 : decode cX8_laySums 58 = .ok (.iinc 4 1, 3) := by decide +kernel
theorem dX8_laySums_61 : decode cX8_laySums 61 = .ok (.goto (-58), 3) := by decide +kernel
theorem dX8_laySums_64 : decode cX8_laySums 64 = .ok (.return_, 1) := by decide +kernel
theorem dX8_sumOf_0 : decode cX8_sumOf 0 = .ok (.aload_n 0, 1) := by decide +kernel
theorem dX8_sumOf_1 : decode cX8_sumOf 1 = .ok (.getfield 9, 3) := by decide +kernel
theorem dX8_sumOf_4 : decode cX8_sumOf 4 = .ok (.iload_n 1, 1) := by decide +kernel
theorem dX8_sumOf_5 : decode cX8_sumOf 5 = .ok (.sipush 255, 3) := by decide +kernel
theorem dX8_sumOf_8 : decode cX8_sumOf 8 = .ok (.iand, 1) := by decide +kernel
theorem dX8_sumOf_9 : decode cX8_sumOf 9 = .ok (.laload, 1) := by decide +kernel
theorem dX8_sumOf_10 : decode cX8_sumOf 10 = .ok (.aload_n 0, 1) := by decide +kernel
theorem dX8_sumOf_11 : decode cX8_sumOf 11 = .ok (.getfield 13, 3) := by decide +kernel
theorem dX8_sumOf_14 : decode cX8_sumOf 14 = .ok (.iload_n 1, 1) := by decide +kernel
theorem dX8_sumOf_15 : decode cX8_sumOf 15 = .ok (.bipush 8, 2) := by decide +kernel
theorem dX8_sumOf_17 : decode cX8_sumOf 17 = .ok (.ishr, 1) := by decide +kernel
theorem dX8_sumOf_18 : decode cX8_sumOf 18 = .ok (.sipush 255, 3) := by decide +kernel
theorem dX8_sumOf_21 : decode cX8_sumOf 21 = .ok (.iand, 1) := by decide +kernel
theorem dX8_sumOf_22 : decode cX8_sumOf 22 = .ok (.laload, 1) := by decide +kernel
theorem dX8_sumOf_23 : decode cX8_sumOf 23 = .ok (.ladd, 1) := by decide +kernel
theorem dX8_sumOf_24 : decode cX8_sumOf 24 = .ok (.lreturn, 1) := by decide +kernel
theorem dX8_gainOf_0 : decode cX8_gainOf 0 = .ok (.iload_n 1, 1) := by decide +kernel
theorem dX8_gainOf_1 : decode cX8_gainOf 1 = .ok (.invokestatic 35, 3) := by decide +kernel
theorem dX8_gainOf_4 : decode cX8_gainOf 4 = .ok (.i2l, 1) := by decide +kernel
theorem dX8_gainOf_5 : decode cX8_gainOf 5 = .ok (.lstore_n 3, 1) := by decide +kernel
theorem dX8_gainOf_6 : decode cX8_gainOf 6 = .ok (.aload_n 0, 1) := by decide +kernel
theorem dX8_gainOf_7 : decode cX8_gainOf 7 = .ok (.getfield 16, 3) := by decide +kernel
theorem dX8_gainOf_10 : decode cX8_gainOf 10 = .ok (.i2l, 1) := by decide +kernel
theorem dX8_gainOf_11 : decode cX8_gainOf 11 = .ok (.lload_n 3, 1) := by decide +kernel
theorem dX8_gainOf_12 : decode cX8_gainOf 12 = .ok (.lsub, 1) := by decide +kernel
theorem dX8_gainOf_13 : decode cX8_gainOf 13 = .ok (.lstore 5, 2) := by decide +kernel
theorem dX8_gainOf_15 : decode cX8_gainOf 15 = .ok (.aload_n 0, 1) := by decide +kernel
theorem dX8_gainOf_16 : decode cX8_gainOf 16 = .ok (.iload_n 1, 1) := by decide +kernel
theorem dX8_gainOf_17 : decode cX8_gainOf 17 = .ok (.invokevirtual 38, 3) := by decide +kernel
theorem dX8_gainOf_20 : decode cX8_gainOf 20 = .ok (.lstore 7, 2) := by decide +kernel
theorem dX8_gainOf_22 : decode cX8_gainOf 22 = .ok (.aload_n 0, 1) := by decide +kernel
theorem dX8_gainOf_23 : decode cX8_gainOf 23 = .ok (.iconst 1, 1) := by decide +kernel
theorem dX8_gainOf_24 : decode cX8_gainOf 24 = .ok (.aload_n 0, 1) := by decide +kernel
theorem dX8_gainOf_25 : decode cX8_gainOf 25 = .ok (.getfield 16, 3) := by decide +kernel
theorem dX8_gainOf_28 : decode cX8_gainOf 28 = .ok (.ishl, 1) := by decide +kernel
theorem dX8_gainOf_29 : decode cX8_gainOf 29 = .ok (.iconst 1, 1) := by decide +kernel
theorem dX8_gainOf_30 : decode cX8_gainOf 30 = .ok (.isub, 1) := by decide +kernel
theorem dX8_gainOf_31 : decode cX8_gainOf 31 = .ok (.invokevirtual 38, 3) := by decide +kernel
theorem dX8_gainOf_34 : decode cX8_gainOf 34 = .ok (.lload 7, 2) := by decide +kernel
theorem dX8_gainOf_36 : decode cX8_gainOf 36 = .ok (.lsub, 1) := by decide +kernel
theorem dX8_gainOf_37 : decode cX8_gainOf 37 = .ok (.lstore 9, 2) := by decide +kernel
theorem dX8_gainOf_39 : decode cX8_gainOf 39 = .ok (.aload_n 2, 1) := by decide +kernel
theorem dX8_gainOf_40 : decode cX8_gainOf 40 = .ok (.lload 7, 2) := by decide +kernel
theorem dX8_gainOf_42 : decode cX8_gainOf 42 = .ok (.lload 5, 2) := by decide +kernel
theorem dX8_gainOf_44 : decode cX8_gainOf 44 = .ok (.lmul, 1) := by decide +kernel
theorem dX8_gainOf_45 : decode cX8_gainOf 45 = .ok (.lload 9, 2) := by decide +kernel
theorem dX8_gainOf_47 : decode cX8_gainOf 47 = .ok (.lload_n 3, 1) := by decide +kernel
theorem dX8_gainOf_48 : decode cX8_gainOf 48 = .ok (.lmul, 1) := by decide +kernel
theorem dX8_gainOf_49 : decode cX8_gainOf 49 = .ok (.lsub, 1) := by decide +kernel
theorem dX8_gainOf_50 : decode cX8_gainOf 50 = .ok (.lload_n 3, 1) := by decide +kernel
theorem dX8_gainOf_51 : decode cX8_gainOf 51 = .ok (.lload 5, 2) := by decide +kernel
theorem dX8_gainOf_53 : decode cX8_gainOf 53 = .ok (.lmul, 1) := by decide +kernel
theorem dX8_gainOf_54 : decode cX8_gainOf 54 = .ok (.invokevirtual 42, 3) := by decide +kernel
theorem dX8_gainOf_57 : decode cX8_gainOf 57 = .ok (.return_, 1) := by decide +kernel
theorem dX8_chanceOf_0 : decode cX8_chanceOf 0 = .ok (.iload_n 1, 1) := by decide +kernel
theorem dX8_chanceOf_1 : decode cX8_chanceOf 1 = .ok (.invokestatic 35, 3) := by decide +kernel
theorem dX8_chanceOf_4 : decode cX8_chanceOf 4 = .ok (.istore_n 3, 1) := by decide +kernel
theorem dX8_chanceOf_5 : decode cX8_chanceOf 5 = .ok (.aload_n 0, 1) := by decide +kernel
theorem dX8_chanceOf_6 : decode cX8_chanceOf 6 = .ok (.getfield 16, 3) := by decide +kernel
theorem dX8_chanceOf_9 : decode cX8_chanceOf 9 = .ok (.iload_n 3, 1) := by decide +kernel
theorem dX8_chanceOf_10 : decode cX8_chanceOf 10 = .ok (.invokestatic 48, 3) := by decide +kernel
theorem dX8_chanceOf_13 : decode cX8_chanceOf 13 = .ok (.istore 4, 2) := by decide +kernel
theorem dX8_chanceOf_15 : decode cX8_chanceOf 15 = .ok (.aload_n 0, 1) := by decide +kernel
theorem dX8_chanceOf_16 : decode cX8_chanceOf 16 = .ok (.iload_n 1, 1) := by decide +kernel
theorem dX8_chanceOf_17 : decode cX8_chanceOf 17 = .ok (.invokevirtual 38, 3) := by decide +kernel
theorem dX8_chanceOf_20 : decode cX8_chanceOf 20 = .ok (.lstore 5, 2) := by decide +kernel
theorem dX8_chanceOf_22 : decode cX8_chanceOf 22 = .ok (.iconst 0, 1) := by decide +kernel
theorem dX8_chanceOf_23 : decode cX8_chanceOf 23 = .ok (.istore 7, 2) := by decide +kernel
theorem dX8_chanceOf_25 : decode cX8_chanceOf 25 = .ok (.iconst 1, 1) := by decide +kernel
theorem dX8_chanceOf_26 : decode cX8_chanceOf 26 = .ok (.iload_n 3, 1) := by decide +kernel
theorem dX8_chanceOf_27 : decode cX8_chanceOf 27 = .ok (.ishl, 1) := by decide +kernel
theorem dX8_chanceOf_28 : decode cX8_chanceOf 28 = .ok (.iconst 1, 1) := by decide +kernel
theorem dX8_chanceOf_29 : decode cX8_chanceOf 29 = .ok (.isub, 1) := by decide +kernel
theorem dX8_chanceOf_30 : decode cX8_chanceOf 30 = .ok (.istore 8, 2) := by decide +kernel
theorem dX8_chanceOf_32 : decode cX8_chanceOf 32 = .ok (.iconst 0, 1) := by decide +kernel
theorem dX8_chanceOf_33 : decode cX8_chanceOf 33 = .ok (.istore 9, 2) := by decide +kernel
theorem dX8_chanceOf_35 : decode cX8_chanceOf 35 = .ok (.iload 9, 2) := by decide +kernel
theorem dX8_chanceOf_37 : decode cX8_chanceOf 37 = .ok (.iload 4, 2) := by decide +kernel
theorem dX8_chanceOf_39 : decode cX8_chanceOf 39 = .ok (.if_icmp .ge 31, 3) := by decide +kernel
theorem dX8_chanceOf_42 : decode cX8_chanceOf 42 = .ok (.aload_n 0, 1) := by decide +kernel
theorem dX8_chanceOf_43 : decode cX8_chanceOf 43 = .ok (.iload 8, 2) := by decide +kernel
theorem dX8_chanceOf_45 : decode cX8_chanceOf 45 = .ok (.invokevirtual 38, 3) := by decide +kernel
theorem dX8_chanceOf_48 : decode cX8_chanceOf 48 = .ok (.lload 5, 2) := by decide +kernel
theorem dX8_chanceOf_50 : decode cX8_chanceOf 50 = .ok (.lcmp, 1) := by decide +kernel
theorem dX8_chanceOf_51 : decode cX8_chanceOf 51 = .ok (.ifCond .lt 6, 3) := by decide +kernel
theorem dX8_chanceOf_54 : decode cX8_chanceOf 54 = .ok (.iinc 7 1, 3) := by decide +kernel
theorem dX8_chanceOf_57 : decode cX8_chanceOf 57 = .ok (.iload 8, 2) := by decide +kernel
theorem dX8_chanceOf_59 : decode cX8_chanceOf 59 = .ok (.invokestatic 52, 3) := by decide +kernel
theorem dX8_chanceOf_62 : decode cX8_chanceOf 62 = .ok (.istore 8, 2) := by decide +kernel
theorem dX8_chanceOf_64 : decode cX8_chanceOf 64 = .ok (.iinc 9 1, 3) := by decide +kernel
theorem dX8_chanceOf_67 : decode cX8_chanceOf 67 = .ok (.goto (-32), 3) := by decide +kernel
theorem dX8_chanceOf_70 : decode cX8_chanceOf 70 = .ok (.aload_n 2, 1) := by decide +kernel
theorem dX8_chanceOf_71 : decode cX8_chanceOf 71 = .ok (.iload 7, 2) := by decide +kernel
theorem dX8_chanceOf_73 : decode cX8_chanceOf 73 = .ok (.i2l, 1) := by decide +kernel
theorem dX8_chanceOf_74 : decode cX8_chanceOf 74 = .ok (.iload 4, 2) := by decide +kernel
theorem dX8_chanceOf_76 : decode cX8_chanceOf 76 = .ok (.i2l, 1) := by decide +kernel
theorem dX8_chanceOf_77 : decode cX8_chanceOf 77 = .ok (.invokevirtual 42, 3) := by decide +kernel
theorem dX8_chanceOf_80 : decode cX8_chanceOf 80 = .ok (.return_, 1) := by decide +kernel
theorem dX8_countSets_0 : decode cX8_countSets 0 = .ok (.iconst 1, 1) := by decide +kernel
theorem dX8_countSets_1 : decode cX8_countSets 1 = .ok (.istore_n 2, 1) := by decide +kernel
theorem dX8_countSets_2 : decode cX8_countSets 2 = .ok (.iconst 1, 1) := by decide +kernel
theorem dX8_countSets_3 : decode cX8_countSets 3 = .ok (.istore_n 3, 1) := by decide +kernel
theorem dX8_countSets_4 : decode cX8_countSets 4 = .ok (.iload_n 3, 1) := by decide +kernel
theorem dX8_countSets_5 : decode cX8_countSets 5 = .ok (.iload_n 1, 1) := by decide +kernel
theorem dX8_countSets_6 : decode cX8_countSets 6 = .ok (.if_icmp .gt 19, 3) := by decide +kernel
theorem dX8_countSets_9 : decode cX8_countSets 9 = .ok (.iload_n 2, 1) := by decide +kernel
theorem dX8_countSets_10 : decode cX8_countSets 10 = .ok (.iload_n 0, 1) := by decide +kernel
theorem dX8_countSets_11 : decode cX8_countSets 11 = .ok (.iload_n 1, 1) := by decide +kernel
theorem dX8_countSets_12 : decode cX8_countSets 12 = .ok (.isub, 1) := by decide +kernel
theorem dX8_countSets_13 : decode cX8_countSets 13 = .ok (.iload_n 3, 1) := by decide +kernel
theorem dX8_countSets_14 : decode cX8_countSets 14 = .ok (.iadd, 1) := by decide +kernel
theorem dX8_countSets_15 : decode cX8_countSets 15 = .ok (.imul, 1) := by decide +kernel
theorem dX8_countSets_16 : decode cX8_countSets 16 = .ok (.iload_n 3, 1) := by decide +kernel
theorem dX8_countSets_17 : decode cX8_countSets 17 = .ok (.idiv, 1) := by decide +kernel
theorem dX8_countSets_18 : decode cX8_countSets 18 = .ok (.istore_n 2, 1) := by decide +kernel
theorem dX8_countSets_19 : decode cX8_countSets 19 = .ok (.iinc 3 1, 3) := by decide +kernel
theorem dX8_countSets_22 : decode cX8_countSets 22 = .ok (.goto (-18), 3) := by decide +kernel
theorem dX8_countSets_25 : decode cX8_countSets 25 = .ok (.iload_n 2, 1) := by decide +kernel
theorem dX8_countSets_26 : decode cX8_countSets 26 = .ok (.ireturn, 1) := by decide +kernel
theorem dX8_nextOfSameSize_0 : decode cX8_nextOfSameSize 0 = .ok (.iload_n 0, 1) := by decide +kernel
theorem dX8_nextOfSameSize_1 : decode cX8_nextOfSameSize 1 = .ok (.iload_n 0, 1) := by decide +kernel
theorem dX8_nextOfSameSize_2 : decode cX8_nextOfSameSize 2 = .ok (.ineg, 1) := by decide +kernel
theorem dX8_nextOfSameSize_3 : decode cX8_nextOfSameSize 3 = .ok (.iand, 1) := by decide +kernel
theorem dX8_nextOfSameSize_4 : decode cX8_nextOfSameSize 4 = .ok (.istore_n 1, 1) := by decide +kernel
theorem dX8_nextOfSameSize_5 : decode cX8_nextOfSameSize 5 = .ok (.iload_n 0, 1) := by decide +kernel
theorem dX8_nextOfSameSize_6 : decode cX8_nextOfSameSize 6 = .ok (.iload_n 1, 1) := by decide +kernel
theorem dX8_nextOfSameSize_7 : decode cX8_nextOfSameSize 7 = .ok (.iadd, 1) := by decide +kernel
theorem dX8_nextOfSameSize_8 : decode cX8_nextOfSameSize 8 = .ok (.istore_n 2, 1) := by decide +kernel
theorem dX8_nextOfSameSize_9 : decode cX8_nextOfSameSize 9 = .ok (.iload_n 0, 1) := by decide +kernel
theorem dX8_nextOfSameSize_10 : decode cX8_nextOfSameSize 10 = .ok (.iload_n 2, 1) := by decide +kernel
theorem dX8_nextOfSameSize_11 : decode cX8_nextOfSameSize 11 = .ok (.ixor, 1) := by decide +kernel
theorem dX8_nextOfSameSize_12 : decode cX8_nextOfSameSize 12 = .ok (.iconst 2, 1) := by decide +kernel
theorem dX8_nextOfSameSize_13 : decode cX8_nextOfSameSize 13 = .ok (.iushr, 1) := by decide +kernel
theorem dX8_nextOfSameSize_14 : decode cX8_nextOfSameSize 14 = .ok (.istore_n 3, 1) := by decide +kernel
theorem dX8_nextOfSameSize_15 : decode cX8_nextOfSameSize 15 = .ok (.iload_n 2, 1) := by decide +kernel
theorem dX8_nextOfSameSize_16 : decode cX8_nextOfSameSize 16 = .ok (.iload_n 3, 1) := by decide +kernel
theorem dX8_nextOfSameSize_17 : decode cX8_nextOfSameSize 17 = .ok (.iload_n 1, 1) := by decide +kernel
theorem dX8_nextOfSameSize_18 : decode cX8_nextOfSameSize 18 = .ok (.invokestatic 24, 3) := by decide +kernel
theorem dX8_nextOfSameSize_21 : decode cX8_nextOfSameSize 21 = .ok (.iushr, 1) := by decide +kernel
theorem dX8_nextOfSameSize_22 : decode cX8_nextOfSameSize 22 = .ok (.ior, 1) := by decide +kernel
theorem dX8_nextOfSameSize_23 : decode cX8_nextOfSameSize 23 = .ok (.ireturn, 1) := by decide +kernel
theorem dX8_drawnSet_0 : decode cX8_drawnSet 0 = .ok (.iload_n 2, 1) := by decide +kernel
theorem dX8_drawnSet_1 : decode cX8_drawnSet 1 = .ok (.i2l, 1) := by decide +kernel
theorem dX8_drawnSet_2 : decode cX8_drawnSet 2 = .ok (.lstore_n 3, 1) := by decide +kernel
theorem dX8_drawnSet_3 : decode cX8_drawnSet 3 = .ok (.iload_n 1, 1) := by decide +kernel
theorem dX8_drawnSet_4 : decode cX8_drawnSet 4 = .ok (.istore 5, 2) := by decide +kernel
theorem dX8_drawnSet_6 : decode cX8_drawnSet 6 = .ok (.iconst 0, 1) := by decide +kernel
theorem dX8_drawnSet_7 : decode cX8_drawnSet 7 = .ok (.istore 6, 2) := by decide +kernel
theorem dX8_drawnSet_9 : decode cX8_drawnSet 9 = .ok (.iconst 0, 1) := by decide +kernel
theorem dX8_drawnSet_10 : decode cX8_drawnSet 10 = .ok (.istore 7, 2) := by decide +kernel
theorem dX8_drawnSet_12 : decode cX8_drawnSet 12 = .ok (.iload 7, 2) := by decide +kernel
theorem dX8_drawnSet_14 : decode cX8_drawnSet 14 = .ok (.iload_n 0, 1) := by decide +kernel
theorem dX8_drawnSet_15 : decode cX8_drawnSet 15 = .ok (.if_icmp .ge 52, 3) := by decide +kernel
theorem dX8_drawnSet_18 : decode cX8_drawnSet 18 = .ok (.ldc2_w 55, 3) := by decide +kernel
theorem dX8_drawnSet_21 : decode cX8_drawnSet 21 = .ok (.lload_n 3, 1) := by decide +kernel
theorem dX8_drawnSet_22 : decode cX8_drawnSet 22 = .ok (.lmul, 1) := by decide +kernel
theorem dX8_drawnSet_23 : decode cX8_drawnSet 23 = .ok (.ldc2_w 57, 3) := by decide +kernel
theorem dX8_drawnSet_26 : decode cX8_drawnSet 26 = .ok (.ladd, 1) := by decide +kernel
theorem dX8_drawnSet_27 : decode cX8_drawnSet 27 = .ok (.ldc2_w 59, 3) := by decide +kernel
theorem dX8_drawnSet_30 : decode cX8_drawnSet 30 = .ok (.land, 1) := by decide +kernel
theorem dX8_drawnSet_31 : decode cX8_drawnSet 31 = .ok (.lstore_n 3, 1) := by decide +kernel
theorem dX8_drawnSet_32 : decode cX8_drawnSet 32 = .ok (.lload_n 3, 1) := by decide +kernel
theorem dX8_drawnSet_33 : decode cX8_drawnSet 33 = .ok (.bipush 16, 2) := by decide +kernel
theorem dX8_drawnSet_35 : decode cX8_drawnSet 35 = .ok (.lshr, 1) := by decide +kernel
theorem dX8_drawnSet_36 : decode cX8_drawnSet 36 = .ok (.iload_n 0, 1) := by decide +kernel
theorem dX8_drawnSet_37 : decode cX8_drawnSet 37 = .ok (.iload 7, 2) := by decide +kernel
theorem dX8_drawnSet_39 : decode cX8_drawnSet 39 = .ok (.isub, 1) := by decide +kernel
theorem dX8_drawnSet_40 : decode cX8_drawnSet 40 = .ok (.i2l, 1) := by decide +kernel
theorem dX8_drawnSet_41 : decode cX8_drawnSet 41 = .ok (.lrem, 1) := by decide +kernel
theorem dX8_drawnSet_42 : decode cX8_drawnSet 42 = .ok (.iload 5, 2) := by decide +kernel
theorem dX8_drawnSet_44 : decode cX8_drawnSet 44 = .ok (.i2l, 1) := by decide +kernel
theorem dX8_drawnSet_45 : decode cX8_drawnSet 45 = .ok (.lcmp, 1) := by decide +kernel
theorem dX8_drawnSet_46 : decode cX8_drawnSet 46 = .ok (.ifCond .ge 15, 3) := by decide +kernel
theorem dX8_drawnSet_49 : decode cX8_drawnSet 49 = .ok (.iload 6, 2) := by decide +kernel
theorem dX8_drawnSet_51 : decode cX8_drawnSet 51 = .ok (.iconst 1, 1) := by decide +kernel
theorem dX8_drawnSet_52 : decode cX8_drawnSet 52 = .ok (.iload 7, 2) := by decide +kernel
theorem dX8_drawnSet_54 : decode cX8_drawnSet 54 = .ok (.ishl, 1) := by decide +kernel
theorem dX8_drawnSet_55 : decode cX8_drawnSet 55 = .ok (.ior, 1) := by decide +kernel
theorem dX8_drawnSet_56 : decode cX8_drawnSet 56 = .ok (.istore 6, 2) := by decide +kernel
theorem dX8_drawnSet_58 : decode cX8_drawnSet 58 = .ok (.iinc 5 (-1), 3) := by decide +kernel
theorem dX8_drawnSet_61 : decode cX8_drawnSet 61 = .ok (.iinc 7 1, 3) := by decide +kernel
theorem dX8_drawnSet_64 : decode cX8_drawnSet 64 = .ok (.goto (-52), 3) := by decide +kernel
theorem dX8_drawnSet_67 : decode cX8_drawnSet 67 = .ok (.iload 6, 2) := by decide +kernel
theorem dX8_drawnSet_69 : decode cX8_drawnSet 69 = .ok (.ireturn, 1) := by decide +kernel
theorem dJ6_numberOfTrailingZeros_0f7a4_0 : decode cJ6_numberOfTrailingZeros_0f7a4 0 = .ok (.iload_n 0, 1) := by decide +kernel
theorem dJ6_numberOfTrailingZeros_0f7a4_1 : decode cJ6_numberOfTrailingZeros_0f7a4 1 = .ok (.iconst (-1), 1) := by decide +kernel
theorem dJ6_numberOfTrailingZeros_0f7a4_2 : decode cJ6_numberOfTrailingZeros_0f7a4 2 = .ok (.ixor, 1) := by decide +kernel
theorem dJ6_numberOfTrailingZeros_0f7a4_3 : decode cJ6_numberOfTrailingZeros_0f7a4 3 = .ok (.iload_n 0, 1) := by decide +kernel
theorem dJ6_numberOfTrailingZeros_0f7a4_4 : decode cJ6_numberOfTrailingZeros_0f7a4 4 = .ok (.iconst 1, 1) := by decide +kernel
theorem dJ6_numberOfTrailingZeros_0f7a4_5 : decode cJ6_numberOfTrailingZeros_0f7a4 5 = .ok (.isub, 1) := by decide +kernel
theorem dJ6_numberOfTrailingZeros_0f7a4_6 : decode cJ6_numberOfTrailingZeros_0f7a4 6 = .ok (.iand, 1) := by decide +kernel
theorem dJ6_numberOfTrailingZeros_0f7a4_7 : decode cJ6_numberOfTrailingZeros_0f7a4 7 = .ok (.istore_n 0, 1) := by decide +kernel
theorem dJ6_numberOfTrailingZeros_0f7a4_8 : decode cJ6_numberOfTrailingZeros_0f7a4 8 = .ok (.iload_n 0, 1) := by decide +kernel
theorem dJ6_numberOfTrailingZeros_0f7a4_9 : decode cJ6_numberOfTrailingZeros_0f7a4 9 = .ok (.ifCond .gt 8, 3) := by decide +kernel
theorem dJ6_numberOfTrailingZeros_0f7a4_12 : decode cJ6_numberOfTrailingZeros_0f7a4 12 = .ok (.iload_n 0, 1) := by decide +kernel
theorem dJ6_numberOfTrailingZeros_0f7a4_13 : decode cJ6_numberOfTrailingZeros_0f7a4 13 = .ok (.bipush 32, 2) := by decide +kernel
theorem dJ6_numberOfTrailingZeros_0f7a4_15 : decode cJ6_numberOfTrailingZeros_0f7a4 15 = .ok (.iand, 1) := by decide +kernel
theorem dJ6_numberOfTrailingZeros_0f7a4_16 : decode cJ6_numberOfTrailingZeros_0f7a4 16 = .ok (.ireturn, 1) := by decide +kernel
theorem dJ6_numberOfTrailingZeros_0f7a4_17 : decode cJ6_numberOfTrailingZeros_0f7a4 17 = .ok (.iconst 1, 1) := by decide +kernel
theorem dJ6_numberOfTrailingZeros_0f7a4_18 : decode cJ6_numberOfTrailingZeros_0f7a4 18 = .ok (.istore_n 1, 1) := by decide +kernel
theorem dJ6_numberOfTrailingZeros_0f7a4_19 : decode cJ6_numberOfTrailingZeros_0f7a4 19 = .ok (.iload_n 0, 1) := by decide +kernel
theorem dJ6_numberOfTrailingZeros_0f7a4_20 : decode cJ6_numberOfTrailingZeros_0f7a4 20 = .ok (.ldc_w 264, 3) := by decide +kernel
theorem dJ6_numberOfTrailingZeros_0f7a4_23 : decode cJ6_numberOfTrailingZeros_0f7a4 23 = .ok (.if_icmp .le 11, 3) := by decide +kernel
theorem dJ6_numberOfTrailingZeros_0f7a4_26 : decode cJ6_numberOfTrailingZeros_0f7a4 26 = .ok (.iinc 1 16, 3) := by decide +kernel
theorem dJ6_numberOfTrailingZeros_0f7a4_29 : decode cJ6_numberOfTrailingZeros_0f7a4 29 = .ok (.iload_n 0, 1) := by decide +kernel
theorem dJ6_numberOfTrailingZeros_0f7a4_30 : decode cJ6_numberOfTrailingZeros_0f7a4 30 = .ok (.bipush 16, 2) := by decide +kernel
theorem dJ6_numberOfTrailingZeros_0f7a4_32 : decode cJ6_numberOfTrailingZeros_0f7a4 32 = .ok (.iushr, 1) := by decide +kernel
theorem dJ6_numberOfTrailingZeros_0f7a4_33 : decode cJ6_numberOfTrailingZeros_0f7a4 33 = .ok (.istore_n 0, 1) := by decide +kernel
theorem dJ6_numberOfTrailingZeros_0f7a4_34 : decode cJ6_numberOfTrailingZeros_0f7a4 34 = .ok (.iload_n 0, 1) := by decide +kernel
theorem dJ6_numberOfTrailingZeros_0f7a4_35 : decode cJ6_numberOfTrailingZeros_0f7a4 35 = .ok (.sipush 256, 3) := by decide +kernel
theorem dJ6_numberOfTrailingZeros_0f7a4_38 : decode cJ6_numberOfTrailingZeros_0f7a4 38 = .ok (.if_icmp .le 11, 3) := by decide +kernel
theorem dJ6_numberOfTrailingZeros_0f7a4_41 : decode cJ6_numberOfTrailingZeros_0f7a4 41 = .ok (.iinc 1 8, 3) := by decide +kernel
theorem dJ6_numberOfTrailingZeros_0f7a4_44 : decode cJ6_numberOfTrailingZeros_0f7a4 44 = .ok (.iload_n 0, 1) := by decide +kernel
theorem dJ6_numberOfTrailingZeros_0f7a4_45 : decode cJ6_numberOfTrailingZeros_0f7a4 45 = .ok (.bipush 8, 2) := by decide +kernel
theorem dJ6_numberOfTrailingZeros_0f7a4_47 : decode cJ6_numberOfTrailingZeros_0f7a4 47 = .ok (.iushr, 1) := by decide +kernel
theorem dJ6_numberOfTrailingZeros_0f7a4_48 : decode cJ6_numberOfTrailingZeros_0f7a4 48 = .ok (.istore_n 0, 1) := by decide +kernel
theorem dJ6_numberOfTrailingZeros_0f7a4_49 : decode cJ6_numberOfTrailingZeros_0f7a4 49 = .ok (.iload_n 0, 1) := by decide +kernel
theorem dJ6_numberOfTrailingZeros_0f7a4_50 : decode cJ6_numberOfTrailingZeros_0f7a4 50 = .ok (.bipush 16, 2) := by decide +kernel
theorem dJ6_numberOfTrailingZeros_0f7a4_52 : decode cJ6_numberOfTrailingZeros_0f7a4 52 = .ok (.if_icmp .le 10, 3) := by decide +kernel
theorem dJ6_numberOfTrailingZeros_0f7a4_55 : decode cJ6_numberOfTrailingZeros_0f7a4 55 = .ok (.iinc 1 4, 3) := by decide +kernel
theorem dJ6_numberOfTrailingZeros_0f7a4_58 : decode cJ6_numberOfTrailingZeros_0f7a4 58 = .ok (.iload_n 0, 1) := by decide +kernel
theorem dJ6_numberOfTrailingZeros_0f7a4_59 : decode cJ6_numberOfTrailingZeros_0f7a4 59 = .ok (.iconst 4, 1) := by decide +kernel
theorem dJ6_numberOfTrailingZeros_0f7a4_60 : decode cJ6_numberOfTrailingZeros_0f7a4 60 = .ok (.iushr, 1) := by decide +kernel
theorem dJ6_numberOfTrailingZeros_0f7a4_61 : decode cJ6_numberOfTrailingZeros_0f7a4 61 = .ok (.istore_n 0, 1) := by decide +kernel
theorem dJ6_numberOfTrailingZeros_0f7a4_62 : decode cJ6_numberOfTrailingZeros_0f7a4 62 = .ok (.iload_n 0, 1) := by decide +kernel
theorem dJ6_numberOfTrailingZeros_0f7a4_63 : decode cJ6_numberOfTrailingZeros_0f7a4 63 = .ok (.iconst 4, 1) := by decide +kernel
theorem dJ6_numberOfTrailingZeros_0f7a4_64 : decode cJ6_numberOfTrailingZeros_0f7a4 64 = .ok (.if_icmp .le 10, 3) := by decide +kernel
theorem dJ6_numberOfTrailingZeros_0f7a4_67 : decode cJ6_numberOfTrailingZeros_0f7a4 67 = .ok (.iinc 1 2, 3) := by decide +kernel
theorem dJ6_numberOfTrailingZeros_0f7a4_70 : decode cJ6_numberOfTrailingZeros_0f7a4 70 = .ok (.iload_n 0, 1) := by decide +kernel
theorem dJ6_numberOfTrailingZeros_0f7a4_71 : decode cJ6_numberOfTrailingZeros_0f7a4 71 = .ok (.iconst 2, 1) := by decide +kernel
theorem dJ6_numberOfTrailingZeros_0f7a4_72 : decode cJ6_numberOfTrailingZeros_0f7a4 72 = .ok (.iushr, 1) := by decide +kernel
theorem dJ6_numberOfTrailingZeros_0f7a4_73 : decode cJ6_numberOfTrailingZeros_0f7a4 73 = .ok (.istore_n 0, 1) := by decide +kernel
theorem dJ6_numberOfTrailingZeros_0f7a4_74 : decode cJ6_numberOfTrailingZeros_0f7a4 74 = .ok (.iload_n 1, 1) := by decide +kernel
theorem dJ6_numberOfTrailingZeros_0f7a4_75 : decode cJ6_numberOfTrailingZeros_0f7a4 75 = .ok (.iload_n 0, 1) := by decide +kernel
theorem dJ6_numberOfTrailingZeros_0f7a4_76 : decode cJ6_numberOfTrailingZeros_0f7a4 76 = .ok (.iconst 1, 1) := by decide +kernel
theorem dJ6_numberOfTrailingZeros_0f7a4_77 : decode cJ6_numberOfTrailingZeros_0f7a4 77 = .ok (.iushr, 1) := by decide +kernel
theorem dJ6_numberOfTrailingZeros_0f7a4_78 : decode cJ6_numberOfTrailingZeros_0f7a4 78 = .ok (.iadd, 1) := by decide +kernel
theorem dJ6_numberOfTrailingZeros_0f7a4_79 : decode cJ6_numberOfTrailingZeros_0f7a4 79 = .ok (.ireturn, 1) := by decide +kernel
theorem dJ6_bitCount_0f7a4_0 : decode cJ6_bitCount_0f7a4 0 = .ok (.iload_n 0, 1) := by decide +kernel
theorem dJ6_bitCount_0f7a4_1 : decode cJ6_bitCount_0f7a4 1 = .ok (.iload_n 0, 1) := by decide +kernel
theorem dJ6_bitCount_0f7a4_2 : decode cJ6_bitCount_0f7a4 2 = .ok (.iconst 1, 1) := by decide +kernel
theorem dJ6_bitCount_0f7a4_3 : decode cJ6_bitCount_0f7a4 3 = .ok (.iushr, 1) := by decide +kernel
theorem dJ6_bitCount_0f7a4_4 : decode cJ6_bitCount_0f7a4 4 = .ok (.ldc_w 265, 3) := by decide +kernel
theorem dJ6_bitCount_0f7a4_7 : decode cJ6_bitCount_0f7a4 7 = .ok (.iand, 1) := by decide +kernel
theorem dJ6_bitCount_0f7a4_8 : decode cJ6_bitCount_0f7a4 8 = .ok (.isub, 1) := by decide +kernel
theorem dJ6_bitCount_0f7a4_9 : decode cJ6_bitCount_0f7a4 9 = .ok (.istore_n 0, 1) := by decide +kernel
theorem dJ6_bitCount_0f7a4_10 : decode cJ6_bitCount_0f7a4 10 = .ok (.iload_n 0, 1) := by decide +kernel
theorem dJ6_bitCount_0f7a4_11 : decode cJ6_bitCount_0f7a4 11 = .ok (.ldc_w 266, 3) := by decide +kernel
theorem dJ6_bitCount_0f7a4_14 : decode cJ6_bitCount_0f7a4 14 = .ok (.iand, 1) := by decide +kernel
theorem dJ6_bitCount_0f7a4_15 : decode cJ6_bitCount_0f7a4 15 = .ok (.iload_n 0, 1) := by decide +kernel
theorem dJ6_bitCount_0f7a4_16 : decode cJ6_bitCount_0f7a4 16 = .ok (.iconst 2, 1) := by decide +kernel
theorem dJ6_bitCount_0f7a4_17 : decode cJ6_bitCount_0f7a4 17 = .ok (.iushr, 1) := by decide +kernel
theorem dJ6_bitCount_0f7a4_18 : decode cJ6_bitCount_0f7a4 18 = .ok (.ldc_w 266, 3) := by decide +kernel
theorem dJ6_bitCount_0f7a4_21 : decode cJ6_bitCount_0f7a4 21 = .ok (.iand, 1) := by decide +kernel
theorem dJ6_bitCount_0f7a4_22 : decode cJ6_bitCount_0f7a4 22 = .ok (.iadd, 1) := by decide +kernel
theorem dJ6_bitCount_0f7a4_23 : decode cJ6_bitCount_0f7a4 23 = .ok (.istore_n 0, 1) := by decide +kernel
theorem dJ6_bitCount_0f7a4_24 : decode cJ6_bitCount_0f7a4 24 = .ok (.iload_n 0, 1) := by decide +kernel
theorem dJ6_bitCount_0f7a4_25 : decode cJ6_bitCount_0f7a4 25 = .ok (.iload_n 0, 1) := by decide +kernel
theorem dJ6_bitCount_0f7a4_26 : decode cJ6_bitCount_0f7a4 26 = .ok (.iconst 4, 1) := by decide +kernel
theorem dJ6_bitCount_0f7a4_27 : decode cJ6_bitCount_0f7a4 27 = .ok (.iushr, 1) := by decide +kernel
theorem dJ6_bitCount_0f7a4_28 : decode cJ6_bitCount_0f7a4 28 = .ok (.iadd, 1) := by decide +kernel
theorem dJ6_bitCount_0f7a4_29 : decode cJ6_bitCount_0f7a4 29 = .ok (.ldc_w 267, 3) := by decide +kernel
theorem dJ6_bitCount_0f7a4_32 : decode cJ6_bitCount_0f7a4 32 = .ok (.iand, 1) := by decide +kernel
theorem dJ6_bitCount_0f7a4_33 : decode cJ6_bitCount_0f7a4 33 = .ok (.istore_n 0, 1) := by decide +kernel
theorem dJ6_bitCount_0f7a4_34 : decode cJ6_bitCount_0f7a4 34 = .ok (.iload_n 0, 1) := by decide +kernel
theorem dJ6_bitCount_0f7a4_35 : decode cJ6_bitCount_0f7a4 35 = .ok (.iload_n 0, 1) := by decide +kernel
theorem dJ6_bitCount_0f7a4_36 : decode cJ6_bitCount_0f7a4 36 = .ok (.bipush 8, 2) := by decide +kernel
theorem dJ6_bitCount_0f7a4_38 : decode cJ6_bitCount_0f7a4 38 = .ok (.iushr, 1) := by decide +kernel
theorem dJ6_bitCount_0f7a4_39 : decode cJ6_bitCount_0f7a4 39 = .ok (.iadd, 1) := by decide +kernel
theorem dJ6_bitCount_0f7a4_40 : decode cJ6_bitCount_0f7a4 40 = .ok (.istore_n 0, 1) := by decide +kernel
theorem dJ6_bitCount_0f7a4_41 : decode cJ6_bitCount_0f7a4 41 = .ok (.iload_n 0, 1) := by decide +kernel
theorem dJ6_bitCount_0f7a4_42 : decode cJ6_bitCount_0f7a4 42 = .ok (.iload_n 0, 1) := by decide +kernel
theorem dJ6_bitCount_0f7a4_43 : decode cJ6_bitCount_0f7a4 43 = .ok (.bipush 16, 2) := by decide +kernel
theorem dJ6_bitCount_0f7a4_45 : decode cJ6_bitCount_0f7a4 45 = .ok (.iushr, 1) := by decide +kernel
theorem dJ6_bitCount_0f7a4_46 : decode cJ6_bitCount_0f7a4 46 = .ok (.iadd, 1) := by decide +kernel
theorem dJ6_bitCount_0f7a4_47 : decode cJ6_bitCount_0f7a4 47 = .ok (.istore_n 0, 1) := by decide +kernel
theorem dJ6_bitCount_0f7a4_48 : decode cJ6_bitCount_0f7a4 48 = .ok (.iload_n 0, 1) := by decide +kernel
theorem dJ6_bitCount_0f7a4_49 : decode cJ6_bitCount_0f7a4 49 = .ok (.bipush 63, 2) := by decide +kernel
theorem dJ6_bitCount_0f7a4_51 : decode cJ6_bitCount_0f7a4 51 = .ok (.iand, 1) := by decide +kernel
theorem dJ6_bitCount_0f7a4_52 : decode cJ6_bitCount_0f7a4 52 = .ok (.ireturn, 1) := by decide +kernel
theorem dJ9_abs_067f4_0 : decode cJ9_abs_067f4 0 = .ok (.lload_n 0, 1) := by decide +kernel
theorem dJ9_abs_067f4_1 : decode cJ9_abs_067f4 1 = .ok (.lconst 0, 1) := by decide +kernel
theorem dJ9_abs_067f4_2 : decode cJ9_abs_067f4 2 = .ok (.lcmp, 1) := by decide +kernel
theorem dJ9_abs_067f4_3 : decode cJ9_abs_067f4 3 = .ok (.ifCond .ge 8, 3) := by decide +kernel
theorem dJ9_abs_067f4_6 : decode cJ9_abs_067f4 6 = .ok (.lload_n 0, 1) := by decide +kernel
theorem dJ9_abs_067f4_7 : decode cJ9_abs_067f4 7 = .ok (.lneg, 1) := by decide +kernel
theorem dJ9_abs_067f4_8 : decode cJ9_abs_067f4 8 = .ok (.goto 4, 3) := by decide +kernel
theorem dJ9_abs_067f4_11 : decode cJ9_abs_067f4 11 = .ok (.lload_n 0, 1) := by decide +kernel
theorem dJ9_abs_067f4_12 : decode cJ9_abs_067f4 12 = .ok (.lreturn, 1) := by decide +kernel
theorem dJ7_fill_d0a16_0 : decode cJ7_fill_d0a16 0 = .ok (.iconst 0, 1) := by decide +kernel
theorem dJ7_fill_d0a16_1 : decode cJ7_fill_d0a16 1 = .ok (.istore_n 3, 1) := by decide +kernel
theorem dJ7_fill_d0a16_2 : decode cJ7_fill_d0a16 2 = .ok (.aload_n 0, 1) := by decide +kernel
theorem dJ7_fill_d0a16_3 : decode cJ7_fill_d0a16 3 = .ok (.arraylength, 1) := by decide +kernel
theorem dJ7_fill_d0a16_4 : decode cJ7_fill_d0a16 4 = .ok (.istore 4, 2) := by decide +kernel
theorem dJ7_fill_d0a16_6 : decode cJ7_fill_d0a16 6 = .ok (.iload_n 3, 1) := by decide +kernel
theorem dJ7_fill_d0a16_7 : decode cJ7_fill_d0a16 7 = .ok (.iload 4, 2) := by decide +kernel
theorem dJ7_fill_d0a16_9 : decode cJ7_fill_d0a16 9 = .ok (.if_icmp .ge 13, 3) := by decide +kernel
theorem dJ7_fill_d0a16_12 : decode cJ7_fill_d0a16 12 = .ok (.aload_n 0, 1) := by decide +kernel
theorem dJ7_fill_d0a16_13 : decode cJ7_fill_d0a16 13 = .ok (.iload_n 3, 1) := by decide +kernel
theorem dJ7_fill_d0a16_14 : decode cJ7_fill_d0a16 14 = .ok (.lload_n 1, 1) := by decide +kernel
theorem dJ7_fill_d0a16_15 : decode cJ7_fill_d0a16 15 = .ok (.lastore, 1) := by decide +kernel
theorem dJ7_fill_d0a16_16 : decode cJ7_fill_d0a16 16 = .ok (.iinc 3 1, 3) := by decide +kernel
theorem dJ7_fill_d0a16_19 : decode cJ7_fill_d0a16 19 = .ok (.goto (-13), 3) := by decide +kernel
theorem dJ7_fill_d0a16_22 : decode cJ7_fill_d0a16 22 = .ok (.return_, 1) := by decide +kernel
theorem dJ7_fill_53178_0 : decode cJ7_fill_53178 0 = .ok (.iconst 0, 1) := by decide +kernel
theorem dJ7_fill_53178_1 : decode cJ7_fill_53178 1 = .ok (.istore_n 2, 1) := by decide +kernel
theorem dJ7_fill_53178_2 : decode cJ7_fill_53178 2 = .ok (.aload_n 0, 1) := by decide +kernel
theorem dJ7_fill_53178_3 : decode cJ7_fill_53178 3 = .ok (.arraylength, 1) := by decide +kernel
theorem dJ7_fill_53178_4 : decode cJ7_fill_53178 4 = .ok (.istore_n 3, 1) := by decide +kernel
theorem dJ7_fill_53178_5 : decode cJ7_fill_53178 5 = .ok (.iload_n 2, 1) := by decide +kernel
theorem dJ7_fill_53178_6 : decode cJ7_fill_53178 6 = .ok (.iload_n 3, 1) := by decide +kernel
theorem dJ7_fill_53178_7 : decode cJ7_fill_53178 7 = .ok (.if_icmp .ge 13, 3) := by decide +kernel
theorem dJ7_fill_53178_10 : decode cJ7_fill_53178 10 = .ok (.aload_n 0, 1) := by decide +kernel
theorem dJ7_fill_53178_11 : decode cJ7_fill_53178 11 = .ok (.iload_n 2, 1) := by decide +kernel
theorem dJ7_fill_53178_12 : decode cJ7_fill_53178 12 = .ok (.iload_n 1, 1) := by decide +kernel
theorem dJ7_fill_53178_13 : decode cJ7_fill_53178 13 = .ok (.iastore, 1) := by decide +kernel
theorem dJ7_fill_53178_14 : decode cJ7_fill_53178 14 = .ok (.iinc 2 1, 3) := by decide +kernel
theorem dJ7_fill_53178_17 : decode cJ7_fill_53178 17 = .ok (.goto (-12), 3) := by decide +kernel
theorem dJ7_fill_53178_20 : decode cJ7_fill_53178 20 = .ok (.return_, 1) := by decide +kernel
end
section
/-! The judgement that the walks are written in: JJ κ .. pc lv st ws: from the instruction pc, with the locals lv, the operand stack st and the cells ws, the method comes to its end with Q. -/
abbrev jK : Type := Program × Launch × Env × Room × State × MethodId × Array Value × List Frame × Method × Code
abbrev jp (κ : jK) : Program := κ.1
abbrev jl (κ : jK) : Launch := κ.2.1
abbrev je (κ : jK) : Env := κ.2.2.1
abbrev jR (κ : jK) : Room := κ.2.2.2.1
abbrev js (κ : jK) : State := κ.2.2.2.2.1
abbrev jm (κ : jK) : MethodId := κ.2.2.2.2.2.1
abbrev jar (κ : jK) : Array Value := κ.2.2.2.2.2.2.1
abbrev jb (κ : jK) : List Frame := κ.2.2.2.2.2.2.2.1
abbrev jme (κ : jK) : Method := κ.2.2.2.2.2.2.2.2.1
abbrev jc (κ : jK) : Code := κ.2.2.2.2.2.2.2.2.2
abbrev jG : Type := va_G × ClassId × ClassId × ClassId × ClassId
abbrev jtys (G : jG) : List (ClassId × FieldType) := [(G.2.1, .int), (G.2.2.1, .long), (G.2.2.2.1, .boolean), (G.2.2.2.2, .object RX7)]
def jNf : List (String × Nat × String × String × String × String) := [("MentorPairs", 118, "MentorPairs$Circle", "elders", "I", "MentorPairs"), ("MentorPairs", 127, "MentorPairs$Circle", "beginners", "I", "MentorPairs"), ("MentorPairs", 137, "MentorPairs$Circle", "placesOf", "[I", "MentorPairs"), ("MentorPairs", 163, "MentorPairs$Pairing", "elderBy", "[I", "MentorPairs"), ("MentorPairs", 166, "MentorPairs$Pairing", "given", "Z", "MentorPairs"), ("MentorPairs", 194, "MentorPairs$Meetings", "many", "I", "MentorPairs"), ("MentorPairs", 203, "MentorPairs$Meetings", "dueOn", "[I", "MentorPairs"), ("MentorPairs", 206, "MentorPairs$Meetings", "tellings", "I", "MentorPairs"), ("MentorPairs", 220, "MentorPairs$Goals", "many", "I", "MentorPairs"), ("MentorPairs", 226, "MentorPairs$Goals", "confirmedOn", "[I", "MentorPairs"), ("MentorPairs", 232, "MentorPairs$Runs", "many", "I", "MentorPairs"), ("MentorPairs", 240, "MentorPairs$Fraction", "above", "J", "MentorPairs"), ("MentorPairs", 244, "MentorPairs$Fraction", "below", "J", "MentorPairs"), ("MentorPairs", 263, "MentorPairs$Tray", "missing", "Z", "MentorPairs"), ("MentorPairs", 272, "MentorPairs$Tray", "sort", "I", "MentorPairs"), ("MentorPairs", 95, "MentorPairs$Tray", "numbers", "[J", "MentorPairs"), ("MentorPairs$Pairing", 32, "MentorPairs$Circle", "placesOf", "[I", "MentorPairs"), ("MentorPairs$Pairing", 37, "MentorPairs$Circle", "beginners", "I", "MentorPairs"), ("MentorPairs$Pairing", 61, "MentorPairs$Circle", "elders", "I", "MentorPairs"), ("MentorPairs$Row", 42, "MentorPairs$Pairing", "elderBy", "[I", "MentorPairs"), ("MentorPairs$Row", 53, "MentorPairs$Circle", "elders", "I", "MentorPairs"), ("MentorPairs$Row", 68, "MentorPairs$Circle", "placesOf", "[I", "MentorPairs"), ("MentorPairs$Row", 75, "MentorPairs$Circle", "beginners", "I", "MentorPairs"), ("MentorPairs$Trial", 30, "MentorPairs$Tray", "numbers", "[J", "MentorPairs")]
def jNm : List (String × Nat × MethodName × String) := [("MentorPairs", 121, ⟨"MentorPairs$Circle", "addElder", "(I)I"⟩, "MentorPairs"), ("MentorPairs", 130, ⟨"MentorPairs$Circle", "addBeginner", "()I"⟩, "MentorPairs"), ("MentorPairs", 134, ⟨"MentorPairs$Circle", "isElder", "(I)Z"⟩, "MentorPairs"), ("MentorPairs", 141, ⟨"MentorPairs$Circle", "areTwo", "(II)Z"⟩, "MentorPairs"), ("MentorPairs", 145, ⟨"MentorPairs$Circle", "setLiking", "(IIZI)V"⟩, "MentorPairs"), ("MentorPairs", 149, ⟨"MentorPairs$Circle", "isBarred", "(II)Z"⟩, "MentorPairs"), ("MentorPairs", 152, ⟨"MentorPairs$Circle", "setBarred", "(IIZ)V"⟩, "MentorPairs"), ("MentorPairs", 156, ⟨"MentorPairs$Pairing", "makeBest", "(LMentorPairs$Circle;)I"⟩, "MentorPairs"), ("MentorPairs", 17, ⟨"MentorPairs$Circle", "<init>", "()V"⟩, "MentorPairs"), ("MentorPairs", 170, ⟨"MentorPairs$Pairing", "countOf", "(I)I"⟩, "MentorPairs"), ("MentorPairs", 173, ⟨"MentorPairs$Pairing", "countBlocking", "(LMentorPairs$Circle;)I"⟩, "MentorPairs"), ("MentorPairs", 176, ⟨"MentorPairs$Pairing", "isBlockedBy", "(LMentorPairs$Circle;II)Z"⟩, "MentorPairs"), ("MentorPairs", 180, ⟨"MentorPairs$Row", "findLast", "(LMentorPairs$Circle;LMentorPairs$Pairing;I)I"⟩, "MentorPairs"), ("MentorPairs", 184, ⟨"MentorPairs$Row", "moveAll", "(LMentorPairs$Pairing;I)I"⟩, "MentorPairs"), ("MentorPairs", 188, ⟨"MentorPairs$Circle", "isBeginner", "(I)Z"⟩, "MentorPairs"), ("MentorPairs", 197, ⟨"MentorPairs$Meetings", "add", "(II)I"⟩, "MentorPairs"), ("MentorPairs", 200, ⟨"MentorPairs$Meetings", "isMeeting", "(I)Z"⟩, "MentorPairs"), ("MentorPairs", 209, ⟨"MentorPairs$Meetings", "addTelling", "(IZI)V"⟩, "MentorPairs"), ("MentorPairs", 213, ⟨"MentorPairs$Meetings", "count", "(III)I"⟩, "MentorPairs"), ("MentorPairs", 217, ⟨"MentorPairs$Goals", "isGoalOf", "(II)Z"⟩, "MentorPairs"), ("MentorPairs", 221, ⟨"MentorPairs$Goals", "add", "(III)I"⟩, "MentorPairs"), ("MentorPairs", 223, ⟨"MentorPairs$Goals", "isGoal", "(I)Z"⟩, "MentorPairs"), ("MentorPairs", 229, ⟨"MentorPairs$Goals", "asOf", "(II)I"⟩, "MentorPairs"), ("MentorPairs", 233, ⟨"MentorPairs$Runs", "add", "(IZ)V"⟩, "MentorPairs"), ("MentorPairs", 236, ⟨"MentorPairs$Runs", "shareBeyond", "(ILMentorPairs$Fraction;)V"⟩, "MentorPairs"), ("MentorPairs", 24, ⟨"MentorPairs$Pairing", "<init>", "()V"⟩, "MentorPairs"), ("MentorPairs", 250, ⟨"MentorPairs$Trial", "lay", "(LMentorPairs$Tray;I)V"⟩, "MentorPairs"), ("MentorPairs", 254, ⟨"MentorPairs$Trial", "gainOf", "(ILMentorPairs$Fraction;)V"⟩, "MentorPairs"), ("MentorPairs", 257, ⟨"MentorPairs$Trial", "chanceOf", "(ILMentorPairs$Fraction;)V"⟩, "MentorPairs"), ("MentorPairs", 260, ⟨"MentorPairs$Trial", "drawnSet", "(III)I"⟩, "MentorPairs"), ("MentorPairs", 269, ⟨"MentorPairs$Tray", "hasPlaces", "(II)Z"⟩, "MentorPairs"), ("MentorPairs", 275, ⟨"MentorPairs$Tray", "hasOutcomes", "(I)Z"⟩, "MentorPairs"), ("MentorPairs", 31, ⟨"MentorPairs$Row", "<init>", "()V"⟩, "MentorPairs"), ("MentorPairs", 38, ⟨"MentorPairs$Meetings", "<init>", "()V"⟩, "MentorPairs"), ("MentorPairs", 45, ⟨"MentorPairs$Goals", "<init>", "()V"⟩, "MentorPairs"), ("MentorPairs", 52, ⟨"MentorPairs$Runs", "<init>", "()V"⟩, "MentorPairs"), ("MentorPairs", 59, ⟨"MentorPairs$Trial", "<init>", "()V"⟩, "MentorPairs"), ("MentorPairs", 66, ⟨"MentorPairs$Fraction", "<init>", "()V"⟩, "MentorPairs"), ("MentorPairs", 75, ⟨"MentorPairs$Tray", "<init>", "()V"⟩, "MentorPairs"), ("MentorPairs", 83, ⟨"MentorPairs$Tray", "make", "(II)V"⟩, "MentorPairs"), ("MentorPairs", 91, ⟨"MentorPairs$Tray", "put", "(IJ)V"⟩, "MentorPairs"), ("MentorPairs$Pairing", 41, ⟨"MentorPairs$Circle", "elderPrefers", "(III)Z"⟩, "MentorPairs"), ("MentorPairs$Pairing", 64, ⟨"MentorPairs$Circle", "canPair", "(II)Z"⟩, "MentorPairs"), ("MentorPairs$Pairing", 68, ⟨"MentorPairs$Circle", "beginnerPrefers", "(III)Z"⟩, "MentorPairs"), ("MentorPairs$Row", 47, ⟨"MentorPairs$Circle", "canPair", "(II)Z"⟩, "MentorPairs"), ("MentorPairs$Row", 64, ⟨"MentorPairs$Pairing", "countOf", "(I)I"⟩, "MentorPairs"), ("MentorPairs$Runs", 30, ⟨"MentorPairs$Fraction", "become", "(JJ)V"⟩, "MentorPairs"), ("MentorPairs$Trial", 42, ⟨"MentorPairs$Fraction", "become", "(JJ)V"⟩, "MentorPairs")]
def jkf (q : String × Nat × String × String × String × String) : Cond := .fieldLinkNest q.1 q.2.1 q.2.2.1 q.2.2.2.1 q.2.2.2.2.1 q.2.2.2.2.2
def jkm (q : String × Nat × MethodName × String) : Cond := .methodLinkNest q.1 q.2.1 q.2.2.1 q.2.2.2
def jN (U : State) : Prop := (∀ q ∈ jNf, va_Nw (jkf q) U) ∧ ∀ q ∈ jNm, va_Nw (jkm q) U
theorem jN.warm {s U : State} (hW : s.WarmedH U.vm) (h : jN s) : jN U := ⟨fun q hq => va_Nw.warmF hW (h.1 q hq), fun q hq => va_Nw.warmM hW (h.2 q hq)⟩
theorem jN.same {s U : State} (hv : s.vm = U.vm) (h : jN s) : jN U := ⟨fun q hq => va_Nw.same rfl hv (h.1 q hq), fun q hq => va_Nw.same rfl hv (h.2 q hq)⟩
def jS (G : jG) (U : State) : Prop := va_K G.1 vwCl (jtys G) U ∧ jN U
theorem jS.warm {G : jG} {s U : State} (hW : s.WarmedH U.vm) (h : jS G s) : jS G U := ⟨va_K.moved hW.alike h.1, jN.warm hW h.2⟩
def jPre (G : jG) (as : List Value) (w : va_W) (sz : Nat) : Array Value → State → Prop := va_Pc as (fun U => U.heap.size = sz ∧ va_P G.1 vwCl w U.heap ∧ jS G U ∧ va_D (fun _ => True) w)
def jPost (G : jG) (w : va_W) (sz : Nat) (Qr : Option Value → va_W → Prop) : Array Value → State → Outcome → State → Prop := fun _ st oc t => (∃ (r : Option Value) (w' : va_W), oc = .returned r ∧ Qr r w' ∧ va_P G.1 vwCl w' t.heap ∧ va_D (va_A w sz) w') ∧ va_F (va_A w sz) st t
theorem jPre.blind {G : jG} {as : List Value} {w : va_W} {sz : Nat} : FrameBlind (jPre G as w sz) := by
  intro a U g mk q
  obtain ⟨q0, q1, qP, ⟨qK, qN⟩, qD⟩ := q
  exact ⟨q0, q1, qP, ⟨va_K.moved (u := U) (U := U.calling g mk a) (Vm.Alike.refl U.vm) qK, jN.same (U := U.calling g mk a) rfl qN⟩, qD⟩
/-- a method's contract: with the arguments as and the cells w it returns, and answer and new cells are as Qr says -/
def MF (l : Launch) (y : MethodName) (ws : List Cond) (rm : Room) (G : jG) (as : List Value) (w : va_W) (mc ms : Nat) (Qr : Option Value → va_W → Prop) : Prop :=
  ∀ sz : Nat, Met l y ws rm (jPre G as w sz) (jPost G w sz Qr) mc ms (va_A w sz)
def CX (κ : jK) (l : Launch) (y : MethodName) (cc : ByteArray) (nL : Nat) (own : String) (Ts : List Cond) (ret : Option FieldType) (rm : Room) (G : jG) (A : Nat → Prop) : Prop :=
  (jl κ = l ∧ jR κ = rm) ∧ (jp κ).tables.exec = Jvm.exec ∧ (jc κ).code = cc ∧ (jc κ).maxLocals = nL ∧ (js κ).vm.findClass own = some (jm κ).cls ∧ (∀ w ∈ Ts, w.before (jar κ) (js κ) = true) ∧ jS G (js κ) ∧ (∀ q, (js κ).heap.size ≤ q → A q) ∧ (jme κ).locks = false ∧ (jme κ).sig.returnType = ret ∧ (jme κ).name = y.name
def JJ (κ : jK) (nL : Nat) (G : jG) (A : Nat → Prop) (cs ss : Nat) (Q : State → Prop) (pc : Nat) (lv : List (Nat × Value)) (st : List Value) (ws : va_W) : Prop :=
  ∀ (H : Heap) (locs : List Loc) (ls : Array Slot), va_P G.1 vwCl ws H → va_D A ws → va_S A (js κ).heap H locs → lv_has ls nL lv → W (jp κ) (jl κ) (je κ) (jR κ) (js κ) (jm κ) (jar κ) (jb κ) (jme κ) (jc κ) H locs cs ss Q (F0 (jm κ) pc ls st)
def jQ (κ : jK) (G : jG) (w : va_W) (Qr : Option Value → va_W → Prop) (mc ms : Nat) : State → Prop := MQ (jb κ) (jPost G w (js κ).heap.size Qr) (jar κ) (js κ) mc ms (va_A w (js κ).heap.size)
/-- a contract out of a walk -/
theorem MF.ofJ {l : Launch} {y : MethodName} {ws ws' : List Cond} {rm : Room} {G : jG} {as : List Value} {w : va_W} {mc ms : Nat} {Qr : Option Value → va_W → Prop} {cc : ByteArray} {maxL : Nat} {ret : Option FieldType} {own : String} {lv : List (Nat × Value)}
    (hy : plainName y.cls = true) (hw : ws = Cond.code y cc maxL ret :: ws') (ho : y.cls = own) (hlen : (lg_sl as).length ≤ maxL) (hlv : lv_args 0 as = lv)
    (body : ∀ κ : jK, CX κ l y cc maxL own ws ret rm G (va_A w (js κ).heap.size) → JJ κ maxL G (va_A w (js κ).heap.size) 0 0 (jQ κ G w Qr mc ms) 0 lv [] w) : MF l y ws rm G as w mc ms Qr := by
  intro sz
  refine Met.ofW (cc := cc) (maxL := maxL) (ret := ret) hy hw ?_
  intro p e s m args below meth c s₁ B hml hv
  obtain ⟨rfl, hsz, hP, hK, hD⟩ := hv
  subst hsz
  subst hlv
  have hts := atoms_spec (ws := ws) B.pre
  have hown : s.vm.findClass own = some m.cls := by rw [← ho]; exact findClass_of_methodNamed B.named
  have hl := lv_entry as (n := maxL) hlen
  rw [lg_entry_eq]
  exact body (p, l, e, rm, s, m, as.toArray, below, meth, c) ⟨⟨rfl, rfl⟩, B.exec, B.bytes, hml, hown, hts, hK, fun q h => Or.inr h, B.notSynchronized, B.returns, (name_of_methodNamed B.named B.method).1⟩ s.heap [] _ hP (hD.self (sz := s.heap.size)) va_S.rf hl
section JR
variable {κ : jK} {l : Launch} {y : MethodName} {cc : ByteArray} {nL : Nat} {own : String} {Ts : List Cond} {ret : Option FieldType} {rm : Room} {G : jG} {A : Nat → Prop} {cs ss : Nat} {Q : State → Prop} {pc : Nat} {lv lv' : List (Nat × Value)} {st : List Value} {ws ws' : va_W}
theorem j_iconst (X : CX κ l y cc nL own Ts ret rm G A) {n : Int} {v : Int32} (hd : decode cc pc = .ok (.iconst n, 1)) (hv : Int32.ofInt n = v) (k : JJ κ nL G A cs ss Q (pc + 1) lv (.int v :: st) ws) : JJ κ nL G A cs ss Q pc lv st ws :=
  fun H locs ls hP hD hS hl => lv_iconst X.2.1 X.2.2.1 hd hv (k H locs ls hP hD hS hl)
theorem j_bipush (X : CX κ l y cc nL own Ts ret rm G A) {n : Int} {v : Int32} (hd : decode cc pc = .ok (.bipush n, 2)) (hv : (Int8.ofInt n).toInt32 = v) (k : JJ κ nL G A cs ss Q (pc + 2) lv (.int v :: st) ws) : JJ κ nL G A cs ss Q pc lv st ws :=
  fun H locs ls hP hD hS hl => lv_bipush X.2.1 X.2.2.1 hd hv (k H locs ls hP hD hS hl)
theorem j_sipush (X : CX κ l y cc nL own Ts ret rm G A) {n : Int} {v : Int32} (hd : decode cc pc = .ok (.sipush n, 3)) (hv : (Int16.ofInt n).toInt32 = v) (k : JJ κ nL G A cs ss Q (pc + 3) lv (.int v :: st) ws) : JJ κ nL G A cs ss Q pc lv st ws :=
  fun H locs ls hP hD hS hl => lv_sipush X.2.1 X.2.2.1 hd hv (k H locs ls hP hD hS hl)
theorem j_lconst (X : CX κ l y cc nL own Ts ret rm G A) {n : Fin 2} {v : Int64} (hd : decode cc pc = .ok (.lconst n, 1)) (hv : Int64.ofNat (n : Nat) = v) (k : JJ κ nL G A cs ss Q (pc + 1) lv (.long v :: st) ws) : JJ κ nL G A cs ss Q pc lv st ws :=
  fun H locs ls hP hD hS hl => lv_lconst X.2.1 X.2.2.1 hd hv (k H locs ls hP hD hS hl)
theorem j_iload_n (X : CX κ l y cc nL own Ts ret rm G A) {k0 : Fin 4} {i : Nat} {x : Int32} (hd : decode cc pc = .ok (.iload_n k0, 1)) (hi : (k0 : Nat) = i) (q : Nat) (hq : lv[q]? = some (i, .int x)) (k : JJ κ nL G A cs ss Q (pc + 1) lv (.int x :: st) ws) : JJ κ nL G A cs ss Q pc lv st ws :=
  fun H locs ls hP hD hS hl => lv_iload_n X.2.1 X.2.2.1 hd hi (lv_at hl q hq) (k H locs ls hP hD hS hl)
theorem j_iload (X : CX κ l y cc nL own Ts ret rm G A) {i : Nat} {x : Int32} (hd : decode cc pc = .ok (.iload i, 2)) (q : Nat) (hq : lv[q]? = some (i, .int x)) (k : JJ κ nL G A cs ss Q (pc + 2) lv (.int x :: st) ws) : JJ κ nL G A cs ss Q pc lv st ws :=
  fun H locs ls hP hD hS hl => lv_iload X.2.1 X.2.2.1 hd (lv_at hl q hq) (k H locs ls hP hD hS hl)
theorem j_lload_n (X : CX κ l y cc nL own Ts ret rm G A) {k0 : Fin 4} {i : Nat} {x : Int64} (hd : decode cc pc = .ok (.lload_n k0, 1)) (hi : (k0 : Nat) = i) (q : Nat) (hq : lv[q]? = some (i, .long x)) (k : JJ κ nL G A cs ss Q (pc + 1) lv (.long x :: st) ws) : JJ κ nL G A cs ss Q pc lv st ws :=
  fun H locs ls hP hD hS hl => lv_lload_n X.2.1 X.2.2.1 hd hi (lv_at hl q hq) (k H locs ls hP hD hS hl)
theorem j_lload (X : CX κ l y cc nL own Ts ret rm G A) {i : Nat} {x : Int64} (hd : decode cc pc = .ok (.lload i, 2)) (q : Nat) (hq : lv[q]? = some (i, .long x)) (k : JJ κ nL G A cs ss Q (pc + 2) lv (.long x :: st) ws) : JJ κ nL G A cs ss Q pc lv st ws :=
  fun H locs ls hP hD hS hl => lv_lload X.2.1 X.2.2.1 hd (lv_at hl q hq) (k H locs ls hP hD hS hl)
theorem j_aload_n (X : CX κ l y cc nL own Ts ret rm G A) {k0 : Fin 4} {i : Nat} {x : Nat} (hd : decode cc pc = .ok (.aload_n k0, 1)) (hi : (k0 : Nat) = i) (q : Nat) (hq : lv[q]? = some (i, .ref x)) (k : JJ κ nL G A cs ss Q (pc + 1) lv (.ref x :: st) ws) : JJ κ nL G A cs ss Q pc lv st ws :=
  fun H locs ls hP hD hS hl => lv_aload_n X.2.1 X.2.2.1 hd hi (lv_at hl q hq) (k H locs ls hP hD hS hl)
theorem j_aload (X : CX κ l y cc nL own Ts ret rm G A) {i : Nat} {x : Nat} (hd : decode cc pc = .ok (.aload i, 2)) (q : Nat) (hq : lv[q]? = some (i, .ref x)) (k : JJ κ nL G A cs ss Q (pc + 2) lv (.ref x :: st) ws) : JJ κ nL G A cs ss Q pc lv st ws :=
  fun H locs ls hP hD hS hl => lv_aload X.2.1 X.2.2.1 hd (lv_at hl q hq) (k H locs ls hP hD hS hl)
theorem j_istore_n (X : CX κ l y cc nL own Ts ret rm G A) {k0 : Fin 4} {i : Nat} {x : Int32} (hd : decode cc pc = .ok (.istore_n k0, 1)) (hi : (k0 : Nat) = i) (hn : i < nL) (he : (i, Value.int x) :: lv.filter (fun q => !(q.1 == i) && !(q.1 + 1 == i && q.2.category == 2)) = lv') (k : JJ κ nL G A cs ss Q (pc + 1) lv' st ws) : JJ κ nL G A cs ss Q pc lv (.int x :: st) ws :=
  fun H locs ls hP hD hS hl => lv_istore_n X.2.1 X.2.2.1 hd hi hl hn he (fun ls2 hl2 => k H locs ls2 hP hD hS hl2)
theorem j_istore (X : CX κ l y cc nL own Ts ret rm G A) {i : Nat} {x : Int32} (hd : decode cc pc = .ok (.istore i, 2)) (hn : i < nL) (he : (i, Value.int x) :: lv.filter (fun q => !(q.1 == i) && !(q.1 + 1 == i && q.2.category == 2)) = lv') (k : JJ κ nL G A cs ss Q (pc + 2) lv' st ws) : JJ κ nL G A cs ss Q pc lv (.int x :: st) ws :=
  fun H locs ls hP hD hS hl => lv_istore X.2.1 X.2.2.1 hd hl hn he (fun ls2 hl2 => k H locs ls2 hP hD hS hl2)
theorem j_astore_n (X : CX κ l y cc nL own Ts ret rm G A) {k0 : Fin 4} {i : Nat} {x : Nat} (hd : decode cc pc = .ok (.astore_n k0, 1)) (hi : (k0 : Nat) = i) (hn : i < nL) (he : (i, Value.ref x) :: lv.filter (fun q => !(q.1 == i) && !(q.1 + 1 == i && q.2.category == 2)) = lv') (k : JJ κ nL G A cs ss Q (pc + 1) lv' st ws) : JJ κ nL G A cs ss Q pc lv (.ref x :: st) ws :=
  fun H locs ls hP hD hS hl => lv_astore_n X.2.1 X.2.2.1 hd hi hl hn he (fun ls2 hl2 => k H locs ls2 hP hD hS hl2)
theorem j_astore (X : CX κ l y cc nL own Ts ret rm G A) {i : Nat} {x : Nat} (hd : decode cc pc = .ok (.astore i, 2)) (hn : i < nL) (he : (i, Value.ref x) :: lv.filter (fun q => !(q.1 == i) && !(q.1 + 1 == i && q.2.category == 2)) = lv') (k : JJ κ nL G A cs ss Q (pc + 2) lv' st ws) : JJ κ nL G A cs ss Q pc lv (.ref x :: st) ws :=
  fun H locs ls hP hD hS hl => lv_astore X.2.1 X.2.2.1 hd hl hn he (fun ls2 hl2 => k H locs ls2 hP hD hS hl2)
theorem j_lstore_n (X : CX κ l y cc nL own Ts ret rm G A) {k0 : Fin 4} {i : Nat} {x : Int64} (hd : decode cc pc = .ok (.lstore_n k0, 1)) (hi : (k0 : Nat) = i) (hn : i + 1 < nL) (he : (i, Value.long x) :: lv.filter (fun q => !(q.1 == i) && (!(q.1 == i + 1) && !(q.1 + 1 == i && q.2.category == 2))) = lv') (k : JJ κ nL G A cs ss Q (pc + 1) lv' st ws) : JJ κ nL G A cs ss Q pc lv (.long x :: st) ws :=
  fun H locs ls hP hD hS hl => lv_lstore_n X.2.1 X.2.2.1 hd hi hl hn he (fun ls2 hl2 => k H locs ls2 hP hD hS hl2)
theorem j_lstore (X : CX κ l y cc nL own Ts ret rm G A) {i : Nat} {x : Int64} (hd : decode cc pc = .ok (.lstore i, 2)) (hn : i + 1 < nL) (he : (i, Value.long x) :: lv.filter (fun q => !(q.1 == i) && (!(q.1 == i + 1) && !(q.1 + 1 == i && q.2.category == 2))) = lv') (k : JJ κ nL G A cs ss Q (pc + 2) lv' st ws) : JJ κ nL G A cs ss Q pc lv (.long x :: st) ws :=
  fun H locs ls hP hD hS hl => lv_lstore X.2.1 X.2.2.1 hd hl hn he (fun ls2 hl2 => k H locs ls2 hP hD hS hl2)
theorem j_iinc (X : CX κ l y cc nL own Ts ret rm G A) {i : Nat} {n : Int} {x v : Int32} (hd : decode cc pc = .ok (.iinc i n, 3)) (q : Nat) (hq : lv[q]? = some (i, .int x)) (hv : x + Int32.ofInt n = v) (hn : i < nL) (he : (i, Value.int v) :: lv.filter (fun q => !(q.1 == i) && !(q.1 + 1 == i && q.2.category == 2)) = lv') (k : JJ κ nL G A cs ss Q (pc + 3) lv' st ws) : JJ κ nL G A cs ss Q pc lv st ws :=
  fun H locs ls hP hD hS hl => lv_iinc X.2.1 X.2.2.1 hd hl hq hv hn he (fun ls2 hl2 => k H locs ls2 hP hD hS hl2)
theorem j_iadd (X : CX κ l y cc nL own Ts ret rm G A) {x z : Int32} (hd : decode cc pc = .ok (.iadd, 1)) (k : JJ κ nL G A cs ss Q (pc + 1) lv (.int (x + z) :: st) ws) : JJ κ nL G A cs ss Q pc lv (.int z :: .int x :: st) ws :=
  fun H locs ls hP hD hS hl => lv_iadd X.2.1 X.2.2.1 hd (k H locs ls hP hD hS hl)
theorem j_isub (X : CX κ l y cc nL own Ts ret rm G A) {x z : Int32} (hd : decode cc pc = .ok (.isub, 1)) (k : JJ κ nL G A cs ss Q (pc + 1) lv (.int (x - z) :: st) ws) : JJ κ nL G A cs ss Q pc lv (.int z :: .int x :: st) ws :=
  fun H locs ls hP hD hS hl => lv_isub X.2.1 X.2.2.1 hd (k H locs ls hP hD hS hl)
theorem j_imul (X : CX κ l y cc nL own Ts ret rm G A) {x z : Int32} (hd : decode cc pc = .ok (.imul, 1)) (k : JJ κ nL G A cs ss Q (pc + 1) lv (.int (x * z) :: st) ws) : JJ κ nL G A cs ss Q pc lv (.int z :: .int x :: st) ws :=
  fun H locs ls hP hD hS hl => lv_imul X.2.1 X.2.2.1 hd (k H locs ls hP hD hS hl)
theorem j_iand (X : CX κ l y cc nL own Ts ret rm G A) {x z : Int32} (hd : decode cc pc = .ok (.iand, 1)) (k : JJ κ nL G A cs ss Q (pc + 1) lv (.int (x &&& z) :: st) ws) : JJ κ nL G A cs ss Q pc lv (.int z :: .int x :: st) ws :=
  fun H locs ls hP hD hS hl => lv_iand X.2.1 X.2.2.1 hd (k H locs ls hP hD hS hl)
theorem j_ior (X : CX κ l y cc nL own Ts ret rm G A) {x z : Int32} (hd : decode cc pc = .ok (.ior, 1)) (k : JJ κ nL G A cs ss Q (pc + 1) lv (.int (x ||| z) :: st) ws) : JJ κ nL G A cs ss Q pc lv (.int z :: .int x :: st) ws :=
  fun H locs ls hP hD hS hl => lv_ior X.2.1 X.2.2.1 hd (k H locs ls hP hD hS hl)
theorem j_ixor (X : CX κ l y cc nL own Ts ret rm G A) {x z : Int32} (hd : decode cc pc = .ok (.ixor, 1)) (k : JJ κ nL G A cs ss Q (pc + 1) lv (.int (x ^^^ z) :: st) ws) : JJ κ nL G A cs ss Q pc lv (.int z :: .int x :: st) ws :=
  fun H locs ls hP hD hS hl => lv_ixor X.2.1 X.2.2.1 hd (k H locs ls hP hD hS hl)
theorem j_ladd (X : CX κ l y cc nL own Ts ret rm G A) {x z : Int64} (hd : decode cc pc = .ok (.ladd, 1)) (k : JJ κ nL G A cs ss Q (pc + 1) lv (.long (x + z) :: st) ws) : JJ κ nL G A cs ss Q pc lv (.long z :: .long x :: st) ws :=
  fun H locs ls hP hD hS hl => lv_ladd X.2.1 X.2.2.1 hd (k H locs ls hP hD hS hl)
theorem j_lsub (X : CX κ l y cc nL own Ts ret rm G A) {x z : Int64} (hd : decode cc pc = .ok (.lsub, 1)) (k : JJ κ nL G A cs ss Q (pc + 1) lv (.long (x - z) :: st) ws) : JJ κ nL G A cs ss Q pc lv (.long z :: .long x :: st) ws :=
  fun H locs ls hP hD hS hl => lv_lsub X.2.1 X.2.2.1 hd (k H locs ls hP hD hS hl)
theorem j_lmul (X : CX κ l y cc nL own Ts ret rm G A) {x z : Int64} (hd : decode cc pc = .ok (.lmul, 1)) (k : JJ κ nL G A cs ss Q (pc + 1) lv (.long (x * z) :: st) ws) : JJ κ nL G A cs ss Q pc lv (.long z :: .long x :: st) ws :=
  fun H locs ls hP hD hS hl => lv_lmul X.2.1 X.2.2.1 hd (k H locs ls hP hD hS hl)
theorem j_land (X : CX κ l y cc nL own Ts ret rm G A) {x z : Int64} (hd : decode cc pc = .ok (.land, 1)) (k : JJ κ nL G A cs ss Q (pc + 1) lv (.long (x &&& z) :: st) ws) : JJ κ nL G A cs ss Q pc lv (.long z :: .long x :: st) ws :=
  fun H locs ls hP hD hS hl => lv_land X.2.1 X.2.2.1 hd (k H locs ls hP hD hS hl)
theorem j_lor (X : CX κ l y cc nL own Ts ret rm G A) {x z : Int64} (hd : decode cc pc = .ok (.lor, 1)) (k : JJ κ nL G A cs ss Q (pc + 1) lv (.long (x ||| z) :: st) ws) : JJ κ nL G A cs ss Q pc lv (.long z :: .long x :: st) ws :=
  fun H locs ls hP hD hS hl => lv_lor X.2.1 X.2.2.1 hd (k H locs ls hP hD hS hl)
theorem j_lxor (X : CX κ l y cc nL own Ts ret rm G A) {x z : Int64} (hd : decode cc pc = .ok (.lxor, 1)) (k : JJ κ nL G A cs ss Q (pc + 1) lv (.long (x ^^^ z) :: st) ws) : JJ κ nL G A cs ss Q pc lv (.long z :: .long x :: st) ws :=
  fun H locs ls hP hD hS hl => lv_lxor X.2.1 X.2.2.1 hd (k H locs ls hP hD hS hl)
-- IDIV
theorem j_idiv (X : CX κ l y cc nL own Ts ret rm G A) {x z : Int32} (hd : decode cc pc = .ok (.idiv, 1)) (hne : ¬ z = 0) (k : JJ κ nL G A cs ss Q (pc + 1) lv (.int (x / z) :: st) ws) : JJ κ nL G A cs ss Q pc lv (.int z :: .int x :: st) ws :=
  fun H locs ls hP hD hS hl => lv_idiv X.2.1 X.2.2.1 hd hne (k H locs ls hP hD hS hl)
theorem j_ldiv (X : CX κ l y cc nL own Ts ret rm G A) {x z : Int64} (hd : decode cc pc = .ok (.ldiv, 1)) (hne : ¬ z = 0) (k : JJ κ nL G A cs ss Q (pc + 1) lv (.long (x / z) :: st) ws) : JJ κ nL G A cs ss Q pc lv (.long z :: .long x :: st) ws :=
  fun H locs ls hP hD hS hl => lv_ldiv X.2.1 X.2.2.1 hd hne (k H locs ls hP hD hS hl)
theorem j_ineg (X : CX κ l y cc nL own Ts ret rm G A) {x : Int32} (hd : decode cc pc = .ok (.ineg, 1)) (k : JJ κ nL G A cs ss Q (pc + 1) lv (.int (-x) :: st) ws) : JJ κ nL G A cs ss Q pc lv (.int x :: st) ws :=
  fun H locs ls hP hD hS hl => lv_ineg X.2.1 X.2.2.1 hd (k H locs ls hP hD hS hl)
theorem j_lneg (X : CX κ l y cc nL own Ts ret rm G A) {x : Int64} (hd : decode cc pc = .ok (.lneg, 1)) (k : JJ κ nL G A cs ss Q (pc + 1) lv (.long (-x) :: st) ws) : JJ κ nL G A cs ss Q pc lv (.long x :: st) ws :=
  fun H locs ls hP hD hS hl => lv_lneg X.2.1 X.2.2.1 hd (k H locs ls hP hD hS hl)
theorem j_i2l (X : CX κ l y cc nL own Ts ret rm G A) {x : Int32} {v : Int64} (hd : decode cc pc = .ok (.i2l, 1)) (hv : x.toInt64 = v) (k : JJ κ nL G A cs ss Q (pc + 1) lv (.long v :: st) ws) : JJ κ nL G A cs ss Q pc lv (.int x :: st) ws :=
  fun H locs ls hP hD hS hl => lv_i2l X.2.1 X.2.2.1 hd hv (k H locs ls hP hD hS hl)
theorem j_l2i (X : CX κ l y cc nL own Ts ret rm G A) {x : Int64} {v : Int32} (hd : decode cc pc = .ok (.l2i, 1)) (hv : x.toInt32 = v) (k : JJ κ nL G A cs ss Q (pc + 1) lv (.int v :: st) ws) : JJ κ nL G A cs ss Q pc lv (.long x :: st) ws :=
  fun H locs ls hP hD hS hl => lv_l2i X.2.1 X.2.2.1 hd hv (k H locs ls hP hD hS hl)
theorem j_i2b (X : CX κ l y cc nL own Ts ret rm G A) {x : Int32} {v : Int32} (hd : decode cc pc = .ok (.i2b, 1)) (hv : x.toInt8.toInt32 = v) (k : JJ κ nL G A cs ss Q (pc + 1) lv (.int v :: st) ws) : JJ κ nL G A cs ss Q pc lv (.int x :: st) ws :=
  fun H locs ls hP hD hS hl => lv_i2b X.2.1 X.2.2.1 hd hv (k H locs ls hP hD hS hl)
theorem j_i2s (X : CX κ l y cc nL own Ts ret rm G A) {x : Int32} {v : Int32} (hd : decode cc pc = .ok (.i2s, 1)) (hv : x.toInt16.toInt32 = v) (k : JJ κ nL G A cs ss Q (pc + 1) lv (.int v :: st) ws) : JJ κ nL G A cs ss Q pc lv (.int x :: st) ws :=
  fun H locs ls hP hD hS hl => lv_i2s X.2.1 X.2.2.1 hd hv (k H locs ls hP hD hS hl)
theorem j_iushr (X : CX κ l y cc nL own Ts ret rm G A) {x z v : Int32} (hd : decode cc pc = .ok (.iushr, 1)) (hv : (x.toUInt32 >>> (z.toUInt32 &&& Int32.toUInt32 31)).toInt32 = v) (k : JJ κ nL G A cs ss Q (pc + 1) lv (.int v :: st) ws) : JJ κ nL G A cs ss Q pc lv (.int z :: .int x :: st) ws :=
  fun H locs ls hP hD hS hl => lv_iushr X.2.1 X.2.2.1 hd hv (k H locs ls hP hD hS hl)
theorem j_lshr (X : CX κ l y cc nL own Ts ret rm G A) {x v : Int64} {z : Int32} (hd : decode cc pc = .ok (.lshr, 1)) (hv : x >>> (z.toInt64 &&& 63) = v) (k : JJ κ nL G A cs ss Q (pc + 1) lv (.long v :: st) ws) : JJ κ nL G A cs ss Q pc lv (.int z :: .long x :: st) ws :=
  fun H locs ls hP hD hS hl => lv_lshr X.2.1 X.2.2.1 hd hv (k H locs ls hP hD hS hl)
theorem j_lshl (X : CX κ l y cc nL own Ts ret rm G A) {x v : Int64} {z : Int32} (hd : decode cc pc = .ok (.lshl, 1)) (hv : x <<< (z.toInt64 &&& 63) = v) (k : JJ κ nL G A cs ss Q (pc + 1) lv (.long v :: st) ws) : JJ κ nL G A cs ss Q pc lv (.int z :: .long x :: st) ws :=
  fun H locs ls hP hD hS hl => lv_lshl X.2.1 X.2.2.1 hd hv (k H locs ls hP hD hS hl)
theorem j_lcmp (X : CX κ l y cc nL own Ts ret rm G A) {x z : Int64} (hd : decode cc pc = .ok (.lcmp, 1)) (k : JJ κ nL G A cs ss Q (pc + 1) lv (.int (lg_cmp x z) :: st) ws) : JJ κ nL G A cs ss Q pc lv (.long z :: .long x :: st) ws :=
  fun H locs ls hP hD hS hl => W.lcmp X.2.1 X.2.2.1 hd (k H locs ls hP hD hS hl)
theorem j_dup (X : CX κ l y cc nL own Ts ret rm G A) {a : Value} (hd : decode cc pc = .ok (.dup, 1)) (ha : a.category = 1) (k : JJ κ nL G A cs ss Q (pc + 1) lv (a :: a :: st) ws) : JJ κ nL G A cs ss Q pc lv (a :: st) ws :=
  fun H locs ls hP hD hS hl => lv_dup X.2.1 X.2.2.1 hd ha (k H locs ls hP hD hS hl)
theorem j_pop (X : CX κ l y cc nL own Ts ret rm G A) {a : Value} (hd : decode cc pc = .ok (.pop, 1)) (ha : a.category = 1) (k : JJ κ nL G A cs ss Q (pc + 1) lv st ws) : JJ κ nL G A cs ss Q pc lv (a :: st) ws :=
  fun H locs ls hP hD hS hl => lv_pop X.2.1 X.2.2.1 hd ha (k H locs ls hP hD hS hl)
theorem j_dup2 (X : CX κ l y cc nL own Ts ret rm G A) {a b : Value} (hd : decode cc pc = .ok (.dup2, 1)) (ha : a.category = 1) (hb2 : b.category = 1) (k : JJ κ nL G A cs ss Q (pc + 1) lv (a :: b :: a :: b :: st) ws) : JJ κ nL G A cs ss Q pc lv (a :: b :: st) ws :=
  fun H locs ls hP hD hS hl => lv_dup2_11 X.2.1 X.2.2.1 hd ha hb2 (k H locs ls hP hD hS hl)
theorem j_if_eq (X : CX κ l y cc nL own Ts ret rm G A) {x : Int32} {off : Int} {tgt : Nat} (hd : decode cc pc = .ok (.ifCond .eq off, 3)) (ht : (pc : Int) + off = (tgt : Int)) (kt : x = 0 → JJ κ nL G A cs ss Q tgt lv st ws) (kf : ¬ (x = 0) → JJ κ nL G A cs ss Q (pc + 3) lv st ws) : JJ κ nL G A cs ss Q pc lv (.int x :: st) ws :=
  fun H locs ls hP hD hS hl => lv_if_eq X.2.1 X.2.2.1 hd ht (fun c => kt c H locs ls hP hD hS hl) (fun c => kf c H locs ls hP hD hS hl)
theorem j_icmp_eq (X : CX κ l y cc nL own Ts ret rm G A) {x z : Int32} {off : Int} {tgt : Nat} (hd : decode cc pc = .ok (.if_icmp .eq off, 3)) (ht : (pc : Int) + off = (tgt : Int)) (kt : x = z → JJ κ nL G A cs ss Q tgt lv st ws) (kf : ¬ (x = z) → JJ κ nL G A cs ss Q (pc + 3) lv st ws) : JJ κ nL G A cs ss Q pc lv (.int z :: .int x :: st) ws :=
  fun H locs ls hP hD hS hl => lv_icmp_eq X.2.1 X.2.2.1 hd ht (fun c => kt c H locs ls hP hD hS hl) (fun c => kf c H locs ls hP hD hS hl)
theorem j_if_ne (X : CX κ l y cc nL own Ts ret rm G A) {x : Int32} {off : Int} {tgt : Nat} (hd : decode cc pc = .ok (.ifCond .ne off, 3)) (ht : (pc : Int) + off = (tgt : Int)) (kt : ¬ x = 0 → JJ κ nL G A cs ss Q tgt lv st ws) (kf : x = 0 → JJ κ nL G A cs ss Q (pc + 3) lv st ws) : JJ κ nL G A cs ss Q pc lv (.int x :: st) ws :=
  fun H locs ls hP hD hS hl => lv_if_ne X.2.1 X.2.2.1 hd ht (fun c => kt c H locs ls hP hD hS hl) (fun c => kf c H locs ls hP hD hS hl)
theorem j_icmp_ne (X : CX κ l y cc nL own Ts ret rm G A) {x z : Int32} {off : Int} {tgt : Nat} (hd : decode cc pc = .ok (.if_icmp .ne off, 3)) (ht : (pc : Int) + off = (tgt : Int)) (kt : ¬ x = z → JJ κ nL G A cs ss Q tgt lv st ws) (kf : x = z → JJ κ nL G A cs ss Q (pc + 3) lv st ws) : JJ κ nL G A cs ss Q pc lv (.int z :: .int x :: st) ws :=
  fun H locs ls hP hD hS hl => lv_icmp_ne X.2.1 X.2.2.1 hd ht (fun c => kt c H locs ls hP hD hS hl) (fun c => kf c H locs ls hP hD hS hl)
theorem j_if_lt (X : CX κ l y cc nL own Ts ret rm G A) {x : Int32} {off : Int} {tgt : Nat} (hd : decode cc pc = .ok (.ifCond .lt off, 3)) (ht : (pc : Int) + off = (tgt : Int)) (kt : x < 0 → JJ κ nL G A cs ss Q tgt lv st ws) (kf : ¬ (x < 0) → JJ κ nL G A cs ss Q (pc + 3) lv st ws) : JJ κ nL G A cs ss Q pc lv (.int x :: st) ws :=
  fun H locs ls hP hD hS hl => lv_if_lt X.2.1 X.2.2.1 hd ht (fun c => kt c H locs ls hP hD hS hl) (fun c => kf c H locs ls hP hD hS hl)
theorem j_icmp_lt (X : CX κ l y cc nL own Ts ret rm G A) {x z : Int32} {off : Int} {tgt : Nat} (hd : decode cc pc = .ok (.if_icmp .lt off, 3)) (ht : (pc : Int) + off = (tgt : Int)) (kt : x < z → JJ κ nL G A cs ss Q tgt lv st ws) (kf : ¬ (x < z) → JJ κ nL G A cs ss Q (pc + 3) lv st ws) : JJ κ nL G A cs ss Q pc lv (.int z :: .int x :: st) ws :=
  fun H locs ls hP hD hS hl => lv_icmp_lt X.2.1 X.2.2.1 hd ht (fun c => kt c H locs ls hP hD hS hl) (fun c => kf c H locs ls hP hD hS hl)
theorem j_if_ge (X : CX κ l y cc nL own Ts ret rm G A) {x : Int32} {off : Int} {tgt : Nat} (hd : decode cc pc = .ok (.ifCond .ge off, 3)) (ht : (pc : Int) + off = (tgt : Int)) (kt : 0 ≤ x → JJ κ nL G A cs ss Q tgt lv st ws) (kf : ¬ (0 ≤ x) → JJ κ nL G A cs ss Q (pc + 3) lv st ws) : JJ κ nL G A cs ss Q pc lv (.int x :: st) ws :=
  fun H locs ls hP hD hS hl => lv_if_ge X.2.1 X.2.2.1 hd ht (fun c => kt c H locs ls hP hD hS hl) (fun c => kf c H locs ls hP hD hS hl)
theorem j_icmp_ge (X : CX κ l y cc nL own Ts ret rm G A) {x z : Int32} {off : Int} {tgt : Nat} (hd : decode cc pc = .ok (.if_icmp .ge off, 3)) (ht : (pc : Int) + off = (tgt : Int)) (kt : z ≤ x → JJ κ nL G A cs ss Q tgt lv st ws) (kf : ¬ (z ≤ x) → JJ κ nL G A cs ss Q (pc + 3) lv st ws) : JJ κ nL G A cs ss Q pc lv (.int z :: .int x :: st) ws :=
  fun H locs ls hP hD hS hl => lv_icmp_ge X.2.1 X.2.2.1 hd ht (fun c => kt c H locs ls hP hD hS hl) (fun c => kf c H locs ls hP hD hS hl)
theorem j_if_gt (X : CX κ l y cc nL own Ts ret rm G A) {x : Int32} {off : Int} {tgt : Nat} (hd : decode cc pc = .ok (.ifCond .gt off, 3)) (ht : (pc : Int) + off = (tgt : Int)) (kt : 0 < x → JJ κ nL G A cs ss Q tgt lv st ws) (kf : ¬ (0 < x) → JJ κ nL G A cs ss Q (pc + 3) lv st ws) : JJ κ nL G A cs ss Q pc lv (.int x :: st) ws :=
  fun H locs ls hP hD hS hl => lv_if_gt X.2.1 X.2.2.1 hd ht (fun c => kt c H locs ls hP hD hS hl) (fun c => kf c H locs ls hP hD hS hl)
theorem j_icmp_gt (X : CX κ l y cc nL own Ts ret rm G A) {x z : Int32} {off : Int} {tgt : Nat} (hd : decode cc pc = .ok (.if_icmp .gt off, 3)) (ht : (pc : Int) + off = (tgt : Int)) (kt : z < x → JJ κ nL G A cs ss Q tgt lv st ws) (kf : ¬ (z < x) → JJ κ nL G A cs ss Q (pc + 3) lv st ws) : JJ κ nL G A cs ss Q pc lv (.int z :: .int x :: st) ws :=
  fun H locs ls hP hD hS hl => lv_icmp_gt X.2.1 X.2.2.1 hd ht (fun c => kt c H locs ls hP hD hS hl) (fun c => kf c H locs ls hP hD hS hl)
theorem j_if_le (X : CX κ l y cc nL own Ts ret rm G A) {x : Int32} {off : Int} {tgt : Nat} (hd : decode cc pc = .ok (.ifCond .le off, 3)) (ht : (pc : Int) + off = (tgt : Int)) (kt : x ≤ 0 → JJ κ nL G A cs ss Q tgt lv st ws) (kf : ¬ (x ≤ 0) → JJ κ nL G A cs ss Q (pc + 3) lv st ws) : JJ κ nL G A cs ss Q pc lv (.int x :: st) ws :=
  fun H locs ls hP hD hS hl => lv_if_le X.2.1 X.2.2.1 hd ht (fun c => kt c H locs ls hP hD hS hl) (fun c => kf c H locs ls hP hD hS hl)
theorem j_icmp_le (X : CX κ l y cc nL own Ts ret rm G A) {x z : Int32} {off : Int} {tgt : Nat} (hd : decode cc pc = .ok (.if_icmp .le off, 3)) (ht : (pc : Int) + off = (tgt : Int)) (kt : x ≤ z → JJ κ nL G A cs ss Q tgt lv st ws) (kf : ¬ (x ≤ z) → JJ κ nL G A cs ss Q (pc + 3) lv st ws) : JJ κ nL G A cs ss Q pc lv (.int z :: .int x :: st) ws :=
  fun H locs ls hP hD hS hl => lv_icmp_le X.2.1 X.2.2.1 hd ht (fun c => kt c H locs ls hP hD hS hl) (fun c => kf c H locs ls hP hD hS hl)
theorem j_goto (X : CX κ l y cc nL own Ts ret rm G A) {off : Int} {tgt : Nat} (hd : decode cc pc = .ok (.goto off, 3)) (ht : (pc : Int) + off = (tgt : Int)) (k : JJ κ nL G A cs ss Q tgt lv st ws) : JJ κ nL G A cs ss Q pc lv st ws :=
  fun H locs ls hP hD hS hl => lv_goto X.2.1 X.2.2.1 hd ht (k H locs ls hP hD hS hl)
theorem j_ldc2 (X : CX κ l y cc nL own Ts ret rm G A) {index : Nat} {v : Int64} (hd : decode cc pc = .ok (.ldc2_w index, 3)) (hc : Cond.constantLong own index v ∈ Ts) (k : JJ κ nL G A cs ss Q (pc + 3) lv (.long v :: st) ws) : JJ κ nL G A cs ss Q pc lv st ws :=
  fun H locs ls hP hD hS hl => lv_ldc2 X.2.1 X.2.2.1 X.2.2.2.2.1 (X.2.2.2.2.2.1 _ hc) hd (k H locs ls hP hD hS hl)
theorem j_ldcw (X : CX κ l y cc nL own Ts ret rm G A) {index : Nat} {v : Int32} (hd : decode cc pc = .ok (.ldc_w index, 3)) (hc : Cond.constant own index v ∈ Ts) (k : JJ κ nL G A cs ss Q (pc + 3) lv (.int v :: st) ws) : JJ κ nL G A cs ss Q pc lv st ws :=
  fun H locs ls hP hD hS hl => lv_ldcw X.2.1 X.2.2.1 X.2.2.2.2.1 (X.2.2.2.2.2.1 _ hc) hd (k H locs ls hP hD hS hl)
theorem j_topi {x z : Int32} (h : x = z) (k : JJ κ nL G A cs ss Q pc lv (.int z :: st) ws) : JJ κ nL G A cs ss Q pc lv (.int x :: st) ws := h ▸ k
theorem j_topl {x z : Int64} (h : x = z) (k : JJ κ nL G A cs ss Q pc lv (.long z :: st) ws) : JJ κ nL G A cs ss Q pc lv (.long x :: st) ws := h ▸ k
theorem j_st {st2 : List Value} (h : st = st2) (k : JJ κ nL G A cs ss Q pc lv st2 ws) : JJ κ nL G A cs ss Q pc lv st ws := h ▸ k
theorem j_ws (h : ws = ws') (k : JJ κ nL G A cs ss Q pc lv st ws') : JJ κ nL G A cs ss Q pc lv st ws := h ▸ k
theorem j_lvq (h : lv = lv') (k : JJ κ nL G A cs ss Q pc lv' st ws) : JJ κ nL G A cs ss Q pc lv st ws := h ▸ k
theorem j_lv (ks : List Nat) (h : lv_pick lv ks = lv') (k : JJ κ nL G A cs ss Q pc lv' st ws) : JJ κ nL G A cs ss Q pc lv st ws := fun H locs ls hP hD hS hl => k H locs ls hP hD hS (lv_sub hl ks h)
theorem j_wid {a b : Nat} (h1 : cs ≤ a) (h2 : ss ≤ b) (k : JJ κ nL G A a b Q pc lv st ws) : JJ κ nL G A cs ss Q pc lv st ws := fun H locs ls hP hD hS hl => W.widen h1 h2 (k H locs ls hP hD hS hl)
theorem j_pc {pc2 : Nat} (h : pc = pc2) (k : JJ κ nL G A cs ss Q pc2 lv st ws) : JJ κ nL G A cs ss Q pc lv st ws := h ▸ k
theorem j_get (X : CX κ l y cc nL own Ts ret rm G A) {a : Nat} {C : String} {T : u_T} {N : Nat} (ci : Nat) {index : Nat} (hin : ∀ w ∈ u_ws C T N, w ∈ Ts) (q0 : Nat) {fs : List Value} (he : ws[q0]? = some (a, .inr (ci, fs))) (hc : vwCl[ci]? = some (C, T, N)) (k0 : Nat) (hk : k0 < N) (hlink : Cond.fieldLink own index (T k0).1 (T k0).2.1 (T k0).2.2.1 ∈ Ts) {v : Value} (hv : fs[k0]? = some v) (hd : decode cc pc = .ok (.getfield index, 3)) (k : JJ κ nL G A cs ss Q (pc + 3) lv (v :: st) ws) : JJ κ nL G A cs ss Q pc lv (.ref a :: st) ws :=
  fun H locs ls hP hD hS hl => va_get X.2.1 X.2.2.1 X.2.2.2.2.2.1 hin X.2.2.2.2.1 X.2.2.2.2.2.2.1.1 hP q0 he hc k0 hk (X.2.2.2.2.2.1 _ hlink) (fun _ h9 => h9) hv hd (k H locs ls hP hD hS hl)
theorem j_getN (X : CX κ l y cc nL own Ts ret rm G A) {a : Nat} {C : String} {T : u_T} {N : Nat} (ci : Nat) {index : Nat} (hin : ∀ w ∈ u_ws C T N, w ∈ Ts) (q0 : Nat) {fs : List Value} (he : ws[q0]? = some (a, .inr (ci, fs))) (hc : vwCl[ci]? = some (C, T, N)) (k0 : Nat) (hk : k0 < N) (hlink : (own, index, (T k0).1, (T k0).2.1, (T k0).2.2.1, "MentorPairs") ∈ jNf) {v : Value} (hv : fs[k0]? = some v) (hd : decode cc pc = .ok (.getfield index, 3)) (k : JJ κ nL G A cs ss Q (pc + 3) lv (v :: st) ws) : JJ κ nL G A cs ss Q pc lv (.ref a :: st) ws :=
  fun H locs ls hP hD hS hl => va_getN (host := "MentorPairs") X.2.1 X.2.2.1 X.2.2.2.2.2.1 hin X.2.2.2.2.1 X.2.2.2.2.2.2.1.1 hP q0 he hc k0 hk (va_Nw.use rfl (X.2.2.2.2.2.2.1.2.1 _ hlink)) (fun _ h9 => h9) hv hd (k H locs ls hP hD hS hl)
theorem j_put (X : CX κ l y cc nL own Ts ret rm G A) {a : Nat} {C : String} {T : u_T} {N : Nat} (ci : Nat) {index : Nat} (hin : ∀ w ∈ u_ws C T N, w ∈ Ts) (ty0 : Nat → FieldType) (hty : ∀ k, k < N → parseFieldDescriptor (T k).2.2.1 = some (ty0 k)) (hnm : ∀ a, a < N → ∀ b, b < N → a ≠ b → (T a).2.1 ≠ (T b).2.1) (q0 : Nat) {fs : List Value} (he : ws[q0]? = some (a, .inr (ci, fs))) (hc : vwCl[ci]? = some (C, T, N)) (k0 : Nat) (hk : k0 < N) (hlink : Cond.fieldLink own index (T k0).1 (T k0).2.1 (T k0).2.2.1 ∈ Ts) (hfin : (T k0).2.2.2 = false) {v : Value} (hn : narrow (ty0 k0) v = v) (hfit : fits (ty0 k0) v = true) (hl0 : k0 < fs.length) (hd : decode cc pc = .ok (.putfield index, 3)) (hw : ws.set q0 (a, .inr (ci, fs.set k0 v)) = ws') (k : JJ κ nL G A cs ss Q (pc + 3) lv st ws') : JJ κ nL G A cs ss Q pc lv (v :: .ref a :: st) ws :=
  fun H locs ls hP hD hS hl => va_put X.2.1 X.2.2.1 X.2.2.2.2.2.1 hin ty0 hty hnm X.2.2.2.2.1 X.2.2.2.2.2.2.1.1 hP hD hS q0 he hc k0 hk (X.2.2.2.2.2.1 _ hlink) (fun _ h9 => h9) hfin (hty k0 hk) hn hfit hl0 hd (fun H1 locs1 hP1 hD1 hS1 => k H1 locs1 ls (hw ▸ hP1) (hw ▸ hD1) hS1 hl)
theorem j_putN (X : CX κ l y cc nL own Ts ret rm G A) {a : Nat} {C : String} {T : u_T} {N : Nat} (ci : Nat) {index : Nat} (hin : ∀ w ∈ u_ws C T N, w ∈ Ts) (ty0 : Nat → FieldType) (hty : ∀ k, k < N → parseFieldDescriptor (T k).2.2.1 = some (ty0 k)) (hnm : ∀ a, a < N → ∀ b, b < N → a ≠ b → (T a).2.1 ≠ (T b).2.1) (q0 : Nat) {fs : List Value} (he : ws[q0]? = some (a, .inr (ci, fs))) (hc : vwCl[ci]? = some (C, T, N)) (k0 : Nat) (hk : k0 < N) (hlink : (own, index, (T k0).1, (T k0).2.1, (T k0).2.2.1, "MentorPairs") ∈ jNf) (hfin : (T k0).2.2.2 = false) {v : Value} (hn : narrow (ty0 k0) v = v) (hfit : fits (ty0 k0) v = true) (hl0 : k0 < fs.length) (hd : decode cc pc = .ok (.putfield index, 3)) (hw : ws.set q0 (a, .inr (ci, fs.set k0 v)) = ws') (k : JJ κ nL G A cs ss Q (pc + 3) lv st ws') : JJ κ nL G A cs ss Q pc lv (v :: .ref a :: st) ws :=
  fun H locs ls hP hD hS hl => va_putN (host := "MentorPairs") X.2.1 X.2.2.1 X.2.2.2.2.2.1 hin ty0 hty hnm X.2.2.2.2.1 X.2.2.2.2.2.2.1.1 hP hD hS q0 he hc k0 hk (va_Nw.use rfl (X.2.2.2.2.2.2.1.2.1 _ hlink)) (fun _ h9 => h9) hfin (hty k0 hk) hn hfit hl0 hd (fun H1 locs1 hP1 hD1 hS1 => k H1 locs1 ls (hw ▸ hP1) (hw ▸ hD1) hS1 hl)
theorem j_putF (X : CX κ l y cc nL own Ts ret rm G A) {a : Nat} {C : String} {T : u_T} {N : Nat} (ci : Nat) {index : Nat} (hin : ∀ w ∈ u_ws C T N, w ∈ Ts) (ty0 : Nat → FieldType) (hty : ∀ k, k < N → parseFieldDescriptor (T k).2.2.1 = some (ty0 k)) (hnm : ∀ a, a < N → ∀ b, b < N → a ≠ b → (T a).2.1 ≠ (T b).2.1) (q0 : Nat) {fs : List Value} (he : ws[q0]? = some (a, .inr (ci, fs))) (hc : vwCl[ci]? = some (C, T, N)) (k0 : Nat) (hk : k0 < N) (hlink : Cond.fieldLink own index (T k0).1 (T k0).2.1 (T k0).2.2.1 ∈ Ts) (hfin : (T k0).2.2.2 = true) (hnm2 : y.name = "<init>") (hdecl : (T k0).1 = own) {v : Value} (hn : narrow (ty0 k0) v = v) (hfit : fits (ty0 k0) v = true) (hl0 : k0 < fs.length) (hd : decode cc pc = .ok (.putfield index, 3)) (hw : ws.set q0 (a, .inr (ci, fs.set k0 v)) = ws') (k : JJ κ nL G A cs ss Q (pc + 3) lv st ws') : JJ κ nL G A cs ss Q pc lv (v :: .ref a :: st) ws :=
  fun H locs ls hP hD hS hl => va_putF X.2.1 X.2.2.1 X.2.2.2.2.2.1 hin ty0 hty hnm X.2.2.2.2.1 X.2.2.2.2.2.2.1.1 hP hD hS q0 he hc k0 hk (X.2.2.2.2.2.1 _ hlink) (fun _ h9 => h9) hfin (X.2.2.2.2.2.2.2.2.2.2.trans hnm2) hdecl (hty k0 hk) hn hfit hl0 hd (fun H1 locs1 hP1 hD1 hS1 => k H1 locs1 ls (hw ▸ hP1) (hw ▸ hD1) hS1 hl)
theorem j_iald (X : CX κ l y cc nL own Ts ret rm G A) {a : Nat} (q0 : Nat) {n : Nat} {f : Nat → Int32} (ha : ws[q0]? = some (a, .inl (G.2.1, n, .inl f))) {i : Int32} (hin : vp_in i n) {v : Int32} (hv : f i.toNatClampNeg = v) (hd : decode cc pc = .ok (.iaload, 1)) (k : JJ κ nL G A cs ss Q (pc + 1) lv (.int v :: st) ws) : JJ κ nL G A cs ss Q pc lv (.int i :: .ref a :: st) ws :=
  fun H locs ls hP hD hS hl => va_iald X.2.1 X.2.2.1 X.2.2.2.2.2.2.1.1 hP q0 0 ha rfl hin hd (by rw [hv]; exact (k H locs ls hP hD hS hl))
theorem j_zald (X : CX κ l y cc nL own Ts ret rm G A) {a : Nat} (q0 : Nat) {n : Nat} {f : Nat → Int32} (ha : ws[q0]? = some (a, .inl (G.2.2.2.1, n, .inl f))) {i : Int32} (hin : vp_in i n) {v : Int32} (hv : f i.toNatClampNeg = v) (hd : decode cc pc = .ok (.baload, 1)) (k : JJ κ nL G A cs ss Q (pc + 1) lv (.int v :: st) ws) : JJ κ nL G A cs ss Q pc lv (.int i :: .ref a :: st) ws :=
  fun H locs ls hP hD hS hl => va_zald X.2.1 X.2.2.1 X.2.2.2.2.2.2.1.1 hP q0 2 ha rfl hin hd (by rw [hv]; exact (k H locs ls hP hD hS hl))
theorem j_lald (X : CX κ l y cc nL own Ts ret rm G A) {a : Nat} (q0 : Nat) {n : Nat} {f : Nat → Int64} (ha : ws[q0]? = some (a, .inl (G.2.2.1, n, .inr (.inl f)))) {i : Int32} (hin : vp_in i n) {v : Int64} (hv : f i.toNatClampNeg = v) (hd : decode cc pc = .ok (.laload, 1)) (k : JJ κ nL G A cs ss Q (pc + 1) lv (.long v :: st) ws) : JJ κ nL G A cs ss Q pc lv (.int i :: .ref a :: st) ws :=
  fun H locs ls hP hD hS hl => va_lald X.2.1 X.2.2.1 X.2.2.2.2.2.2.1.1 hP q0 1 ha rfl hin hd (by rw [hv]; exact (k H locs ls hP hD hS hl))
theorem j_iast (X : CX κ l y cc nL own Ts ret rm G A) {a : Nat} (q0 : Nat) {n : Nat} {f f2 : Nat → Int32} (ha : ws[q0]? = some (a, .inl (G.2.1, n, .inl f))) {i : Int32} {x : Int32} (hin : vp_in i n) (hd : decode cc pc = .ok (.iastore, 1)) (hf : upd f i.toNatClampNeg x = f2) (hw : ws.set q0 (a, .inl (G.2.1, n, .inl f2)) = ws') (k : JJ κ nL G A cs ss Q (pc + 1) lv st ws') : JJ κ nL G A cs ss Q pc lv (.int x :: .int i :: .ref a :: st) ws := by
  subst hf; subst hw
  exact fun H locs ls hP hD hS hl => va_iast X.2.1 X.2.2.1 X.2.2.2.2.2.2.1.1 hP hD hS q0 0 ha rfl hin hd (fun H1 locs1 hP1 hD1 hS1 => k H1 locs1 ls hP1 hD1 hS1 hl)
theorem j_last (X : CX κ l y cc nL own Ts ret rm G A) {a : Nat} (q0 : Nat) {n : Nat} {f f2 : Nat → Int64} (ha : ws[q0]? = some (a, .inl (G.2.2.1, n, .inr (.inl f)))) {i : Int32} {x : Int64} (hin : vp_in i n) (hd : decode cc pc = .ok (.lastore, 1)) (hf : vp_updL f i.toNatClampNeg x = f2) (hw : ws.set q0 (a, .inl (G.2.2.1, n, .inr (.inl f2))) = ws') (k : JJ κ nL G A cs ss Q (pc + 1) lv st ws') : JJ κ nL G A cs ss Q pc lv (.long x :: .int i :: .ref a :: st) ws := by
  subst hf; subst hw
  exact fun H locs ls hP hD hS hl => va_last X.2.1 X.2.2.1 X.2.2.2.2.2.2.1.1 hP hD hS q0 1 ha rfl hin hd (fun H1 locs1 hP1 hD1 hS1 => k H1 locs1 ls hP1 hD1 hS1 hl)
theorem j_ishl (X : CX κ l y cc nL own Ts ret rm G A) {x z : Int32} (hd : decode cc pc = .ok (.ishl, 1)) (k : JJ κ nL G A cs ss Q (pc + 1) lv (.int (x <<< (z &&& 31)) :: st) ws) : JJ κ nL G A cs ss Q pc lv (.int z :: .int x :: st) ws :=
  fun H locs ls hP hD hS hl => lv_ishl X.2.1 X.2.2.1 hd (k H locs ls hP hD hS hl)
theorem j_ishr (X : CX κ l y cc nL own Ts ret rm G A) {x z : Int32} (hd : decode cc pc = .ok (.ishr, 1)) (k : JJ κ nL G A cs ss Q (pc + 1) lv (.int (x >>> (z &&& 31)) :: st) ws) : JJ κ nL G A cs ss Q pc lv (.int z :: .int x :: st) ws :=
  fun H locs ls hP hD hS hl => lv_ishr X.2.1 X.2.2.1 hd (k H locs ls hP hD hS hl)
theorem j_irem (X : CX κ l y cc nL own Ts ret rm G A) {x z : Int32} (hd : decode cc pc = .ok (.irem, 1)) (hne : ¬ z = 0) (k : JJ κ nL G A cs ss Q (pc + 1) lv (.int (x - x / z * z) :: st) ws) : JJ κ nL G A cs ss Q pc lv (.int z :: .int x :: st) ws :=
  fun H locs ls hP hD hS hl => lv_irem X.2.1 X.2.2.1 hd hne (k H locs ls hP hD hS hl)
theorem j_lrem (X : CX κ l y cc nL own Ts ret rm G A) {x z : Int64} (hd : decode cc pc = .ok (.lrem, 1)) (hne : ¬ z = 0) (k : JJ κ nL G A cs ss Q (pc + 1) lv (.long (x - x / z * z) :: st) ws) : JJ κ nL G A cs ss Q pc lv (.long z :: .long x :: st) ws :=
  fun H locs ls hP hD hS hl => lv_lrem X.2.1 X.2.2.1 hd hne (k H locs ls hP hD hS hl)
theorem j_zast (X : CX κ l y cc nL own Ts ret rm G A) {a : Nat} (q0 : Nat) {n : Nat} {f f2 : Nat → Int32} (ha : ws[q0]? = some (a, .inl (G.2.2.2.1, n, .inl f))) {i : Int32} {x : Int32} (hin : vp_in i n) (hd : decode cc pc = .ok (.bastore, 1)) (hz : vp_nar .boolean x = x) (hf : upd f i.toNatClampNeg x = f2) (hw : ws.set q0 (a, .inl (G.2.2.2.1, n, .inl f2)) = ws') (k : JJ κ nL G A cs ss Q (pc + 1) lv st ws') : JJ κ nL G A cs ss Q pc lv (.int x :: .int i :: .ref a :: st) ws := by
  subst hf; subst hw
  exact fun H locs ls hP hD hS hl => va_zast X.2.1 X.2.2.1 X.2.2.2.2.2.2.1.1 hP hD hS q0 2 ha rfl hin hd (by rw [hz]; exact fun H1 locs1 hP1 hD1 hS1 => k H1 locs1 ls hP1 hD1 hS1 hl)
theorem j_aldq (X : CX κ l y cc nL own Ts ret rm G A) {a : Nat} (q0 : Nat) {n : Nat} {f : Nat → Option Nat} (ha : ws[q0]? = some (a, .inl (G.2.2.2.2, n, .inr (.inr (.inr (.inr f)))))) {i : Int32} (hin : vp_in i n) {v : Nat} (hv : f i.toNatClampNeg = some v) (hd : decode cc pc = .ok (.aaload, 1)) (k : JJ κ nL G A cs ss Q (pc + 1) lv (.ref v :: st) ws) : JJ κ nL G A cs ss Q pc lv (.int i :: .ref a :: st) ws :=
  fun H locs ls hP hD hS hl => va_aldq X.2.1 X.2.2.1 X.2.2.2.2.2.2.1.1 hP q0 3 ha rfl hin hd (by rw [hv]; exact (k H locs ls hP hD hS hl))
theorem j_alenI (X : CX κ l y cc nL own Ts ret rm G A) {a : Nat} (q0 : Nat) {n : Nat} {f : Nat → Int32} (ha : ws[q0]? = some (a, .inl (G.2.1, n, .inl f))) (hd : decode cc pc = .ok (.arraylength, 1)) (k : JJ κ nL G A cs ss Q (pc + 1) lv (.int (nI n) :: st) ws) : JJ κ nL G A cs ss Q pc lv (.ref a :: st) ws :=
  fun H locs ls hP hD hS hl => va_alen X.2.1 X.2.2.1 X.2.2.2.2.2.2.1.1 hP q0 0 ha rfl rfl hd (k H locs ls hP hD hS hl)
theorem j_alenJ (X : CX κ l y cc nL own Ts ret rm G A) {a : Nat} (q0 : Nat) {n : Nat} {f : Nat → Int64} (ha : ws[q0]? = some (a, .inl (G.2.2.1, n, .inr (.inl f)))) (hd : decode cc pc = .ok (.arraylength, 1)) (k : JJ κ nL G A cs ss Q (pc + 1) lv (.int (nI n) :: st) ws) : JJ κ nL G A cs ss Q pc lv (.ref a :: st) ws :=
  fun H locs ls hP hD hS hl => va_alen X.2.1 X.2.2.1 X.2.2.2.2.2.2.1.1 hP q0 1 ha rfl rfl hd (k H locs ls hP hD hS hl)
end JR
section JE
variable {κ : jK} {l : Launch} {y : MethodName} {cc : ByteArray} {nL : Nat} {own : String} {Ts : List Cond} {ret : Option FieldType} {rm : Room} {G : jG} {mc ms : Nat} {pc : Nat} {lv : List (Nat × Value)} {ws w0 : va_W} {Qr : Option Value → va_W → Prop}
theorem j_iret (X : CX κ l y cc nL own Ts (some .int) rm G (va_A w0 (js κ).heap.size)) {v : Int32} (hd : decode cc pc = .ok (.ireturn, 1)) (hq : Qr (some (.int v)) ws) : JJ κ nL G (va_A w0 (js κ).heap.size) mc ms (jQ κ G w0 Qr mc ms) pc lv [.int v] ws :=
  fun H locs ls hP hD hS hl => W.iret X.2.1 X.2.2.1 X.2.2.2.2.2.2.2.2.2.1 (fun t ht hW => ⟨⟨_, ws, rfl, hq, by rw [ht]; exact hP, hD⟩, hS.F ht⟩) hS.2.2 hd X.2.2.2.2.2.2.2.2.1
theorem j_zret (X : CX κ l y cc nL own Ts (some .boolean) rm G (va_A w0 (js κ).heap.size)) {v : Int32} (hn : narrow .boolean (.int v) = .int v) (hd : decode cc pc = .ok (.ireturn, 1)) (hq : Qr (some (.int v)) ws) : JJ κ nL G (va_A w0 (js κ).heap.size) mc ms (jQ κ G w0 Qr mc ms) pc lv [.int v] ws :=
  fun H locs ls hP hD hS hl => W.zret X.2.1 X.2.2.1 X.2.2.2.2.2.2.2.2.2.1 hn (fun t ht hW => ⟨⟨_, ws, rfl, hq, by rw [ht]; exact hP, hD⟩, hS.F ht⟩) hS.2.2 hd X.2.2.2.2.2.2.2.2.1
theorem j_lret (X : CX κ l y cc nL own Ts (some .long) rm G (va_A w0 (js κ).heap.size)) {v : Int64} (hd : decode cc pc = .ok (.lreturn, 1)) (hq : Qr (some (.long v)) ws) : JJ κ nL G (va_A w0 (js κ).heap.size) mc ms (jQ κ G w0 Qr mc ms) pc lv [.long v] ws :=
  fun H locs ls hP hD hS hl => W.lret X.2.1 X.2.2.1 X.2.2.2.2.2.2.2.2.2.1 (fun t ht hW => ⟨⟨_, ws, rfl, hq, by rw [ht]; exact hP, hD⟩, hS.F ht⟩) hS.2.2 hd X.2.2.2.2.2.2.2.2.1
theorem j_vret (X : CX κ l y cc nL own Ts none rm G (va_A w0 (js κ).heap.size)) (hd : decode cc pc = .ok (.return_, 1)) (hq : Qr none ws) : JJ κ nL G (va_A w0 (js κ).heap.size) mc ms (jQ κ G w0 Qr mc ms) pc lv [] ws :=
  fun H locs ls hP hD hS hl => W.vret X.2.1 X.2.2.1 X.2.2.2.2.2.2.2.2.2.1 (fun t ht hW => ⟨⟨_, ws, rfl, hq, by rw [ht]; exact hP, hD⟩, hS.F ht⟩) hS.2.2 hd X.2.2.2.2.2.2.2.2.1
end JE
/-- the cells at the places isC, anew -/
def jrepA : List Nat → va_W → va_W → va_W
  | [], _, ws => ws
  | i :: is, qs, ws => match qs with
    | [] => ws
    | q :: qs => jrepA is qs (ws.set i q)
def jrep (ws : va_W) (is : List Nat) (qs : va_W) : va_W := jrepA is qs ws
theorem jset_same {α : Type} (l : List α) (i : Nat) (a : α) (h : l[i]? = some a) : l.set i a = l := by
  refine List.ext_getElem? (fun j => ?_)
  rw [List.getElem?_set]
  split
  · rename_i hij
    subst hij
    split
    · exact h.symm
    · rename_i hh
      exact (List.getElem?_eq_none (Nat.le_of_not_lt hh)).symm
  · rfl
theorem jrep_fst : ∀ (is : List Nat) (qs ws : va_W), (is.map (fun i => (ws.map Prod.fst)[i]?)) = qs.map (fun q => some q.1) → (jrepA is qs ws).map Prod.fst = ws.map Prod.fst
  | [], _, _, _ => rfl
  | i :: is, [], ws, h => by simp at h
  | i :: is, q :: qs, ws, h => by
    simp only [List.map_cons, List.cons.injEq] at h
    have e : (ws.set i q).map Prod.fst = ws.map Prod.fst := by
      rw [List.map_set]
      exact jset_same _ _ _ h.1
    have h2 := jrep_fst is qs (ws.set i q) (by rw [e]; exact h.2)
    rw [e] at h2
    exact h2
theorem jrep_at : ∀ (is : List Nat) (qs ws : va_W), is.length = qs.length → ∀ (k : Nat) (q : Nat × va_E), (jrepA is qs ws)[k]? = some q → (q ∈ qs) ∨ (k ∉ is ∧ ws[k]? = some q)
  | [], _, _, _, k, q, h => Or.inr ⟨List.not_mem_nil, h⟩
  | i :: is, [], _, h, _, _, _ => by simp at h
  | i :: is, q0 :: qs, ws, hlen, k, q, h => by
    rcases jrep_at is qs (ws.set i q0) (by simpa using hlen) k q h with h1 | ⟨h1, h2⟩
    · exact Or.inl (List.mem_cons_of_mem _ h1)
    · rw [List.getElem?_set] at h2
      split at h2
      · split at h2
        · cases h2
          exact Or.inl List.mem_cons_self
        · cases h2
      · rename_i hne
        refine Or.inr ⟨fun hm => ?_, h2⟩
        rcases List.mem_cons.mp hm with e | e
        · exact hne e.symm
        · exact h1 e
theorem va_D.fst {A : Nat → Prop} {ws ws' : va_W} (h : va_D A ws) (e : ws'.map Prod.fst = ws.map Prod.fst) : va_D A ws' := by
  have key : ∀ (k : Nat) (q : Nat × va_E), ws'[k]? = some q → ∃ q0, ws[k]? = some q0 ∧ q0.1 = q.1 := by
    intro k q hk
    have h1 : (ws'.map Prod.fst)[k]? = some q.1 := by rw [List.getElem?_map, hk]; rfl
    rw [e, List.getElem?_map] at h1
    cases h2 : ws[k]? with
    | none => rw [h2] at h1; cases h1
    | some q0 => rw [h2] at h1; exact ⟨q0, rfl, Option.some.inj h1⟩
  refine ⟨fun i j a b ha hb hab => ?_, fun k q hk => ?_⟩
  · obtain ⟨a0, h1, h2⟩ := key i a ha
    obtain ⟨b0, h3, h4⟩ := key j b hb
    exact h.1 i j a0 b0 h1 h3 (by rw [h2, h4, hab])
  · obtain ⟨q0, h1, h2⟩ := key k q hk
    rw [← h2]
    exact h.2 k q0 h1
theorem j_repl {A : Nat → Prop} {D : va_G} {ws w w1 : va_W} {H H1 : Heap} (hP : va_P D vwCl ws H) (hD : va_D A ws) (isC : List Nat) (hC : isC.map (fun i => ws[i]?) = w.map some) (hf : w1.map Prod.fst = w.map Prod.fst)
    (hk : ∀ q : Nat, q < H.size → ¬ va_A w H.size q → H1[q]? = H[q]?) (hP1 : va_P D vwCl w1 H1) : va_P D vwCl (jrep ws isC w1) H1 ∧ va_D A (jrep ws isC w1) := by
  have hfst : isC.map (fun i => (ws.map Prod.fst)[i]?) = w1.map (fun q => some q.1) := by
    have e1 : isC.map (fun i => (ws.map Prod.fst)[i]?) = (isC.map (fun i => ws[i]?)).map (fun o => o.map Prod.fst) := by
      rw [List.map_map]; exact List.map_congr_left (fun i _ => by simp [List.getElem?_map])
    have e2 : w1.map (fun q => some q.1) = (w1.map Prod.fst).map some := by rw [List.map_map]; rfl
    rw [e1, hC, e2, hf, List.map_map, List.map_map]; rfl
  have hlen : isC.length = w1.length := by
    have h1 := congrArg List.length hC
    have h2 := congrArg List.length hf
    simp only [List.length_map] at h1 h2
    omega
  have at' : ∀ (i : Nat), i ∈ isC → ∀ q, ws[i]? = some q → ∃ k : Nat, w[k]? = some q := by
    intro i hi q hq
    obtain ⟨k, hk⟩ := List.getElem?_of_mem hi
    have h1 : (isC.map (fun i => ws[i]?))[k]? = some (some q) := by rw [List.getElem?_map, hk, ← hq]; rfl
    rw [hC, List.getElem?_map] at h1
    cases h2 : w[k]? with
    | none => rw [h2] at h1; cases h1
    | some q0 => rw [h2] at h1; exact ⟨k, by rw [h2]; exact Option.some.inj h1⟩
  have back : ∀ (k : Nat) (q : Nat × va_E), w[k]? = some q → ∃ i : Nat, i ∈ isC ∧ ws[i]? = some q := by
    intro k q hq
    have h1 : (isC.map (fun i => ws[i]?))[k]? = some (some q) := by rw [hC, List.getElem?_map, hq]; rfl
    rw [List.getElem?_map] at h1
    cases hi : isC[k]? with
    | none => rw [hi] at h1; cases h1
    | some i => rw [hi] at h1; exact ⟨i, List.mem_of_getElem? hi, Option.some.inj h1⟩
  refine ⟨fun k q hq => ?_, hD.fst (jrep_fst isC w1 ws hfst)⟩
  rcases jrep_at isC w1 ws hlen k q hq with h | ⟨h1, h2⟩
  · obtain ⟨j, hj⟩ := List.getElem?_of_mem h
    exact hP1 j q hj
  · have hl := (hP k q h2).lt
    refine (hP k q h2).kept (hk q.1 hl (fun z => ?_))
    rcases z with ⟨j, e, h3⟩ | h3
    · obtain ⟨i, hi, h4⟩ := back j (q.1, e) h3
      have e5 := hD.1 k i q (q.1, e) h2 h4 rfl
      subst e5
      exact h1 hi
    · omega
theorem jsubP {D : va_G} {ws w : va_W} {H : Heap} (hP : va_P D vwCl ws H) (isC : List Nat) (hC : isC.map (fun i => ws[i]?) = w.map some) : va_P D vwCl w H := by
  intro k q hq
  have h1 : (isC.map (fun i => ws[i]?))[k]? = some (some q) := by rw [hC, List.getElem?_map, hq]; rfl
  rw [List.getElem?_map] at h1
  cases hi : isC[k]? with
  | none => rw [hi] at h1; cases h1
  | some i => rw [hi] at h1; exact hP i q (Option.some.inj h1)
theorem j_pick {κ : jK} {nL : Nat} {G : jG} {A : Nat → Prop} {cs ss : Nat} {Q : State → Prop} {pc : Nat} {lv : List (Nat × Value)} {st : List Value} {ws ws' : va_W} (is : List Nat) (hn : va_nd is = true) (hs : is.map (fun i => ws[i]?) = ws'.map some) (k : JJ κ nL G A cs ss Q pc lv st ws') : JJ κ nL G A cs ss Q pc lv st ws :=
  fun H locs ls hP hD hS hl => k H locs ls (jsubP hP is hs) (hD.sub is hn hs) hS hl
/-- a call's run, over every heap that holds the cells -/
def jRun (κ : jK) (nL : Nat) (G : jG) (A : Nat → Prop) (cs ss mc ms pc : Nat) (lv : List (Nat × Value)) (st0 rest : List Value) (ws w : va_W) (Qr : Option Value → va_W → Prop) : Prop :=
  ∀ (H : Heap) (locs : List Loc) (ls : Array Slot), va_P G.1 vwCl ws H → va_D A ws → lv_has ls nL lv → ∃ a0 : Array Value, va_Run (jp κ) (jl κ) (je κ) (jR κ) (js κ) (jm κ) (jar κ) (jb κ) (jme κ) (jc κ) H locs cs ss mc ms (F0 (jm κ) pc ls st0) rest (jPost G w H.size Qr a0) (va_A w H.size)
/-- a method whose answer and new cells are known -/
def MV (l : Launch) (y : MethodName) (ws : List Cond) (rm : Room) (G : jG) (as : List Value) (w : va_W) (r0 : Option Value) (w1 : va_W) : Prop := MF l y ws rm G as w 0 0 (fun r w' => r = r0 ∧ w' = w1)
section JC
variable {κ : jK} {l : Launch} {y : MethodName} {cc : ByteArray} {nL : Nat} {own : String} {Ts : List Cond} {ret : Option FieldType} {rm : Room} {G : jG} {A : Nat → Prop} {cs ss mc ms : Nat} {Q : State → Prop} {pc : Nat} {lv : List (Nat × Value)} {st0 rest : List Value} {ws ws' w w1 : va_W} {Qr : Option Value → va_W → Prop}
theorem j_cq (X : CX κ l y cc nL own Ts ret rm G A) (isC : List Nat) (hC : isC.map (fun i => ws[i]?) = w.map some) (hr : jRun κ nL G A cs ss mc ms pc lv st0 rest ws w Qr)
    (k : ∀ r w', Qr r w' → w'.map Prod.fst = w.map Prod.fst ∧ JJ κ nL G A (cs + mc) (ss + ms) Q (pc + 3) lv (r.toList ++ rest) (jrep ws isC w')) : JJ κ nL G A cs ss Q pc lv st0 ws := by
  intro H locs ls hP hD hS hl T hT X1
  obtain ⟨a0, hrun⟩ := hr H locs ls hP hD hl
  obtain ⟨v, st₀, t, T', L, h0, X', hL, e1, e2, ⟨⟨r, w', hv, hq, hP1, hD1⟩, hz, hk⟩, stp⟩ := hrun T hT X1
  cases hv
  rw [h0] at hz hk
  obtain ⟨hf, kk⟩ := k _ _ hq
  have hA : ∀ q, va_A w H.size q → A q := va_free hD hS X.2.2.2.2.2.2.2.1 isC hC
  obtain ⟨hP2, hD2⟩ := j_repl hP hD isC hC hf (H1 := T'.heap) (fun q h1 h2 => by rw [e1]; exact hk q h1 h2) (by rw [e1]; exact hP1)
  obtain ⟨t2, a1, b1⟩ := kk T'.heap (locs ++ L) ls hP2 hD2 ⟨Nat.le_trans hS.1 (by rw [e1]; exact hz), fun q h1 h2 => by rw [e1, hk q (Nat.lt_of_lt_of_le h1 hS.1) (fun z => h2 (hA q z))]; exact hS.2.1 q h1 h2, fun q hq => by
      rcases List.mem_append.mp hq with h | h
      · exact hS.2.2 q h
      · exact hA _ (hL q h)⟩ hl T' rfl X'
  exact ⟨t2, stp t2 a1, b1⟩
theorem j_ci (X : CX κ l y cc nL own Ts ret rm G A) {v : Int32} (isC : List Nat) (hC : isC.map (fun i => ws[i]?) = w.map some) (hr : jRun κ nL G A cs ss 0 0 pc lv st0 rest ws w (fun r w' => r = some (.int v) ∧ w' = w1)) (hf : w1.map Prod.fst = w.map Prod.fst) (hw : jrep ws isC w1 = ws') (k : JJ κ nL G A cs ss Q (pc + 3) lv (.int v :: rest) ws') : JJ κ nL G A cs ss Q pc lv st0 ws :=
  j_cq X isC hC hr (fun r w' h => by obtain ⟨rfl, rfl⟩ := h; exact ⟨hf, hw.symm ▸ k⟩)
theorem j_cl (X : CX κ l y cc nL own Ts ret rm G A) {v : Int64} (isC : List Nat) (hC : isC.map (fun i => ws[i]?) = w.map some) (hr : jRun κ nL G A cs ss 0 0 pc lv st0 rest ws w (fun r w' => r = some (.long v) ∧ w' = w1)) (hf : w1.map Prod.fst = w.map Prod.fst) (hw : jrep ws isC w1 = ws') (k : JJ κ nL G A cs ss Q (pc + 3) lv (.long v :: rest) ws') : JJ κ nL G A cs ss Q pc lv st0 ws :=
  j_cq X isC hC hr (fun r w' h => by obtain ⟨rfl, rfl⟩ := h; exact ⟨hf, hw.symm ▸ k⟩)
theorem j_cv (X : CX κ l y cc nL own Ts ret rm G A) (isC : List Nat) (hC : isC.map (fun i => ws[i]?) = w.map some) (hr : jRun κ nL G A cs ss 0 0 pc lv st0 rest ws w (fun r w' => r = none ∧ w' = w1)) (hf : w1.map Prod.fst = w.map Prod.fst) (hw : jrep ws isC w1 = ws') (k : JJ κ nL G A cs ss Q (pc + 3) lv rest ws') : JJ κ nL G A cs ss Q pc lv st0 ws :=
  j_cq X isC hC hr (fun r w' h => by obtain ⟨rfl, rfl⟩ := h; exact ⟨hf, hw.symm ▸ k⟩)
theorem j_rV (X : CX κ l y cc nL own Ts ret rm G A) {y2 : MethodName} {ws2 ws2' : List Cond} {rm2 : Room} {b : Nat} {As : List Value} {C : String} {index maxL N ci : Nat} {T : u_T} {bytes : ByteArray} {ret2 : Option FieldType} {fs : List Value} (n : Nat) (hM : MF l y2 ws2 rm2 G (.ref b :: As) w mc ms Qr) (hG : GoodIn Ts (wsV own index C y2 ws2)) (hw : ws2 = Cond.code y2 bytes maxL ret2 :: ws2') (hrc : rm2.cells = mc) (hrs : rm2.slots = ms)
    (hd : y2.cls = C ∧ y2.cls ≠ "java/lang/invoke/MethodHandle" ∧ y2.cls ≠ "java/lang/invoke/VarHandle" ∧ (parseMethodDescriptor y2.desc).map (fun d => d.parameters.length) = some n) (hR : rm2.frames + 1 ≤ rm.frames ∧ 8 + (maxL + 11) + rm2.locals ≤ rm.locals) (hn : As.length = n) (hcl : vwCl[ci]? = some (C, T, N)) (q0 : Nat) (he : w[q0]? = some (b, .inr (ci, fs)))
    (isC : List Nat) (hnd : va_nd isC = true) (hC : isC.map (fun i => ws[i]?) = w.map some) (hst : st0 = As.reverse ++ .ref b :: rest) (hroom : (rest.map fun v => v.category).sum ≤ 8) (hdg : decode cc pc = .ok (.invokevirtual index, 3)) (hf : cs + mc ≤ rm.cells ∧ ss + ms ≤ rm.slots) : jRun κ nL G A cs ss mc ms pc lv st0 rest ws w Qr := by
  obtain ⟨⟨rfl, rfl⟩, hx, hb, hml, hown, hts, hK, hA, hlk, hrt, hnm⟩ := X
  intro H locs ls hP hD hl
  have hPc := jsubP hP isC hC
  have hDc := hD.sub isC hnd hC
  exact ⟨_, va_runV ⟨hx, hb, hml, hown, hts⟩ (hM H.size) (cwV n hts hG hw hrc hrs hd hR) ⟨jPre.blind, va_recv hK.1 hPc hcl he, fun U hU hW => ⟨rfl, by rw [hU], by rw [hU]; exact hPc, jS.warm hW hK, hDc.weaken (fun _ _ _ _ => trivial)⟩⟩ rfl hn hl.1 hst (lv_room hroom) hdg hf⟩
theorem j_rVN (X : CX κ l y cc nL own Ts ret rm G A) {y2 : MethodName} {ws2 ws2' : List Cond} {rm2 : Room} {b : Nat} {As : List Value} {C : String} {index maxL N ci : Nat} {T : u_T} {bytes : ByteArray} {ret2 : Option FieldType} {fs : List Value} (n : Nat) (hM : MF l y2 ws2 rm2 G (.ref b :: As) w mc ms Qr) (hG : GoodIn Ts ws2) (hw : ws2 = Cond.code y2 bytes maxL ret2 :: ws2') (hrc : rm2.cells = mc) (hrs : rm2.slots = ms)
    (hlink : (own, index, y2, "MentorPairs") ∈ jNm) (hini : Cond.initialized y2.cls ∈ Ts) (hin : Cond.instanceMethod y2 ∈ Ts) (hsel : Cond.selects C y2 y2 ∈ Ts)
    (hd : y2.cls ≠ "java/lang/invoke/MethodHandle" ∧ y2.cls ≠ "java/lang/invoke/VarHandle" ∧ (parseMethodDescriptor y2.desc).map (fun d => d.parameters.length) = some n) (hR : rm2.frames + 1 ≤ rm.frames ∧ 8 + (maxL + 11) + rm2.locals ≤ rm.locals) (hn : As.length = n) (hcl : vwCl[ci]? = some (C, T, N)) (q0 : Nat) (he : w[q0]? = some (b, .inr (ci, fs)))
    (isC : List Nat) (hnd : va_nd isC = true) (hC : isC.map (fun i => ws[i]?) = w.map some) (hst : st0 = As.reverse ++ .ref b :: rest) (hroom : (rest.map fun v => v.category).sum ≤ 8) (hdg : decode cc pc = .ok (.invokevirtual index, 3)) (hf : cs + mc ≤ rm.cells ∧ ss + ms ≤ rm.slots) : jRun κ nL G A cs ss mc ms pc lv st0 rest ws w Qr := by
  obtain ⟨⟨rfl, rfl⟩, hx, hb, hml, hown, hts, hK, hA, hlk, hrt, hnm⟩ := X
  intro H locs ls hP hD hl
  have hPc := jsubP hP isC hC
  have hDc := hD.sub isC hnd hC
  exact ⟨_, va_runVN (host := "MentorPairs") ⟨hx, hb, hml, hown, hts⟩ (hM H.size) ⟨va_cnB n hts hG hw hrc hrs (hK.2.2 _ hlink) (hts _ hini) hd hR, hts _ hin, hts _ hsel⟩ ⟨jPre.blind, va_recv hK.1 hPc hcl he, fun U hU hW => ⟨rfl, by rw [hU], by rw [hU]; exact hPc, jS.warm hW hK, hDc.weaken (fun _ _ _ _ => trivial)⟩⟩ rfl hn hl.1 hst (lv_room hroom) hdg hf⟩
theorem j_rS (X : CX κ l y cc nL own Ts ret rm G A) {y2 : MethodName} {ws2 ws2' : List Cond} {rm2 : Room} {As : List Value} {index maxL : Nat} {bytes : ByteArray} {ret2 : Option FieldType} (n : Nat) (hM : MF l y2 ws2 rm2 G As w mc ms Qr) (hG : GoodIn Ts (va_wsS own index y2 ws2)) (hw : ws2 = Cond.code y2 bytes maxL ret2 :: ws2') (hrc : rm2.cells = mc) (hrs : rm2.slots = ms)
    (hd : y2.cls ≠ "java/lang/invoke/MethodHandle" ∧ y2.cls ≠ "java/lang/invoke/VarHandle" ∧ (parseMethodDescriptor y2.desc).map (fun d => d.parameters.length) = some n) (hR : rm2.frames + 1 ≤ rm.frames ∧ 8 + (maxL + 11) + rm2.locals ≤ rm.locals) (hn : As.length = n)
    (isC : List Nat) (hnd : va_nd isC = true) (hC : isC.map (fun i => ws[i]?) = w.map some) (hst : st0 = As.reverse ++ rest) (hroom : (rest.map fun v => v.category).sum ≤ 8) (hdg : decode cc pc = .ok (.invokestatic index, 3)) (hf : cs + mc ≤ rm.cells ∧ ss + ms ≤ rm.slots) : jRun κ nL G A cs ss mc ms pc lv st0 rest ws w Qr := by
  obtain ⟨⟨rfl, rfl⟩, hx, hb, hml, hown, hts, hK, hA, hlk, hrt, hnm⟩ := X
  intro H locs ls hP hD hl
  have hPc := jsubP hP isC hC
  have hDc := hD.sub isC hnd hC
  exact ⟨_, va_runS ⟨hx, hb, hml, hown, hts⟩ (hM H.size) (va_cwS n hts hG hw hrc hrs hd hR) ⟨jPre.blind, fun U hU hW => ⟨rfl, by rw [hU], by rw [hU]; exact hPc, jS.warm hW hK, hDc.weaken (fun _ _ _ _ => trivial)⟩⟩ rfl hn hl.1 hst (lv_room hroom) hdg hf⟩
theorem j_rSN (X : CX κ l y cc nL own Ts ret rm G A) {y2 : MethodName} {ws2 ws2' : List Cond} {rm2 : Room} {As : List Value} {index maxL : Nat} {bytes : ByteArray} {ret2 : Option FieldType} (n : Nat) (hM : MF l y2 ws2 rm2 G As w mc ms Qr) (hG : GoodIn Ts ws2) (hw : ws2 = Cond.code y2 bytes maxL ret2 :: ws2') (hrc : rm2.cells = mc) (hrs : rm2.slots = ms)
    (hlink : (own, index, y2, "MentorPairs") ∈ jNm) (hini : Cond.initialized y2.cls ∈ Ts) (hstt : Cond.static y2 ∈ Ts)
    (hd : y2.cls ≠ "java/lang/invoke/MethodHandle" ∧ y2.cls ≠ "java/lang/invoke/VarHandle" ∧ (parseMethodDescriptor y2.desc).map (fun d => d.parameters.length) = some n) (hR : rm2.frames + 1 ≤ rm.frames ∧ 8 + (maxL + 11) + rm2.locals ≤ rm.locals) (hn : As.length = n)
    (isC : List Nat) (hnd : va_nd isC = true) (hC : isC.map (fun i => ws[i]?) = w.map some) (hst : st0 = As.reverse ++ rest) (hroom : (rest.map fun v => v.category).sum ≤ 8) (hdg : decode cc pc = .ok (.invokestatic index, 3)) (hf : cs + mc ≤ rm.cells ∧ ss + ms ≤ rm.slots) : jRun κ nL G A cs ss mc ms pc lv st0 rest ws w Qr := by
  obtain ⟨⟨rfl, rfl⟩, hx, hb, hml, hown, hts, hK, hA, hlk, hrt, hnm⟩ := X
  intro H locs ls hP hD hl
  have hPc := jsubP hP isC hC
  have hDc := hD.sub isC hnd hC
  exact ⟨_, va_runSN (host := "MentorPairs") ⟨hx, hb, hml, hown, hts⟩ (hM H.size) ⟨va_cnB n hts hG hw hrc hrs (hK.2.2 _ hlink) (hts _ hini) hd hR, hts _ hstt, trivial⟩ ⟨jPre.blind, fun U hU hW => ⟨rfl, by rw [hU], by rw [hU]; exact hPc, jS.warm hW hK, hDc.weaken (fun _ _ _ _ => trivial)⟩⟩ rfl hn hl.1 hst (lv_room hroom) hdg hf⟩
end JC
def b2i (b : Bool) : Int32 := if b then 1 else 0
theorem b2i_t : b2i true = 1 := rfl
theorem b2i_f : b2i false = 0 := rfl
theorem b2i_0 {b : Bool} : b2i b = 0 ↔ b = false := by cases b <;> decide
theorem b2i_1 {b : Bool} : b2i b = 1 ↔ b = true := by cases b <;> decide
theorem b2i_nar (b : Bool) : narrow .boolean (.int (b2i b)) = .int (b2i b) := by cases b <;> rfl
theorem b2i_fit (b : Bool) : fits .boolean (.int (b2i b)) = true := by cases b <;> rfl
theorem b2i_vnar (b : Bool) : vp_nar .boolean (b2i b) = b2i b := by cases b <;> rfl
theorem b2i_inj {a b : Bool} : b2i a = b2i b ↔ a = b := by cases a <;> cases b <;> decide
abbrev kI (G : jG) (a n : Nat) (f : Nat → Int32) : Nat × va_E := (a, .inl (G.2.1, n, .inl f))
abbrev kJ (G : jG) (a n : Nat) (f : Nat → Int64) : Nat × va_E := (a, .inl (G.2.2.1, n, .inr (.inl f)))
abbrev kZ (G : jG) (a n : Nat) (f : Nat → Int32) : Nat × va_E := (a, .inl (G.2.2.2.1, n, .inl f))
abbrev kT (G : jG) (a n : Nat) (f : Nat → Option Nat) : Nat × va_E := (a, .inl (G.2.2.2.2, n, .inr (.inr (.inr (.inr f)))))
theorem jrep_selfA : ∀ (is : List Nat) (w ws : va_W), is.map (fun i => ws[i]?) = w.map some → jrepA is w ws = ws
  | [], _, _, _ => rfl
  | i :: is, [], ws, h => by simp at h
  | i :: is, q :: qs, ws, h => by
    simp only [List.map_cons, List.cons.injEq] at h
    have e : ws.set i q = ws := jset_same _ _ _ h.1
    have h2 := jrep_selfA is qs ws h.2
    show jrepA is qs (ws.set i q) = ws
    rw [e]
    exact h2
theorem jrep_self (is : List Nat) (w ws : va_W) (h : is.map (fun i => ws[i]?) = w.map some) : jrep ws is w = ws := jrep_selfA is w ws h
section JM
variable {κ : jK} {l : Launch} {y : MethodName} {cc : ByteArray} {nL : Nat} {own : String} {Ts : List Cond} {ret : Option FieldType} {rm : Room} {G : jG} {A : Nat → Prop} {cs ss : Nat} {Q : State → Prop} {pc : Nat} {lv : List (Nat × Value)} {st st0 rest : List Value} {ws w : va_W}
theorem j_ciP (X : CX κ l y cc nL own Ts ret rm G A) {v : Int32} (isC : List Nat) (hC : isC.map (fun i => ws[i]?) = w.map some) (hr : jRun κ nL G A cs ss 0 0 pc lv st0 rest ws w (fun r w' => r = some (.int v) ∧ w' = w)) (k : JJ κ nL G A cs ss Q (pc + 3) lv (.int v :: rest) ws) : JJ κ nL G A cs ss Q pc lv st0 ws :=
  j_ci X isC hC hr rfl (jrep_self isC w ws hC) k
theorem j_clP (X : CX κ l y cc nL own Ts ret rm G A) {v : Int64} (isC : List Nat) (hC : isC.map (fun i => ws[i]?) = w.map some) (hr : jRun κ nL G A cs ss 0 0 pc lv st0 rest ws w (fun r w' => r = some (.long v) ∧ w' = w)) (k : JJ κ nL G A cs ss Q (pc + 3) lv (.long v :: rest) ws) : JJ κ nL G A cs ss Q pc lv st0 ws :=
  j_cl X isC hC hr rfl (jrep_self isC w ws hC) k
theorem j_cvP (X : CX κ l y cc nL own Ts ret rm G A) (isC : List Nat) (hC : isC.map (fun i => ws[i]?) = w.map some) (hr : jRun κ nL G A cs ss 0 0 pc lv st0 rest ws w (fun r w' => r = none ∧ w' = w)) (k : JJ κ nL G A cs ss Q (pc + 3) lv rest ws) : JJ κ nL G A cs ss Q pc lv st0 ws :=
  j_cv X isC hC hr rfl (jrep_self isC w ws hC) k
theorem j_ifb_eq (X : CX κ l y cc nL own Ts ret rm G A) {B : Bool} {off : Int} {tgt : Nat} (hd : decode cc pc = .ok (.ifCond .eq off, 3)) (ht : (pc : Int) + off = (tgt : Int)) (kt : B = false → JJ κ nL G A cs ss Q tgt lv st ws) (kf : B = true → JJ κ nL G A cs ss Q (pc + 3) lv st ws) : JJ κ nL G A cs ss Q pc lv (.int (b2i B) :: st) ws :=
  j_if_eq X hd ht (fun c => kt (b2i_0.mp c)) (fun c => kf (by cases B <;> first | rfl | exact absurd rfl c))
theorem j_ifb_ne (X : CX κ l y cc nL own Ts ret rm G A) {B : Bool} {off : Int} {tgt : Nat} (hd : decode cc pc = .ok (.ifCond .ne off, 3)) (ht : (pc : Int) + off = (tgt : Int)) (kt : B = true → JJ κ nL G A cs ss Q tgt lv st ws) (kf : B = false → JJ κ nL G A cs ss Q (pc + 3) lv st ws) : JJ κ nL G A cs ss Q pc lv (.int (b2i B) :: st) ws :=
  j_if_ne X hd ht (fun c => kt (by cases B <;> first | rfl | exact absurd rfl c)) (fun c => kf (b2i_0.mp c))
theorem j_icmpN_eq (X : CX κ l y cc nL own Ts ret rm G A) {a b : Nat} {off : Int} {tgt : Nat} (ha : a < 2 ^ 31) (hb : b < 2 ^ 31) (hd : decode cc pc = .ok (.if_icmp .eq off, 3)) (ht : (pc : Int) + off = (tgt : Int)) (kt : a = b → JJ κ nL G A cs ss Q tgt lv st ws) (kf : ¬ (a = b) → JJ κ nL G A cs ss Q (pc + 3) lv st ws) : JJ κ nL G A cs ss Q pc lv (.int (nI b) :: .int (nI a) :: st) ws :=
  j_icmp_eq X hd ht (fun c => kt ((nI_eq ha hb).mp c)) (fun c => kf (fun z => c ((nI_eq ha hb).mpr z)))
theorem j_icmpN_ne (X : CX κ l y cc nL own Ts ret rm G A) {a b : Nat} {off : Int} {tgt : Nat} (ha : a < 2 ^ 31) (hb : b < 2 ^ 31) (hd : decode cc pc = .ok (.if_icmp .ne off, 3)) (ht : (pc : Int) + off = (tgt : Int)) (kt : ¬ a = b → JJ κ nL G A cs ss Q tgt lv st ws) (kf : a = b → JJ κ nL G A cs ss Q (pc + 3) lv st ws) : JJ κ nL G A cs ss Q pc lv (.int (nI b) :: .int (nI a) :: st) ws :=
  j_icmp_ne X hd ht (fun c => kt (fun e => c (by rw [e]))) (fun c => kf ((nI_eq ha hb).mp c))
theorem j_icmpN_lt (X : CX κ l y cc nL own Ts ret rm G A) {a b : Nat} {off : Int} {tgt : Nat} (ha : a < 2 ^ 31) (hb : b < 2 ^ 31) (hd : decode cc pc = .ok (.if_icmp .lt off, 3)) (ht : (pc : Int) + off = (tgt : Int)) (kt : a < b → JJ κ nL G A cs ss Q tgt lv st ws) (kf : ¬ (a < b) → JJ κ nL G A cs ss Q (pc + 3) lv st ws) : JJ κ nL G A cs ss Q pc lv (.int (nI b) :: .int (nI a) :: st) ws :=
  j_icmp_lt X hd ht (fun c => kt ((nI_ltI ha hb).mp c)) (fun c => kf (fun z => c ((nI_ltI ha hb).mpr z)))
theorem j_icmpN_ge (X : CX κ l y cc nL own Ts ret rm G A) {a b : Nat} {off : Int} {tgt : Nat} (ha : a < 2 ^ 31) (hb : b < 2 ^ 31) (hd : decode cc pc = .ok (.if_icmp .ge off, 3)) (ht : (pc : Int) + off = (tgt : Int)) (kt : b ≤ a → JJ κ nL G A cs ss Q tgt lv st ws) (kf : ¬ (b ≤ a) → JJ κ nL G A cs ss Q (pc + 3) lv st ws) : JJ κ nL G A cs ss Q pc lv (.int (nI b) :: .int (nI a) :: st) ws :=
  j_icmp_ge X hd ht (fun c => kt ((nI_leI hb ha).mp c)) (fun c => kf (fun z => c ((nI_leI hb ha).mpr z)))
theorem j_icmpN_gt (X : CX κ l y cc nL own Ts ret rm G A) {a b : Nat} {off : Int} {tgt : Nat} (ha : a < 2 ^ 31) (hb : b < 2 ^ 31) (hd : decode cc pc = .ok (.if_icmp .gt off, 3)) (ht : (pc : Int) + off = (tgt : Int)) (kt : b < a → JJ κ nL G A cs ss Q tgt lv st ws) (kf : ¬ (b < a) → JJ κ nL G A cs ss Q (pc + 3) lv st ws) : JJ κ nL G A cs ss Q pc lv (.int (nI b) :: .int (nI a) :: st) ws :=
  j_icmp_gt X hd ht (fun c => kt ((nI_ltI hb ha).mp c)) (fun c => kf (fun z => c ((nI_ltI hb ha).mpr z)))
theorem j_icmpN_le (X : CX κ l y cc nL own Ts ret rm G A) {a b : Nat} {off : Int} {tgt : Nat} (ha : a < 2 ^ 31) (hb : b < 2 ^ 31) (hd : decode cc pc = .ok (.if_icmp .le off, 3)) (ht : (pc : Int) + off = (tgt : Int)) (kt : a ≤ b → JJ κ nL G A cs ss Q tgt lv st ws) (kf : ¬ (a ≤ b) → JJ κ nL G A cs ss Q (pc + 3) lv st ws) : JJ κ nL G A cs ss Q pc lv (.int (nI b) :: .int (nI a) :: st) ws :=
  j_icmp_le X hd ht (fun c => kt ((nI_leI ha hb).mp c)) (fun c => kf (fun z => c ((nI_leI ha hb).mpr z)))
theorem j_ifN_eq (X : CX κ l y cc nL own Ts ret rm G A) {a : Nat} {off : Int} {tgt : Nat} (ha : a < 2 ^ 31) (hd : decode cc pc = .ok (.ifCond .eq off, 3)) (ht : (pc : Int) + off = (tgt : Int)) (kt : a = 0 → JJ κ nL G A cs ss Q tgt lv st ws) (kf : ¬ (a = 0) → JJ κ nL G A cs ss Q (pc + 3) lv st ws) : JJ κ nL G A cs ss Q pc lv (.int (nI a) :: st) ws :=
  j_if_eq X hd ht (fun c => kt ((nI_eq ha (by decide : 0 < 2 ^ 31)).mp c)) (fun c => kf (fun z => c ((nI_eq ha (by decide : 0 < 2 ^ 31)).mpr z)))
theorem j_ifN_ne (X : CX κ l y cc nL own Ts ret rm G A) {a : Nat} {off : Int} {tgt : Nat} (ha : a < 2 ^ 31) (hd : decode cc pc = .ok (.ifCond .ne off, 3)) (ht : (pc : Int) + off = (tgt : Int)) (kt : ¬ a = 0 → JJ κ nL G A cs ss Q tgt lv st ws) (kf : a = 0 → JJ κ nL G A cs ss Q (pc + 3) lv st ws) : JJ κ nL G A cs ss Q pc lv (.int (nI a) :: st) ws :=
  j_if_ne X hd ht (fun c => kt (fun e => c (by rw [e]; rfl))) (fun c => kf ((nI_eq ha (by decide : 0 < 2 ^ 31)).mp c))
theorem j_ifN_lt (X : CX κ l y cc nL own Ts ret rm G A) {a : Nat} {off : Int} {tgt : Nat} (ha : a < 2 ^ 31) (hd : decode cc pc = .ok (.ifCond .lt off, 3)) (ht : (pc : Int) + off = (tgt : Int)) (kt : a < 0 → JJ κ nL G A cs ss Q tgt lv st ws) (kf : ¬ (a < 0) → JJ κ nL G A cs ss Q (pc + 3) lv st ws) : JJ κ nL G A cs ss Q pc lv (.int (nI a) :: st) ws :=
  j_if_lt X hd ht (fun c => kt ((nI_ltI ha (by decide : 0 < 2 ^ 31)).mp c)) (fun c => kf (fun z => c ((nI_ltI ha (by decide : 0 < 2 ^ 31)).mpr z)))
theorem j_ifN_ge (X : CX κ l y cc nL own Ts ret rm G A) {a : Nat} {off : Int} {tgt : Nat} (ha : a < 2 ^ 31) (hd : decode cc pc = .ok (.ifCond .ge off, 3)) (ht : (pc : Int) + off = (tgt : Int)) (kt : 0 ≤ a → JJ κ nL G A cs ss Q tgt lv st ws) (kf : ¬ (0 ≤ a) → JJ κ nL G A cs ss Q (pc + 3) lv st ws) : JJ κ nL G A cs ss Q pc lv (.int (nI a) :: st) ws :=
  j_if_ge X hd ht (fun c => kt ((nI_leI (by decide : 0 < 2 ^ 31) ha).mp c)) (fun c => kf (fun z => c ((nI_leI (by decide : 0 < 2 ^ 31) ha).mpr z)))
theorem j_ifN_gt (X : CX κ l y cc nL own Ts ret rm G A) {a : Nat} {off : Int} {tgt : Nat} (ha : a < 2 ^ 31) (hd : decode cc pc = .ok (.ifCond .gt off, 3)) (ht : (pc : Int) + off = (tgt : Int)) (kt : 0 < a → JJ κ nL G A cs ss Q tgt lv st ws) (kf : ¬ (0 < a) → JJ κ nL G A cs ss Q (pc + 3) lv st ws) : JJ κ nL G A cs ss Q pc lv (.int (nI a) :: st) ws :=
  j_if_gt X hd ht (fun c => kt ((nI_ltI (by decide : 0 < 2 ^ 31) ha).mp c)) (fun c => kf (fun z => c ((nI_ltI (by decide : 0 < 2 ^ 31) ha).mpr z)))
theorem j_ifN_le (X : CX κ l y cc nL own Ts ret rm G A) {a : Nat} {off : Int} {tgt : Nat} (ha : a < 2 ^ 31) (hd : decode cc pc = .ok (.ifCond .le off, 3)) (ht : (pc : Int) + off = (tgt : Int)) (kt : a ≤ 0 → JJ κ nL G A cs ss Q tgt lv st ws) (kf : ¬ (a ≤ 0) → JJ κ nL G A cs ss Q (pc + 3) lv st ws) : JJ κ nL G A cs ss Q pc lv (.int (nI a) :: st) ws :=
  j_if_le X hd ht (fun c => kt ((nI_leI ha (by decide : 0 < 2 ^ 31)).mp c)) (fun c => kf (fun z => c ((nI_leI ha (by decide : 0 < 2 ^ 31)).mpr z)))
theorem jlc_eq (x z : Int64) : (lg_cmp x z = 0) ↔ (x = z) := by
  unfold lg_cmp
  simp only [gt_iff_lt, ne_eq, Int64.lt_iff_toInt_lt, Int64.le_iff_toInt_le, ← Int64.toInt_inj]
  repeat' split
  all_goals (constructor <;> intro hh <;> first | omega | decide | exact absurd hh (by decide))
theorem j_ifc_eq (X : CX κ l y cc nL own Ts ret rm G A) {x z : Int64} {off : Int} {tgt : Nat} (hd : decode cc pc = .ok (.ifCond .eq off, 3)) (ht : (pc : Int) + off = (tgt : Int)) (kt : x = z → JJ κ nL G A cs ss Q tgt lv st ws) (kf : ¬ (x = z) → JJ κ nL G A cs ss Q (pc + 3) lv st ws) : JJ κ nL G A cs ss Q pc lv (.int (lg_cmp x z) :: st) ws :=
  j_if_eq X hd ht (fun c => kt ((jlc_eq x z).mp c)) (fun c => kf (fun h => c ((jlc_eq x z).mpr h)))
theorem jlc_ne (x z : Int64) : (¬ lg_cmp x z = 0) ↔ (¬ x = z) := by
  unfold lg_cmp
  simp only [gt_iff_lt, ne_eq, Int64.lt_iff_toInt_lt, Int64.le_iff_toInt_le, ← Int64.toInt_inj]
  repeat' split
  all_goals (constructor <;> intro hh <;> first | omega | decide | exact absurd hh (by decide))
theorem j_ifc_ne (X : CX κ l y cc nL own Ts ret rm G A) {x z : Int64} {off : Int} {tgt : Nat} (hd : decode cc pc = .ok (.ifCond .ne off, 3)) (ht : (pc : Int) + off = (tgt : Int)) (kt : ¬ x = z → JJ κ nL G A cs ss Q tgt lv st ws) (kf : x = z → JJ κ nL G A cs ss Q (pc + 3) lv st ws) : JJ κ nL G A cs ss Q pc lv (.int (lg_cmp x z) :: st) ws :=
  j_if_ne X hd ht (fun c => kt ((jlc_ne x z).mp c)) (fun c => kf ((jlc_eq x z).mp c))
theorem jlc_lt (x z : Int64) : (lg_cmp x z < 0) ↔ (x < z) := by
  unfold lg_cmp
  simp only [gt_iff_lt, ne_eq, Int64.lt_iff_toInt_lt, Int64.le_iff_toInt_le, ← Int64.toInt_inj]
  repeat' split
  all_goals (constructor <;> intro hh <;> first | omega | decide | exact absurd hh (by decide))
theorem j_ifc_lt (X : CX κ l y cc nL own Ts ret rm G A) {x z : Int64} {off : Int} {tgt : Nat} (hd : decode cc pc = .ok (.ifCond .lt off, 3)) (ht : (pc : Int) + off = (tgt : Int)) (kt : x < z → JJ κ nL G A cs ss Q tgt lv st ws) (kf : ¬ (x < z) → JJ κ nL G A cs ss Q (pc + 3) lv st ws) : JJ κ nL G A cs ss Q pc lv (.int (lg_cmp x z) :: st) ws :=
  j_if_lt X hd ht (fun c => kt ((jlc_lt x z).mp c)) (fun c => kf (fun h => c ((jlc_lt x z).mpr h)))
theorem jlc_ge (x z : Int64) : (0 ≤ lg_cmp x z) ↔ (z ≤ x) := by
  unfold lg_cmp
  simp only [gt_iff_lt, ne_eq, Int64.lt_iff_toInt_lt, Int64.le_iff_toInt_le, ← Int64.toInt_inj]
  repeat' split
  all_goals (constructor <;> intro hh <;> first | omega | decide | exact absurd hh (by decide))
theorem j_ifc_ge (X : CX κ l y cc nL own Ts ret rm G A) {x z : Int64} {off : Int} {tgt : Nat} (hd : decode cc pc = .ok (.ifCond .ge off, 3)) (ht : (pc : Int) + off = (tgt : Int)) (kt : z ≤ x → JJ κ nL G A cs ss Q tgt lv st ws) (kf : ¬ (z ≤ x) → JJ κ nL G A cs ss Q (pc + 3) lv st ws) : JJ κ nL G A cs ss Q pc lv (.int (lg_cmp x z) :: st) ws :=
  j_if_ge X hd ht (fun c => kt ((jlc_ge x z).mp c)) (fun c => kf (fun h => c ((jlc_ge x z).mpr h)))
theorem jlc_gt (x z : Int64) : (0 < lg_cmp x z) ↔ (z < x) := by
  unfold lg_cmp
  simp only [gt_iff_lt, ne_eq, Int64.lt_iff_toInt_lt, Int64.le_iff_toInt_le, ← Int64.toInt_inj]
  repeat' split
  all_goals (constructor <;> intro hh <;> first | omega | decide | exact absurd hh (by decide))
theorem j_ifc_gt (X : CX κ l y cc nL own Ts ret rm G A) {x z : Int64} {off : Int} {tgt : Nat} (hd : decode cc pc = .ok (.ifCond .gt off, 3)) (ht : (pc : Int) + off = (tgt : Int)) (kt : z < x → JJ κ nL G A cs ss Q tgt lv st ws) (kf : ¬ (z < x) → JJ κ nL G A cs ss Q (pc + 3) lv st ws) : JJ κ nL G A cs ss Q pc lv (.int (lg_cmp x z) :: st) ws :=
  j_if_gt X hd ht (fun c => kt ((jlc_gt x z).mp c)) (fun c => kf (fun h => c ((jlc_gt x z).mpr h)))
theorem jlc_le (x z : Int64) : (lg_cmp x z ≤ 0) ↔ (x ≤ z) := by
  unfold lg_cmp
  simp only [gt_iff_lt, ne_eq, Int64.lt_iff_toInt_lt, Int64.le_iff_toInt_le, ← Int64.toInt_inj]
  repeat' split
  all_goals (constructor <;> intro hh <;> first | omega | decide | exact absurd hh (by decide))
theorem j_ifc_le (X : CX κ l y cc nL own Ts ret rm G A) {x z : Int64} {off : Int} {tgt : Nat} (hd : decode cc pc = .ok (.ifCond .le off, 3)) (ht : (pc : Int) + off = (tgt : Int)) (kt : x ≤ z → JJ κ nL G A cs ss Q tgt lv st ws) (kf : ¬ (x ≤ z) → JJ κ nL G A cs ss Q (pc + 3) lv st ws) : JJ κ nL G A cs ss Q pc lv (.int (lg_cmp x z) :: st) ws :=
  j_if_le X hd ht (fun c => kt ((jlc_le x z).mp c)) (fun c => kf (fun h => c ((jlc_le x z).mpr h)))
theorem j_labs (X : CX κ l y cc nL own Ts ret rm G A) {index : Nat} {x : Int64} (hd : decode cc pc = .ok (.invokestatic index, 3)) (h1 : Cond.methodLink own index Lib.MathLoose.abs_long.x ∈ Ts) (h2 : Cond.static Lib.MathLoose.abs_long.x ∈ Ts) (h3 : Cond.initialized "java/lang/Math" ∈ Ts) (h4 : Cond.code Lib.MathLoose.abs_long.x Lib.MathLoose.abs_long.code 2 (some .long) ∈ Ts) (hfr : 1 ≤ rm.frames) (hlo : (st.map fun v => v.category).sum + 13 ≤ rm.locals) (hcs : cs ≤ rm.cells ∧ ss ≤ rm.slots) (k : JJ κ nL G A cs ss Q (pc + 3) lv (.long (if 0 < x then x else -x) :: st) ws) : JJ κ nL G A cs ss Q pc lv (.long x :: st) ws := by
  obtain ⟨⟨rfl, rfl⟩, hx, hb, hml, hown, hts, hK, hA, hlk, hrt, hnm⟩ := X
  exact fun H locs ls hP hD hS hl => va_mabs_long hx hb (hml.trans hl.1.symm) hown (hts _ h1) (hts _ h2) (hts _ h3) (hts _ h4) hfr hlo hcs.1 hcs.2 hd (k H locs ls hP hD hS hl)
end JM
end
section
/-! Values as numbers, truths, and perhaps-numbers (none is -1). -/
def oI (x : Option Nat) : Int32 := match x with
  | none => -1
  | some j => nI j
def oF (f : Nat → Option Nat) : Nat → Int32 := fun k => oI (f k)
def nF (f : Nat → Nat) : Nat → Int32 := fun k => nI (f k)
def bF (f : Nat → Bool) : Nat → Int32 := fun k => b2i (f k)
theorem oF_up (f : Nat → Option Nat) (i : Nat) (x : Option Nat) : upd (oF f) i (oI x) = oF (va_up f i x) := by
  funext k; simp only [upd, oF, va_up]; split <;> rfl
theorem nF_up (f : Nat → Nat) (i x : Nat) : upd (nF f) i (nI x) = nF (va_up f i x) := by
  funext k; simp only [upd, nF, va_up]; split <;> rfl
theorem bF_up (f : Nat → Bool) (i : Nat) (x : Bool) : upd (bF f) i (b2i x) = bF (va_up f i x) := by
  funext k; simp only [upd, bF, va_up]; split <;> rfl
theorem lF_up (f : Nat → Int64) (i : Nat) (x : Int64) : vp_updL f i x = va_up f i x := by
  funext k; simp only [vp_updL, va_up]
theorem iF_up (f : Nat → Int32) (i : Nat) (x : Int32) : upd f i x = va_up f i x := by
  funext k; simp only [upd, va_up]
/-- below n, if a number -/
def ob (n : Nat) (x : Option Nat) : Prop := ∀ j, x = some j → j < n
theorem ob_n {n : Nat} : ob n none := fun _ h => by cases h
theorem ob_s {n j : Nat} (h : j < n) : ob n (some j) := fun _ e => by cases e; exact h
theorem ob.big {n m : Nat} {x : Option Nat} (h : ob n x) (hm : n ≤ m) : ob m x := fun j e => Nat.lt_of_lt_of_le (h j e) hm
theorem oI_m1 {x : Option Nat} (h : ob 2147483648 x) : oI x = -1 ↔ x = none := by
  cases x with
  | none => simp [oI]
  | some j =>
    have hj := h j rfl
    simp only [oI, reduceCtorEq, iff_false]
    intro e
    have := congrArg Int32.toInt e
    rw [nI_toInt (by omega)] at this
    have h2 : (-1 : Int32).toInt = -1 := by decide
    omega
theorem oI_lt0 {x : Option Nat} (h : ob 2147483648 x) : oI x < 0 ↔ x = none := by
  cases x with
  | none => simp only [oI, iff_true]; decide
  | some j =>
    have hj := h j rfl
    simp only [oI, reduceCtorEq, iff_false]
    exact nI_pos (by omega)
theorem oI_ge0 {x : Option Nat} (h : ob 2147483648 x) : 0 ≤ oI x ↔ x ≠ none := by
  cases x with
  | none => simp only [oI, ne_eq, not_true, iff_false]; decide
  | some j =>
    have hj := h j rfl
    simp only [oI, ne_eq, reduceCtorEq, not_false_eq_true, iff_true]
    exact nI_pos' (by omega)
theorem oI_inj {x z : Option Nat} (h : ob 2147483648 x) (h2 : ob 2147483648 z) : oI x = oI z ↔ x = z := by
  cases z with
  | none => exact oI_m1 h
  | some j =>
    have hj := h2 j rfl
    cases x with
    | none =>
      simp only [reduceCtorEq, iff_false]
      intro e
      have := (oI_m1 h2).mp e.symm
      cases this
    | some i =>
      have hi := h i rfl
      simp only [oI, Option.some.injEq]
      exact nI_eq (by omega) (by omega)
section JO
variable {κ : jK} {l : Launch} {y : MethodName} {cc : ByteArray} {nL : Nat} {own : String} {Ts : List Cond} {ret : Option FieldType} {rm : Room} {G : jG} {A : Nat → Prop} {cs ss : Nat} {Q : State → Prop} {pc : Nat} {lv : List (Nat × Value)} {st : List Value} {ws : va_W}
theorem j_icmpZ_eq (X : CX κ l y cc nL own Ts ret rm G A) {a : Option Nat} {off : Int} {tgt : Nat} (ha : ob 2147483648 a) (hd : decode cc pc = .ok (.if_icmp .eq off, 3)) (ht : (pc : Int) + off = (tgt : Int)) (kt : a = none → JJ κ nL G A cs ss Q tgt lv st ws) (kf : ¬ a = none → JJ κ nL G A cs ss Q (pc + 3) lv st ws) : JJ κ nL G A cs ss Q pc lv (.int (oI none) :: .int (oI a) :: st) ws :=
  j_icmp_eq X hd ht (fun c => kt ((oI_m1 ha).mp c)) (fun c => kf (fun h => c ((oI_m1 ha).mpr h)))
theorem j_icmpZ_ne (X : CX κ l y cc nL own Ts ret rm G A) {a : Option Nat} {off : Int} {tgt : Nat} (ha : ob 2147483648 a) (hd : decode cc pc = .ok (.if_icmp .ne off, 3)) (ht : (pc : Int) + off = (tgt : Int)) (kt : ¬ a = none → JJ κ nL G A cs ss Q tgt lv st ws) (kf : a = none → JJ κ nL G A cs ss Q (pc + 3) lv st ws) : JJ κ nL G A cs ss Q pc lv (.int (oI none) :: .int (oI a) :: st) ws :=
  j_icmp_ne X hd ht (fun c => kt (fun h => c ((oI_m1 ha).mpr h))) (fun c => kf ((oI_m1 ha).mp c))
theorem j_icmpO_eq (X : CX κ l y cc nL own Ts ret rm G A) {a b : Option Nat} {off : Int} {tgt : Nat} (ha : ob 2147483648 a) (hb : ob 2147483648 b) (hd : decode cc pc = .ok (.if_icmp .eq off, 3)) (ht : (pc : Int) + off = (tgt : Int)) (kt : a = b → JJ κ nL G A cs ss Q tgt lv st ws) (kf : ¬ a = b → JJ κ nL G A cs ss Q (pc + 3) lv st ws) : JJ κ nL G A cs ss Q pc lv (.int (oI b) :: .int (oI a) :: st) ws :=
  j_icmp_eq X hd ht (fun c => kt ((oI_inj ha hb).mp c)) (fun c => kf (fun h => c ((oI_inj ha hb).mpr h)))
theorem j_icmpO_ne (X : CX κ l y cc nL own Ts ret rm G A) {a b : Option Nat} {off : Int} {tgt : Nat} (ha : ob 2147483648 a) (hb : ob 2147483648 b) (hd : decode cc pc = .ok (.if_icmp .ne off, 3)) (ht : (pc : Int) + off = (tgt : Int)) (kt : ¬ a = b → JJ κ nL G A cs ss Q tgt lv st ws) (kf : a = b → JJ κ nL G A cs ss Q (pc + 3) lv st ws) : JJ κ nL G A cs ss Q pc lv (.int (oI b) :: .int (oI a) :: st) ws :=
  j_icmp_ne X hd ht (fun c => kt (fun h => c ((oI_inj ha hb).mpr h))) (fun c => kf ((oI_inj ha hb).mp c))
theorem j_ifO_lt (X : CX κ l y cc nL own Ts ret rm G A) {a : Option Nat} {off : Int} {tgt : Nat} (ha : ob 2147483648 a) (hd : decode cc pc = .ok (.ifCond .lt off, 3)) (ht : (pc : Int) + off = (tgt : Int)) (kt : a = none → JJ κ nL G A cs ss Q tgt lv st ws) (kf : ¬ a = none → JJ κ nL G A cs ss Q (pc + 3) lv st ws) : JJ κ nL G A cs ss Q pc lv (.int (oI a) :: st) ws :=
  j_if_lt X hd ht (fun c => kt ((oI_lt0 ha).mp c)) (fun c => kf (fun h => c ((oI_lt0 ha).mpr h)))
theorem j_ifO_ge (X : CX κ l y cc nL own Ts ret rm G A) {a : Option Nat} {off : Int} {tgt : Nat} (ha : ob 2147483648 a) (hd : decode cc pc = .ok (.ifCond .ge off, 3)) (ht : (pc : Int) + off = (tgt : Int)) (kt : ¬ a = none → JJ κ nL G A cs ss Q tgt lv st ws) (kf : a = none → JJ κ nL G A cs ss Q (pc + 3) lv st ws) : JJ κ nL G A cs ss Q pc lv (.int (oI a) :: st) ws :=
  j_if_ge X hd ht (fun c => kt ((oI_ge0 ha).mp c)) (fun c => kf (Decidable.not_not.mp (fun h => c ((oI_ge0 ha).mpr h))))
end JO
section JT
variable {κ : jK} {l : Launch} {y : MethodName} {cc : ByteArray} {nL : Nat} {own : String} {Ts : List Cond} {ret : Option FieldType} {rm : Room} {G : jG} {A : Nat → Prop} {cs ss : Nat} {Q : State → Prop} {pc : Nat} {lv : List (Nat × Value)} {st : List Value} {ws ws' : va_W}
theorem j_tswI (X : CX κ l y cc nL own Ts ret rm G A) {dflt lo hi : Int} {offs : Array Int} {len : Nat} {x : Int32} {off : Int} {tgt : Nat} (hd : decode cc pc = .ok (.tableswitch dflt lo hi offs, len)) (h1 : ¬ x.toInt < lo) (h2 : ¬ hi < x.toInt) (ho : offs[(x.toInt - lo).toNat]? = some off) (ht : (pc : Int) + off = (tgt : Int)) (k : JJ κ nL G A cs ss Q tgt lv st ws) : JJ κ nL G A cs ss Q pc lv (.int x :: st) ws :=
  fun H locs ls hP hD hS hl => lv_tableIn X.2.1 X.2.2.1 hd h1 h2 ho ht (k H locs ls hP hD hS hl)
theorem j_tswO (X : CX κ l y cc nL own Ts ret rm G A) {dflt lo hi : Int} {offs : Array Int} {len : Nat} {x : Int32} {tgt : Nat} (hd : decode cc pc = .ok (.tableswitch dflt lo hi offs, len)) (h : x.toInt < lo ∨ hi < x.toInt) (ht : (pc : Int) + dflt = (tgt : Int)) (k : JJ κ nL G A cs ss Q tgt lv st ws) : JJ κ nL G A cs ss Q pc lv (.int x :: st) ws :=
  fun H locs ls hP hD hS hl => lv_tableOut X.2.1 X.2.2.1 hd h ht (k H locs ls hP hD hS hl)
end JT
theorem j_ifd_eq {κ : jK} {l : Launch} {y : MethodName} {cc : ByteArray} {nL : Nat} {own : String} {Ts : List Cond} {ret : Option FieldType} {rm : Room} {G : jG} {A : Nat → Prop} {cs ss : Nat} {Q : State → Prop} {pc : Nat} {lv : List (Nat × Value)} {st : List Value} {ws : va_W} (X : CX κ l y cc nL own Ts ret rm G A) {P : Prop} [Decidable P] {off : Int} {tgt : Nat} (hd : decode cc pc = .ok (.ifCond .eq off, 3)) (ht : (pc : Int) + off = (tgt : Int)) (kt : ¬ P → JJ κ nL G A cs ss Q tgt lv st ws) (kf : P → JJ κ nL G A cs ss Q (pc + 3) lv st ws) : JJ κ nL G A cs ss Q pc lv (.int (b2i (decide P)) :: st) ws :=
  j_ifb_eq X hd ht (fun c => kt (of_decide_eq_false c)) (fun c => kf (of_decide_eq_true c))
theorem j_ifd_ne {κ : jK} {l : Launch} {y : MethodName} {cc : ByteArray} {nL : Nat} {own : String} {Ts : List Cond} {ret : Option FieldType} {rm : Room} {G : jG} {A : Nat → Prop} {cs ss : Nat} {Q : State → Prop} {pc : Nat} {lv : List (Nat × Value)} {st : List Value} {ws : va_W} (X : CX κ l y cc nL own Ts ret rm G A) {P : Prop} [Decidable P] {off : Int} {tgt : Nat} (hd : decode cc pc = .ok (.ifCond .ne off, 3)) (ht : (pc : Int) + off = (tgt : Int)) (kt : P → JJ κ nL G A cs ss Q tgt lv st ws) (kf : ¬ P → JJ κ nL G A cs ss Q (pc + 3) lv st ws) : JJ κ nL G A cs ss Q pc lv (.int (b2i (decide P)) :: st) ws :=
  j_ifb_ne X hd ht (fun c => kt (of_decide_eq_true c)) (fun c => kf (of_decide_eq_false c))
/-- the first i places hold v -/
def fil {α : Type} (v : α) (f : Nat → α) (i : Nat) : Nat → α := fun k => if k < i then v else f k
theorem fil_0 {α : Type} (v : α) (f : Nat → α) : fil v f 0 = f := by funext k; simp [fil]
theorem fil_s {α : Type} (v : α) (f : Nat → α) (i : Nat) : va_up (fil v f i) i v = fil v f (i + 1) := by
  funext k
  simp only [va_up, fil]
  by_cases h : k = i
  · subst h; simp
  · by_cases h2 : k < i
    · simp [h, h2, Nat.lt_succ_of_lt h2]
    · have : ¬ k < i + 1 := by omega
      simp [h, h2, this]
end
section
/-! The words of the document, as functions. -/
theorem r1 {B : Bool} (h : B = true) : some (Value.int (nI 1)) = some (Value.int (b2i B)) := by rw [h]; rfl
theorem r0 {B : Bool} (h : B = false) : some (Value.int (nI 0)) = some (Value.int (b2i B)) := by rw [h]; rfl
/-- a number from 0 on, below n -/
def inR (x : Int32) (n : Nat) : Bool := decide (¬ x < 0) && decide (¬ nI n ≤ x)
theorem inR_of {x : Int32} {n : Nat} (h : inR x n = true) (hn : n < 2 ^ 31) : ∃ j : Nat, j < n ∧ x = nI j := by
  simp only [inR, Bool.and_eq_true, decide_eq_true_eq] at h
  obtain ⟨j, hj, rfl⟩ := nI_of h.1
  refine ⟨j, ?_, rfl⟩
  rcases Nat.lt_or_ge j n with q | q
  · exact q
  · exact absurd (nI_le q hj) h.2
theorem inR_nI {j n : Nat} (hj : j < 2 ^ 31) (hn : n < 2 ^ 31) : inR (nI j) n = decide (j < n) := by
  simp only [inR, nI_pos hj, not_false_eq_true, decide_true, Bool.true_and]
  have := nI_leI hn hj
  by_cases h : j < n
  · simp only [h, decide_true, decide_eq_true_eq, this]; omega
  · simp only [h, decide_false, decide_eq_false_iff_not, this]; omega
/-- elder e and beginner b CAN be a pair -/
def canB (le lb : Nat → Nat) (br : Nat → Bool) (e b : Nat) : Bool := decide (le (e * 16 + b) ≠ 0) && decide (lb (e * 16 + b) ≠ 0) && !br (e * 16 + b)
/-- beginner b PREFERS elder e to elder o -/
def prB (lb : Nat → Nat) (b e o : Nat) : Bool := decide (lb (o * 16 + b) < lb (e * 16 + b)) || (decide (lb (e * 16 + b) = lb (o * 16 + b)) && decide (e < o))
def prBO (lb : Nat → Nat) (b e : Nat) (o : Option Nat) : Bool := match o with
  | none => true
  | some o => prB lb b e o
/-- elder e PREFERS beginner b to beginner o -/
def prE (le : Nat → Nat) (e b o : Nat) : Bool := decide (le (e * 16 + o) < le (e * 16 + b)) || (decide (le (e * 16 + b) = le (e * 16 + o)) && decide (b < o))
/-! numbers of 64 bits -/
theorem lrem_lN {a b : Nat} (ha : a < 2 ^ 63) (h0 : 0 < b) (hb : b < 2 ^ 63) : lN a - lN a / lN b * lN b = lN (a % b) := pk_lRem ha h0 hb
/-- Euclid: after st steps -/
def euc (a b st g m : Nat) : Prop := Nat.gcd g m = Nat.gcd a b ∧ ((st = 0 ∧ g * m ≤ a * b) ∨ m ≤ g) ∧ g * m * 2 ^ st ≤ 2 * (a * b) ∧ g < 2 ^ 49 ∧ m < 2 ^ 49
theorem euc_0 {a b : Nat} (ha : a < 2 ^ 49) (hb : b < 2 ^ 49) : euc a b 0 a b := ⟨rfl, Or.inl ⟨rfl, Nat.le_refl _⟩, by simp only [Nat.pow_zero, Nat.mul_one]; omega, ha, hb⟩
theorem euc_s {a b st g m : Nat} (h : euc a b st g m) (hm : m ≠ 0) : euc a b (st + 1) m (g % m) := by
  obtain ⟨h1, h2, h3, h4, h5⟩ := h
  have hlt : g % m < m := Nat.mod_lt _ (Nat.pos_of_ne_zero hm)
  refine ⟨?_, Or.inr (Nat.le_of_lt hlt), ?_, h5, by omega⟩
  · rw [← h1, Nat.gcd_comm g m, Nat.gcd_rec m g, Nat.gcd_comm]
  · rcases Nat.lt_or_ge g m with q | q
    · rcases h2 with h2 | h2
      · obtain ⟨h2, h9⟩ := h2
        subst h2
        rw [Nat.mod_eq_of_lt q, Nat.mul_comm m g]
        have : g * m * 2 ^ (0 + 1) = 2 * (g * m) := by rw [Nat.zero_add, Nat.pow_one]; omega
        omega
      · omega
    · have hh : 2 * (g % m) ≤ g := by
        have e := Nat.div_add_mod g m
        have : 1 ≤ g / m := (Nat.one_le_div_iff (Nat.pos_of_ne_zero hm)).mpr q
        have : m * 1 ≤ m * (g / m) := Nat.mul_le_mul_left m this
        omega
      calc m * (g % m) * 2 ^ (st + 1) = m * (2 * (g % m)) * 2 ^ st := by rw [Nat.pow_succ]; simp only [Nat.mul_assoc, Nat.mul_comm, Nat.mul_left_comm]
        _ ≤ m * g * 2 ^ st := Nat.mul_le_mul_right _ (Nat.mul_le_mul_left m hh)
        _ ≤ 2 * (a * b) := by rw [Nat.mul_comm m g]; exact h3
theorem euc_end {a b st g m : Nat} (h : euc a b st g m) (ha : a < 2 ^ 49) (hb : b < 2 ^ 49) (hst : 100 ≤ st ∨ m = 0) : g = Nat.gcd a b := by
  obtain ⟨h1, h2, h3, h4, h5⟩ := h
  have hm : m = 0 := by
    rcases hst with hst | hst
    · rcases Nat.eq_zero_or_pos m with q | q
      · exact q
      · exfalso
        have hg : m ≤ g := by
          rcases h2 with h2 | h2
          · omega
          · exact h2
        have h6 : 1 * 1 ≤ g * m := Nat.mul_le_mul (by omega) q
        have h7 : 2 ^ 100 ≤ 2 ^ st := Nat.pow_le_pow_right (by decide) hst
        have h8 : 1 * 2 ^ 100 ≤ g * m * 2 ^ st := Nat.mul_le_mul (by omega) h7
        have h9 : a * b ≤ 2 ^ 49 * 2 ^ 49 := Nat.mul_le_mul (Nat.le_of_lt ha) (Nat.le_of_lt hb)
        have e1 : (2 : Nat) ^ 49 * 2 ^ 49 = 2 ^ 98 := by decide
        have e2 : (2 : Nat) ^ 100 = 4 * 2 ^ 98 := by decide
        rw [e1] at h9
        omega
    · exact hst
  subst hm
  rw [← h1, Nat.gcd_zero_right]
/-- what the fraction x by k is cut by -/
def gdl (x : Int64) (k : Nat) : Nat := Nat.gcd x.toInt.natAbs k
theorem abs_lN (x : Int64) (h : x.toInt.natAbs < 2 ^ 49) : (if 0 < x then x else -x) = lN x.toInt.natAbs := by
  have e0 : (0 : Int64).toInt = 0 := by decide
  apply Int64.toInt_inj.mp
  rw [pk_lT (by omega)]
  split
  · rename_i h0
    rw [Int64.lt_iff_toInt_lt, e0] at h0
    omega
  · rename_i h0
    rw [Int64.lt_iff_toInt_lt, e0] at h0
    have hn : (-x).toInt = -x.toInt := by
      rw [Int64.toInt_neg]
      have h1 : -9223372036854775808 ≤ -x.toInt := by omega
      have h2 : -x.toInt < 9223372036854775808 := by omega
      rw [Int.bmod_eq_of_le (by omega) (by omega)]
    rw [hn]
    omega
theorem gdl_pos {x : Int64} {k : Nat} (h : 0 < k) : 0 < gdl x k := Nat.gcd_pos_of_pos_right _ h
theorem gdl_le {x : Int64} {k : Nat} (h : 0 < k) : gdl x k ≤ k := Nat.gcd_le_right _ h
theorem lN_ne0 {n : Nat} (h0 : 0 < n) (h : n < 2 ^ 63) : ¬ lN n = 0 := fun e => by
  have := (pk_lEQ h (by decide : 0 < 2 ^ 63)).mp e
  omega
theorem lN_gt0 {n : Nat} (h0 : 0 < n) (h : n < 2 ^ 63) : ¬ lN n ≤ 0 := fun e => by
  have := (pk_lLE h (by decide : 0 < 2 ^ 63)).mp e
  omega
/-- GOALS: reached as of a day; fuel n -/
def rch (gc : Nat → Option Nat) (gd : Nat → Nat) (gh : Nat → Option Nat) : Nat → Option Nat → Nat → Bool
  | 0, _, _ => true
  | n + 1, k, by_ => match k with
    | none => true
    | some k => match gc k with
      | none => false
      | some c => if by_ < c then false else if gd k < c then false else rch gc gd gh n (gh k) c
def knO (td : Nat → Nat) (o : Option Nat) (n : Nat) : Bool := match o with
  | none => true
  | some c => decide (td c ≤ td n)
/-- MEETINGS: the telling that counts, of those before n -/
def knw (tm td : Nat → Nat) (m day : Nat) : Nat → Option Nat
  | 0 => none
  | n + 1 => if tm n = m ∧ td n ≤ day ∧ knO td (knw tm td m day n) n = true then some n else knw tm td m day n
def knwS (tk : Nat → Bool) (o : Option Nat) : Nat := match o with
  | none => 2
  | some c => if tk c then 0 else 1
/-- of the meetings before n: those of b due by day that are known as w -/
def metC (mb md tm td : Nat → Nat) (tk : Nat → Bool) (tt b day w : Nat) : Nat → Nat
  | 0 => 0
  | n + 1 => metC mb md tm td tk tt b day w n + if mb n = b ∧ md n ≤ day ∧ knwS tk (knw tm td n day tt) = w then 1 else 0
/-- LASTING -/
def cntE (rm : Nat → Nat) (re : Nat → Bool) (t : Nat) : Nat → Nat
  | 0 => 0
  | n + 1 => cntE rm re t n + if re n = true ∧ rm n = t then 1 else 0
def cntR (rm : Nat → Nat) (t : Nat) : Nat → Nat
  | 0 => 0
  | n + 1 => cntR rm t n + if t ≤ rm n then 1 else 0
theorem cntE_le (rm : Nat → Nat) (re : Nat → Bool) (t : Nat) : ∀ n, cntE rm re t n ≤ cntR rm t n
  | 0 => Nat.le_refl _
  | n + 1 => by
    have := cntE_le rm re t n
    simp only [cntE, cntR]
    split
    · rename_i h
      rw [if_pos (by omega)]
      omega
    · split <;> omega
theorem cntR_le (rm : Nat → Nat) (t : Nat) : ∀ n, cntR rm t n ≤ n
  | 0 => Nat.le_refl _
  | n + 1 => by
    have := cntR_le rm t n
    simp only [cntR]
    split <;> omega
def shA (rm : Nat → Nat) (re : Nat → Bool) (n : Nat) : Nat → Nat
  | 0 => 1
  | t + 1 => if cntE rm re (t + 1) n = 0 then shA rm re n t else shA rm re n t * (cntR rm (t + 1) n - cntE rm re (t + 1) n)
def shB (rm : Nat → Nat) (re : Nat → Bool) (n : Nat) : Nat → Nat
  | 0 => 1
  | t + 1 => if cntE rm re (t + 1) n = 0 then shB rm re n t else shB rm re n t * cntR rm (t + 1) n
/-- TRAYS -/
def cutL (so : Nat) (v : Int64) : Int64 := match so with
  | 0 => v.toInt32.toInt8.toInt32.toInt64
  | 1 => v.toInt32.toInt16.toInt32.toInt64
  | 2 => v.toInt32.toInt64
  | _ => v
def hasP (x z : Int32) (n : Nat) : Bool := decide (¬ x < 0) && decide (¬ nI n < x) && decide (¬ (nI n - x) < z)
def outc (u : Nat → Int64) : Nat → Bool
  | 0 => true
  | n + 1 => outc u n && decide (¬ u n < 0) && decide (u n ≤ 100)
theorem outc_bad {u : Nat → Int64} {i : Nat} (h : u i < 0 ∨ ¬ u i ≤ 100) : ∀ n, i < n → outc u n = false
  | 0, hi => absurd hi (Nat.not_lt_zero _)
  | n + 1, hi => by
    rcases Nat.lt_or_ge i n with q | q
    · simp [outc, outc_bad h n q]
    · have e : i = n := by omega
      subst e
      rcases h with h | h <;> simp [outc, h]
end
section
/-! PAIRS: what the class works out, as functions. -/
def cntO (eb : Nat → Option Nat) (e : Nat) : Nat → Nat
  | 0 => 0
  | n + 1 => cntO eb e n + if eb n = some e then 1 else 0
theorem cntO_le (eb : Nat → Option Nat) (e : Nat) : ∀ n, cntO eb e n ≤ n
  | 0 => Nat.le_refl _
  | n + 1 => by
    have := cntO_le eb e n
    simp only [cntO]
    split <;> omega
theorem cntO_pos {eb : Nat → Option Nat} {e b : Nat} (h : eb b = some e) : ∀ n, b < n → 1 ≤ cntO eb e n
  | 0, hb => absurd hb (Nat.not_lt_zero _)
  | n + 1, hb => by
    simp only [cntO]
    rcases Nat.lt_or_ge b n with q | q
    · have := cntO_pos h n q
      omega
    · have e2 : b = n := by omega
      subst e2
      rw [if_pos h]
      omega
def cntS (eb : Nat → Option Nat) : Nat → Nat
  | 0 => 0
  | n + 1 => cntS eb n + if eb n = none then 0 else 1
theorem cntS_le (eb : Nat → Option Nat) : ∀ n, cntS eb n ≤ n
  | 0 => Nat.le_refl _
  | n + 1 => by
    have := cntS_le eb n
    simp only [cntS]
    split <;> omega
def prEO (le : Nat → Nat) (e : Nat) (o : Option Nat) (n : Nat) : Bool := match o with
  | none => true
  | some w => prE le e w n
/-- of elder e's beginners before n the one whom they prefer least -/
def lst (le : Nat → Nat) (eb : Nat → Option Nat) (e : Nat) : Nat → Option Nat
  | 0 => none
  | n + 1 => if eb n = some e ∧ prEO le e (lst le eb e n) n = true then some n else lst le eb e n
theorem lst_ob (le : Nat → Nat) (eb : Nat → Option Nat) (e : Nat) : ∀ n, ob n (lst le eb e n)
  | 0 => ob_n
  | n + 1 => by
    simp only [lst]
    split
    · exact ob_s (Nat.lt_succ_self n)
    · exact (lst_ob le eb e n).big (Nat.le_succ n)
def laO (lb : Nat → Nat) (b : Nat) (la : Option Nat) (n : Nat) : Bool := match la with
  | none => true
  | some j => prBO lb b j (some n)
/-- of the elders before n whom beginner b prefers, of those not asked yet -/
def nxt (le lb : Nat → Nat) (br : Nat → Bool) (b : Nat) (la : Option Nat) : Nat → Option Nat
  | 0 => none
  | n + 1 => if canB le lb br n b = true ∧ laO lb b la n = true ∧ prBO lb b n (nxt le lb br b la n) = true then some n else nxt le lb br b la n
theorem nxt_ob (le lb : Nat → Nat) (br : Nat → Bool) (b : Nat) (la : Option Nat) : ∀ n, ob n (nxt le lb br b la n)
  | 0 => ob_n
  | n + 1 => by
    simp only [nxt]
    split
    · exact ob_s (Nat.lt_succ_self n)
    · exact (nxt_ob le lb br b la n).big (Nat.le_succ n)
/-- beginner a asks elder e: who has whom then, and who is without an elder -/
def askF (pl le : Nat → Nat) (eb : Nat → Option Nat) (be e a : Nat) : (Nat → Option Nat) × Option Nat :=
  if cntO eb e 16 < pl e then (va_up eb a (some e), none) else
  match lst le eb e be with
  | none => (eb, some a)
  | some w => if prE le e a w = true then (va_up (va_up eb w none) a (some e), some w) else (eb, some a)
theorem ob_up {n i : Nat} {f : Nat → Option Nat} {v : Option Nat} (h : ∀ k, ob n (f k)) (hv : ob n v) : ∀ k, ob n (va_up f i v k) := fun k => by
  simp only [va_up]
  split
  · exact hv
  · exact h k
theorem none_up {n i : Nat} {f : Nat → Option Nat} {v : Option Nat} (h : ∀ k, n ≤ k → f k = none) (hi : i < n) : ∀ k, n ≤ k → va_up f i v k = none := fun k hk => by
  simp only [va_up]
  rw [if_neg (by omega)]
  exact h k hk
theorem askF_ob {pl le : Nat → Nat} {eb : Nat → Option Nat} {be e a : Nat} (heb : ∀ k, ob 12 (eb k)) (he : e < 12) (ha : a < 16) (hbe : be ≤ 16) : (∀ k, ob 12 ((askF pl le eb be e a).1 k)) ∧ ob 16 (askF pl le eb be e a).2 := by
  unfold askF
  have hl := lst_ob le eb e be
  split
  · exact ⟨ob_up heb (ob_s he), ob_n⟩
  · split
    · exact ⟨heb, ob_s ha⟩
    · rename_i w hw
      have hw16 : w < 16 := by have := hl w hw; omega
      split
      · exact ⟨ob_up (ob_up heb ob_n) (ob_s he), ob_s hw16⟩
      · exact ⟨heb, ob_s ha⟩
theorem askF_none {pl le : Nat → Nat} {eb : Nat → Option Nat} {be e a : Nat} (heb : ∀ k, 16 ≤ k → eb k = none) (ha : a < 16) (hbe : be ≤ 16) : ∀ k, 16 ≤ k → (askF pl le eb be e a).1 k = none := by
  unfold askF
  have hl := lst_ob le eb e be
  split
  · exact none_up heb ha
  · split
    · exact heb
    · rename_i w hw
      have hw16 : w < 16 := by have := hl w hw; omega
      split
      · exact none_up (none_up heb hw16) ha
      · exact heb
/-- the asking of one who seeks, and of those who lose their place by it -/
def seatF (pl le lb : Nat → Nat) (br : Nat → Bool) (el be : Nat) : Nat → (Nat → Option Nat) → (Nat → Option Nat) → Option Nat → (Nat → Option Nat) × (Nat → Option Nat)
  | 0, eb, la, _ => (eb, la)
  | n + 1, eb, la, sk => match sk with
    | none => (eb, la)
    | some s => match nxt le lb br s (la s) el with
      | none => (eb, la)
      | some e => seatF pl le lb br el be n (askF pl le eb be e s).1 (va_up la s (some e)) (askF pl le eb be e s).2
theorem seatF_ob {pl le lb : Nat → Nat} {br : Nat → Bool} {el be : Nat} (hel : el ≤ 12) (hbe : be ≤ 16) : ∀ (n : Nat) (eb la : Nat → Option Nat) (sk : Option Nat), (∀ k, ob 12 (eb k)) → (∀ k, ob 12 (la k)) → (∀ k, 16 ≤ k → eb k = none) → (∀ k, 16 ≤ k → la k = none) → ob 16 sk →
    ((∀ k, ob 12 ((seatF pl le lb br el be n eb la sk).1 k)) ∧ (∀ k, ob 12 ((seatF pl le lb br el be n eb la sk).2 k))) ∧ (∀ k, 16 ≤ k → (seatF pl le lb br el be n eb la sk).1 k = none) ∧ (∀ k, 16 ≤ k → (seatF pl le lb br el be n eb la sk).2 k = none)
  | 0, eb, la, sk, h1, h2, h3, h4, _ => ⟨⟨h1, h2⟩, h3, h4⟩
  | n + 1, eb, la, sk, h1, h2, h3, h4, h5 => by
    unfold seatF
    cases sk with
    | none => exact ⟨⟨h1, h2⟩, h3, h4⟩
    | some s =>
      have hs := h5 s rfl
      dsimp only
      split
      · exact ⟨⟨h1, h2⟩, h3, h4⟩
      · rename_i e he
        have he12 : e < 12 := by have := nxt_ob le lb br s (la s) el e he; omega
        exact seatF_ob hel hbe n _ _ _ (askF_ob h1 he12 hs hbe).1 (ob_up h2 (ob_s he12)) (askF_none h3 hs hbe) (none_up h4 hs) (askF_ob h1 he12 hs hbe).2
def bestF (pl le lb : Nat → Nat) (br : Nat → Bool) (el be : Nat) : Nat → (Nat → Option Nat) × (Nat → Option Nat)
  | 0 => (fun _ => none, fun _ => none)
  | n + 1 => seatF pl le lb br el be 192 (bestF pl le lb br el be n).1 (bestF pl le lb br el be n).2 (some n)
theorem bestF_ob {pl le lb : Nat → Nat} {br : Nat → Bool} {el be : Nat} (hel : el ≤ 12) (hbe : be ≤ 16) : ∀ n, n ≤ be → ((∀ k, ob 12 ((bestF pl le lb br el be n).1 k)) ∧ (∀ k, ob 12 ((bestF pl le lb br el be n).2 k))) ∧ (∀ k, 16 ≤ k → (bestF pl le lb br el be n).1 k = none) ∧ (∀ k, 16 ≤ k → (bestF pl le lb br el be n).2 k = none)
  | 0, _ => ⟨⟨fun _ => ob_n, fun _ => ob_n⟩, fun _ _ => rfl, fun _ _ => rfl⟩
  | n + 1, hn => by
    have h := bestF_ob (pl := pl) (le := le) (lb := lb) (br := br) (el := el) (be := be) hel hbe n (by omega)
    exact seatF_ob hel hbe 192 _ _ _ h.1.1 h.1.2 h.2.1 h.2.2 (ob_s (by omega))
/-- elder e and beginner b BLOCK -/
def blk (pl le lb : Nat → Nat) (br : Nat → Bool) (eb : Nat → Option Nat) (be e b : Nat) : Bool :=
  if eb b = some e then false else if canB le lb br e b = false then false else if prBO lb b e (eb b) = false then false else if cntO eb e 16 < pl e then true else
  match lst le eb e be with
  | none => false
  | some w => prE le e b w
def cbI (pl le lb : Nat → Nat) (br : Nat → Bool) (eb : Nat → Option Nat) (be e : Nat) : Nat → Nat
  | 0 => 0
  | n + 1 => cbI pl le lb br eb be e n + if blk pl le lb br eb be e n = true then 1 else 0
def cbO (pl le lb : Nat → Nat) (br : Nat → Bool) (eb : Nat → Option Nat) (be : Nat) : Nat → Nat
  | 0 => 0
  | n + 1 => cbO pl le lb br eb be n + cbI pl le lb br eb be n be
theorem fil_none {f : Nat → Option Nat} {n : Nat} (h : ∀ k, n ≤ k → f k = none) : fil none f n = fun _ => none := by
  funext k
  simp only [fil]
  split
  · rfl
  · exact h k (by omega)
end
section
/-! CHANGE: the search of the class, as functions. -/
def mayM (le lb : Nat → Nat) (br : Nat → Bool) (eb : Nat → Option Nat) (m e : Nat) : Bool := decide (¬ some e = eb m) && canB le lb br e m
def frB (pl : Nat → Nat) (eb : Nat → Option Nat) (f0 e : Nat) : Bool := decide (cntO eb e 16 - (if eb f0 = some e then 1 else 0) < pl e)
def ffn (p : Nat → Bool) : Nat → Option Nat
  | 0 => none
  | n + 1 => match ffn p n with
    | some j => some j
    | none => if p n then some n else none
theorem ffn_ob (p : Nat → Bool) : ∀ n, ob n (ffn p n)
  | 0 => ob_n
  | n + 1 => by
    have h := ffn_ob p n
    simp only [ffn]
    split
    · rename_i j hj
      exact ob_s (by have := h j hj; omega)
    · split
      · exact ob_s (Nat.lt_succ_self n)
      · exact ob_n
theorem ffn_at {p : Nat → Bool} {e : Nat} (h0 : ffn p e = none) (h1 : p e = true) : ∀ n, e < n → ffn p n = some e
  | 0, h => absurd h (Nat.not_lt_zero _)
  | n + 1, h => by
    rcases Nat.lt_or_ge e n with q | q
    · simp [ffn, ffn_at h0 h1 n q]
    · have e2 : e = n := by omega
      subst e2
      simp [ffn, h0, h1]
def freeE (pl le lb : Nat → Nat) (br : Nat → Bool) (eb : Nat → Option Nat) (f0 el m : Nat) : Option Nat := ffn (fun e => mayM le lb br eb m e && frB pl eb f0 e) el
abbrev qT : Type := (Nat → Option Nat) × (Nat → Nat) × Nat
def qlS (eb : Nat → Option Nat) (f0 m e b : Nat) (s : qT) : qT := if (¬ b = f0 ∧ s.1 b = none) ∧ eb b = some e ∧ s.2.2 < 16 then (va_up s.1 b (some m), va_up s.2.1 s.2.2 b, s.2.2 + 1) else s
def qlB (eb : Nat → Option Nat) (f0 m e : Nat) (s : qT) : Nat → qT
  | 0 => s
  | n + 1 => qlS eb f0 m e n (qlB eb f0 m e s n)
def qlE (le lb : Nat → Nat) (br : Nat → Bool) (eb : Nat → Option Nat) (f0 be m : Nat) (s : qT) : Nat → qT
  | 0 => s
  | n + 1 => if mayM le lb br eb m n = true then qlB eb f0 m n (qlE le lb br eb f0 be m s n) be else qlE le lb br eb f0 be m s n
def qOk (s : qT) : Prop := (∀ k, ob 16 (s.1 k)) ∧ (∀ k, s.2.1 k < 16) ∧ s.2.2 ≤ 16
theorem nup_lt {n i v : Nat} {f : Nat → Nat} (h : ∀ k, f k < n) (hv : v < n) : ∀ k, va_up f i v k < n := fun k => by
  simp only [va_up]
  split
  · exact hv
  · exact h k
theorem nup_le {n i v : Nat} {f : Nat → Nat} (h : ∀ k, f k ≤ n) (hv : v ≤ n) : ∀ k, va_up f i v k ≤ n := fun k => by
  simp only [va_up]
  split
  · exact hv
  · exact h k
theorem qlS_ok {eb : Nat → Option Nat} {f0 m e b : Nat} {s : qT} (h : qOk s) (hm : m < 16) (hb : b < 16) : qOk (qlS eb f0 m e b s) := by
  unfold qlS
  split
  · rename_i hc
    exact ⟨ob_up h.1 (ob_s hm), nup_lt h.2.1 hb, by have := hc.2.2; simp only; omega⟩
  · exact h
theorem qlB_ok {eb : Nat → Option Nat} {f0 m e : Nat} {s : qT} (h : qOk s) (hm : m < 16) : ∀ n, n ≤ 16 → qOk (qlB eb f0 m e s n)
  | 0, _ => h
  | n + 1, hn => qlS_ok (qlB_ok h hm n (by omega)) hm (by omega)
theorem qlE_ok {le lb : Nat → Nat} {br : Nat → Bool} {eb : Nat → Option Nat} {f0 be m : Nat} {s : qT} (h : qOk s) (hm : m < 16) (hbe : be ≤ 16) : ∀ n, qOk (qlE le lb br eb f0 be m s n)
  | 0 => h
  | n + 1 => by
    simp only [qlE]
    split
    · exact qlB_ok (qlE_ok h hm hbe n) hm be hbe
    · exact qlE_ok h hm hbe n
def flF (pl le lb : Nat → Nat) (br : Nat → Bool) (eb : Nat → Option Nat) (f0 el be : Nat) : Nat → qT → Option Nat → Option Nat × qT × Option Nat
  | 0, s, fe => (none, s, fe)
  | n + 1, s, fe => if 15 - n < s.2.2 then
      (match freeE pl le lb br eb f0 el (s.2.1 (15 - n)) with
      | some x => (some (s.2.1 (15 - n)), s, some x)
      | none => flF pl le lb br eb f0 el be n (qlE le lb br eb f0 be (s.2.1 (15 - n)) s el) none)
    else (none, s, fe)
def flI (tk : Nat → Option Nat) (qu : Nat → Nat) (f0 : Nat) : qT := (fil none tk 16, va_up qu 0 f0, 1)
def mvF (tk : Nat → Option Nat) : Nat → (Nat → Option Nat) → Option Nat → Option Nat → Nat → (Nat → Option Nat) × Nat
  | 0, eb, _, _, k => (eb, k)
  | n + 1, eb, m, to, k => match m with
    | none => (eb, k)
    | some m => mvF tk n (va_up eb m to) (tk m) (eb m) (k + 1)
theorem ob_fil {n i : Nat} {f : Nat → Option Nat} (h : ∀ k, ob n (f k)) : ∀ k, ob n (fil none f i k) := fun k => by
  simp only [fil]
  split
  · exact ob_n
  · exact h k
end
section
/-! TRIALS: bits, sums over sets, draws. -/
def ush (x : Int32) (k : Nat) : Int32 := (x.toUInt32 >>> ((nI k).toUInt32 &&& Int32.toUInt32 31)).toInt32
def bc1 (x : Int32) : Int32 := x - (ush x 1 &&& 1431655765)
def bc2 (x : Int32) : Int32 := (x &&& 858993459) + (ush x 2 &&& 858993459)
def bc3 (x : Int32) : Int32 := (x + ush x 4) &&& 252645135
def bc4 (x : Int32) : Int32 := x + ush x 8
def bc5 (x : Int32) : Int32 := x + ush x 16
def bcF (x : Int32) : Int32 := bc5 (bc4 (bc3 (bc2 (bc1 x)))) &&& nI 63
def tzm (x : Int32) : Int32 := (x ^^^ oI none) &&& (x - nI 1)
def tz3 (x : Int32) (c : Nat) : Int32 := if x ≤ 4 then nI c + ush x 1 else nI (c + 2) + ush (ush x 2) 1
def tz2 (x : Int32) (c : Nat) : Int32 := if x ≤ 16 then tz3 x c else tz3 (ush x 4) (c + 4)
def tz1 (x : Int32) (c : Nat) : Int32 := if x ≤ 256 then tz2 x c else tz2 (ush x 8) (c + 8)
def tzF (x : Int32) : Int32 := if 0 < tzm x then (if tzm x ≤ 65536 then tz1 (tzm x) 1 else tz1 (ush (tzm x) 16) 17) else tzm x &&& nI 32
def nxF (x : Int32) : Int32 := (x + (x &&& -x)) ||| ((ush (x ^^^ (x + (x &&& -x))) 2).toUInt32 >>> ((tzF (x &&& -x)).toUInt32 &&& Int32.toUInt32 31)).toInt32
theorem nI_and (a b : Nat) : nI a &&& nI b = nI (a &&& b) := by
  apply Int32.toBitVec_inj.mp
  simp only [nI, Int32.toBitVec_and]
  show BitVec.ofNat 32 a &&& BitVec.ofNat 32 b = BitVec.ofNat 32 (a &&& b)
  exact BitVec.ofNat_and.symm
def tzn : Nat → Nat → Nat
  | 0, _ => 0
  | f + 1, s => if s % 2 = 1 then 0 else 1 + tzn f (s / 2)
theorem tz8_tab : ∀ s : Fin 256, s.val = 0 ∨ (tzF (nI s.val) = nI (tzn 8 s.val) ∧ tzn 8 s.val < 8 ∧ s.val.testBit (tzn 8 s.val) = true ∧ ∀ i : Fin 8, (s.val &&& (s.val - 1)).testBit i.val = (s.val.testBit i.val && decide (i.val ≠ tzn 8 s.val))) := by decide +kernel
theorem tz8 {s : Nat} (h0 : 0 < s) (h : s < 256) : tzF (nI s) = nI (tzn 8 s) ∧ tzn 8 s < 8 ∧ s.testBit (tzn 8 s) = true ∧ ∀ i, i < 8 → (s &&& (s - 1)).testBit i = (s.testBit i && decide (i ≠ tzn 8 s)) := by
  rcases tz8_tab ⟨s, h⟩ with q | ⟨q1, q2, q3, q4⟩
  · exact absurd q (by simp only; omega)
  · exact ⟨q1, q2, q3, fun i hi => q4 ⟨i, hi⟩⟩
/-- the sum of g over the set s, of the first m -/
def bsum (g : Nat → Int64) (s : Nat) : Nat → Int64
  | 0 => 0
  | i + 1 => bsum g s i + if s.testBit i then g i else 0
theorem bsum_cong {g : Nat → Int64} {s t : Nat} : ∀ m, (∀ i, i < m → s.testBit i = t.testBit i) → bsum g s m = bsum g t m
  | 0, _ => rfl
  | m + 1, h => by rw [bsum, bsum, bsum_cong m (fun i hi => h i (by omega)), h m (by omega)]
theorem bsum_drop {g : Nat → Int64} {s t j : Nat} (hj : s.testBit j = true) : ∀ m, (∀ i, i < m → t.testBit i = (s.testBit i && decide (i ≠ j))) → j < m → bsum g s m = bsum g t m + g j
  | 0, _, h => absurd h (Nat.not_lt_zero _)
  | m + 1, h, hm => by
    rw [bsum, bsum]
    rcases Nat.lt_or_ge j m with q | q
    · have h1 := h m (by omega)
      rw [bsum_drop hj m (fun i hi => h i (by omega)) q, h1]
      have : decide (m ≠ j) = true := decide_eq_true (by omega)
      rw [this, Bool.and_true, Int64.add_assoc, Int64.add_assoc, Int64.add_comm (g j)]
    · have e : j = m := by omega
      subst e
      have h1 := h j (by omega)
      have : decide (j ≠ j) = false := by simp
      rw [this, Bool.and_false] at h1
      rw [h1, hj]
      rw [bsum_cong (s := s) (t := t) j (fun i hi => by rw [h i (by omega)]; have : decide (i ≠ j) = true := decide_eq_true (by omega); rw [this, Bool.and_true])]
      simp
def lsm (u : Nat → Int64) (n fr s : Nat) : Int64 := bsum (fun i => if fr + i < n then u (fr + i) else 0) s 8
theorem lsm_0 (u : Nat → Int64) (n fr : Nat) : lsm u n fr 0 = 0 := by
  unfold lsm
  simp [bsum, Nat.zero_testBit]
theorem lsm_s {u : Nat → Int64} {n fr s : Nat} (h0 : 0 < s) (h : s < 256) : lsm u n fr (s &&& (s - 1)) + (if fr + tzn 8 s < n then u (fr + tzn 8 s) else 0) = lsm u n fr s := by
  obtain ⟨-, h2, h3, h4⟩ := tz8 h0 h
  unfold lsm
  exact (bsum_drop h3 8 h4 h2).symm
/-- g on the first j places, f behind -/
def pf {α : Type} (g f : Nat → α) (j : Nat) : Nat → α := fun k => if k < j then g k else f k
theorem pf_s {α : Type} (g f : Nat → α) (j : Nat) : va_up (pf g f j) j (g j) = pf g f (j + 1) := by
  funext k
  simp only [va_up, pf]
  by_cases h : k = j
  · subst h; simp
  · by_cases h2 : k < j
    · simp [h, h2, Nat.lt_succ_of_lt h2]
    · have : ¬ k < j + 1 := by omega
      simp [h, h2, this]
theorem pf_1 {α : Type} {g f : Nat → α} (h : f 0 = g 0) : pf g f 1 = f := by
  funext k
  simp only [pf]
  split
  · have : k = 0 := by omega
    subst this
    exact h.symm
  · rfl
theorem pf_in {α : Type} {g f : Nat → α} {j k : Nat} (h : k < j) : pf g f j k = g k := by simp [pf, h]
/-- how many sets of k among n, as it is worked out -/
def csF (n k : Nat) : Nat → Nat
  | 0 => 1
  | i + 1 => csF n k i * (n - k + (i + 1)) / (i + 1)
theorem csF_tab : ∀ n : Fin 17, ∀ k : Fin 17, ∀ i : Fin 17, csF n.val k.val i.val ≤ 200000 ∨ ¬ (k.val ≤ n.val ∧ i.val ≤ k.val) := by decide +kernel
theorem csF_le {n k i : Nat} (hn : n ≤ 16) (hk : k ≤ n) (hi : i ≤ k) : csF n k i ≤ 200000 := by
  rcases csF_tab ⟨n, by omega⟩ ⟨k, by omega⟩ ⟨i, by omega⟩ with q | q
  · exact q
  · exact absurd ⟨hk, hi⟩ q
/-- how many of the sets o 0 .. o (j-1) have a sum that is not less -/
def ngF (S : Nat → Int64) (t : Int64) (o : Nat → Nat) : Nat → Nat
  | 0 => 0
  | j + 1 => ngF S t o j + if S (o j) < t then 0 else 1
theorem ngF_le (S : Nat → Int64) (t : Int64) (o : Nat → Nat) : ∀ j, ngF S t o j ≤ j
  | 0 => Nat.le_refl _
  | j + 1 => by
    have := ngF_le S t o j
    simp only [ngF]
    split <;> omega
def lotS (s : Int64) : Int64 := (1103515245 * s + 12345) &&& 2147483647
def drF (n : Nat) : Nat → Int64 → Int32 → Int32 → Int32
  | 0, _, _, set => set
  | f + 1, s, left, set =>
    let s1 := lotS s
    let x := s1 >>> ((nI 16).toInt64 &&& 63)
    let d := (nI (f + 1)).toInt64
    if left.toInt64 ≤ x - x / d * d then drF n f s1 left set else drF n f s1 (left + (-1)) (set ||| (nI 1 <<< (nI (n - (f + 1)) &&& 31)))
theorem shl1_tab : ∀ n : Fin 31, nI 1 <<< (nI n.val &&& 31) = nI (2 ^ n.val) := by decide +kernel
theorem shl1 {n : Nat} (h : n < 31) : nI 1 <<< (nI n &&& 31) = nI (2 ^ n) := shl1_tab ⟨n, h⟩
theorem two_pow_le {n m : Nat} (h : n ≤ m) : 2 ^ n ≤ 2 ^ m := Nat.pow_le_pow_right (by decide) h
/-- the sum that two rows of sums give -/
def sm2 (f1 f2 : Nat → Int64) (s : Nat) : Int64 := f1 (s % 256) + f2 (s / 256 % 256)
end
section
set_option maxHeartbeats 4000000 in
set_option maxRecDepth 100000 in
theorem mX0_spot (l : Launch) (G : jG) (e : Nat) (b : Nat)  : MV l yX0_spot wsX0_spot ({ frames := 0, cells := 0, slots := 0, locals := 0 }) G [.int (nI e), .int (nI b)] [] (some (.int (nI (e * 16 + b)))) [] := by
  refine MF.ofJ (cc := cX0_spot) (maxL := 2) (ret := (some .int)) (own := RX0) (lv := [(0, .int (nI e)), (1, .int (nI b))]) (by decide) rfl rfl (Nat.le_of_ble_eq_true rfl) rfl ?_
  intro κ X
  refine j_iload_n (pc := 0) X dX0_spot_0 rfl 0 rfl ?_
  refine j_bipush (pc := 1) X (v := nI 16) dX0_spot_1 (by decide) ?_
  refine j_imul (pc := 3) X dX0_spot_3 ?_
  refine j_topi (z := nI (e * 16)) (pk_mul _ _) ?_
  refine j_iload_n (pc := 4) X dX0_spot_4 rfl 1 rfl ?_
  refine j_iadd (pc := 5) X dX0_spot_5 ?_
  refine j_topi (z := nI (e * 16 + b)) (nI_add _ _) ?_
  exact j_iret (pc := 6) X dX0_spot_6 ⟨rfl, rfl⟩

set_option maxHeartbeats 4000000 in
set_option maxRecDepth 100000 in
theorem mX0_isElder (l : Launch) (G : jG) (qc : Nat) (qc0 : Nat) (qc1 : Nat) (qc2 : Nat) (qc3 : Nat) (el : Nat) (be : Nat) (x : Int32)  : MV l yX0_isElder wsX0_isElder ({ frames := 0, cells := 0, slots := 0, locals := 0 }) G [.ref qc, .int x] [(qc, .inr (0, [.ref qc0, .ref qc1, .ref qc2, .ref qc3, .int (nI el), .int (nI be)]))] (some (.int (b2i (inR x el)))) [(qc, .inr (0, [.ref qc0, .ref qc1, .ref qc2, .ref qc3, .int (nI el), .int (nI be)]))] := by
  refine MF.ofJ (cc := cX0_isElder) (maxL := 2) (ret := (some .boolean)) (own := RX0) (lv := [(0, .ref qc), (1, .int x)]) (by decide) rfl rfl (Nat.le_of_ble_eq_true rfl) rfl ?_
  intro κ X
  have i_X0 : ∀ w ∈ wsX00, w ∈ wsX0_isElder := by decide +kernel
  refine j_iload_n (pc := 0) X dX0_isElder_0 rfl 1 rfl ?_
  refine j_if_lt (pc := 1) X (x := x) (tgt := 16) dX0_isElder_1 (by decide) (fun c_1 => ?_) (fun c_1 => ?_)
  · skip
    refine j_iconst (pc := 16) X (v := nI 0) dX0_isElder_16 (by decide) ?_
    exact j_zret (pc := 17) X (rfl) dX0_isElder_17 ⟨r0 (by simp [inR, c_1]), rfl⟩
  · skip
    refine j_iload_n (pc := 4) X dX0_isElder_4 rfl 1 rfl ?_
    refine j_aload_n (pc := 5) X dX0_isElder_5 rfl 0 rfl ?_
    refine j_get (pc := 6) X 0 i_X0 0 rfl rfl 4 (by decide) (by decide +kernel) rfl dX0_isElder_6 ?_
    refine j_icmp_ge (pc := 9) X (x := x) (z := nI el) (tgt := 16) dX0_isElder_9 (by decide) (fun c_9 => ?_) (fun c_9 => ?_)
    · skip
      refine j_iconst (pc := 16) X (v := nI 0) dX0_isElder_16 (by decide) ?_
      exact j_zret (pc := 17) X (rfl) dX0_isElder_17 ⟨r0 (by simp [inR, c_1, c_9]), rfl⟩
    · skip
      refine j_iconst (pc := 12) X (v := nI 1) dX0_isElder_12 (by decide) ?_
      refine j_goto (pc := 13) X (tgt := 17) dX0_isElder_13 (by decide) ?_
      exact j_zret (pc := 17) X (rfl) dX0_isElder_17 ⟨r1 (by simp [inR, c_1, c_9]), rfl⟩

set_option maxHeartbeats 4000000 in
set_option maxRecDepth 100000 in
theorem mX0_isBeginner (l : Launch) (G : jG) (qc : Nat) (qc0 : Nat) (qc1 : Nat) (qc2 : Nat) (qc3 : Nat) (el : Nat) (be : Nat) (x : Int32)  : MV l yX0_isBeginner wsX0_isBeginner ({ frames := 0, cells := 0, slots := 0, locals := 0 }) G [.ref qc, .int x] [(qc, .inr (0, [.ref qc0, .ref qc1, .ref qc2, .ref qc3, .int (nI el), .int (nI be)]))] (some (.int (b2i (inR x be)))) [(qc, .inr (0, [.ref qc0, .ref qc1, .ref qc2, .ref qc3, .int (nI el), .int (nI be)]))] := by
  refine MF.ofJ (cc := cX0_isBeginner) (maxL := 2) (ret := (some .boolean)) (own := RX0) (lv := [(0, .ref qc), (1, .int x)]) (by decide) rfl rfl (Nat.le_of_ble_eq_true rfl) rfl ?_
  intro κ X
  have i_X0 : ∀ w ∈ wsX00, w ∈ wsX0_isBeginner := by decide +kernel
  refine j_iload_n (pc := 0) X dX0_isBeginner_0 rfl 1 rfl ?_
  refine j_if_lt (pc := 1) X (x := x) (tgt := 16) dX0_isBeginner_1 (by decide) (fun c_1 => ?_) (fun c_1 => ?_)
  · skip
    refine j_iconst (pc := 16) X (v := nI 0) dX0_isBeginner_16 (by decide) ?_
    exact j_zret (pc := 17) X (rfl) dX0_isBeginner_17 ⟨r0 (by simp [inR, c_1]), rfl⟩
  · skip
    refine j_iload_n (pc := 4) X dX0_isBeginner_4 rfl 1 rfl ?_
    refine j_aload_n (pc := 5) X dX0_isBeginner_5 rfl 0 rfl ?_
    refine j_get (pc := 6) X 0 i_X0 0 rfl rfl 5 (by decide) (by decide +kernel) rfl dX0_isBeginner_6 ?_
    refine j_icmp_ge (pc := 9) X (x := x) (z := nI be) (tgt := 16) dX0_isBeginner_9 (by decide) (fun c_9 => ?_) (fun c_9 => ?_)
    · skip
      refine j_iconst (pc := 16) X (v := nI 0) dX0_isBeginner_16 (by decide) ?_
      exact j_zret (pc := 17) X (rfl) dX0_isBeginner_17 ⟨r0 (by simp [inR, c_1, c_9]), rfl⟩
    · skip
      refine j_iconst (pc := 12) X (v := nI 1) dX0_isBeginner_12 (by decide) ?_
      refine j_goto (pc := 13) X (tgt := 17) dX0_isBeginner_13 (by decide) ?_
      exact j_zret (pc := 17) X (rfl) dX0_isBeginner_17 ⟨r1 (by simp [inR, c_1, c_9]), rfl⟩

set_option maxHeartbeats 4000000 in
set_option maxRecDepth 100000 in
theorem mX0_areTwo (l : Launch) (G : jG) (qc : Nat) (qc0 : Nat) (qc1 : Nat) (qc2 : Nat) (qc3 : Nat) (el : Nat) (be : Nat) (x : Int32) (z : Int32)  : MV l yX0_areTwo wsX0_areTwo ({ frames := 1, cells := 0, slots := 0, locals := 21 }) G [.ref qc, .int x, .int z] [(qc, .inr (0, [.ref qc0, .ref qc1, .ref qc2, .ref qc3, .int (nI el), .int (nI be)]))] (some (.int (b2i (inR x el && inR z be)))) [(qc, .inr (0, [.ref qc0, .ref qc1, .ref qc2, .ref qc3, .int (nI el), .int (nI be)]))] := by
  refine MF.ofJ (cc := cX0_areTwo) (maxL := 3) (ret := (some .boolean)) (own := RX0) (lv := [(0, .ref qc), (1, .int x), (2, .int z)]) (by decide) rfl rfl (Nat.le_of_ble_eq_true rfl) rfl ?_
  intro κ X
  have i_X0 : ∀ w ∈ wsX00, w ∈ wsX0_areTwo := by decide +kernel
  refine j_aload_n (pc := 0) X dX0_areTwo_0 rfl 0 rfl ?_
  refine j_iload_n (pc := 1) X dX0_areTwo_1 rfl 1 rfl ?_
  refine j_ciP (pc := 2) X [0] rfl (j_rV X (b := qc) (As := [.int x]) (ci := 0) (rest := []) 1 (mX0_isElder l G qc qc0 qc1 qc2 qc3 el be x ) gX0_areTwo_X0_isElder rfl rfl rfl (by decide +kernel) ⟨Nat.le_of_ble_eq_true rfl, Nat.le_of_ble_eq_true rfl⟩ rfl rfl 0 rfl [0] rfl rfl rfl (Nat.le_of_ble_eq_true rfl) dX0_areTwo_2 ⟨Nat.le_of_ble_eq_true rfl, Nat.le_of_ble_eq_true rfl⟩) ?_
  refine j_ifb_eq (pc := 5) X (B := inR x el) (tgt := 20) dX0_areTwo_5 (by decide) (fun c_5 => ?_) (fun c_5 => ?_)
  · skip
    refine j_iconst (pc := 20) X (v := nI 0) dX0_areTwo_20 (by decide) ?_
    exact j_zret (pc := 21) X (rfl) dX0_areTwo_21 ⟨r0 (by simp [c_5]), rfl⟩
  · skip
    refine j_aload_n (pc := 8) X dX0_areTwo_8 rfl 0 rfl ?_
    refine j_iload_n (pc := 9) X dX0_areTwo_9 rfl 2 rfl ?_
    refine j_ciP (pc := 10) X [0] rfl (j_rV X (b := qc) (As := [.int z]) (ci := 0) (rest := []) 1 (mX0_isBeginner l G qc qc0 qc1 qc2 qc3 el be z ) gX0_areTwo_X0_isBeginner rfl rfl rfl (by decide +kernel) ⟨Nat.le_of_ble_eq_true rfl, Nat.le_of_ble_eq_true rfl⟩ rfl rfl 0 rfl [0] rfl rfl rfl (Nat.le_of_ble_eq_true rfl) dX0_areTwo_10 ⟨Nat.le_of_ble_eq_true rfl, Nat.le_of_ble_eq_true rfl⟩) ?_
    refine j_ifb_eq (pc := 13) X (B := inR z be) (tgt := 20) dX0_areTwo_13 (by decide) (fun c_13 => ?_) (fun c_13 => ?_)
    · skip
      refine j_iconst (pc := 20) X (v := nI 0) dX0_areTwo_20 (by decide) ?_
      exact j_zret (pc := 21) X (rfl) dX0_areTwo_21 ⟨r0 (by simp [c_5, c_13]), rfl⟩
    · skip
      refine j_iconst (pc := 16) X (v := nI 1) dX0_areTwo_16 (by decide) ?_
      refine j_goto (pc := 17) X (tgt := 21) dX0_areTwo_17 (by decide) ?_
      exact j_zret (pc := 21) X (rfl) dX0_areTwo_21 ⟨r1 (by simp [c_5, c_13]), rfl⟩

set_option maxHeartbeats 4000000 in
set_option maxRecDepth 100000 in
theorem mX0_addElder (l : Launch) (G : jG) (qc : Nat) (qc0 : Nat) (qc1 : Nat) (qc2 : Nat) (qc3 : Nat) (el : Nat) (be : Nat) (pl : Nat → Nat) (p : Nat) (hel : el < 12) : MV l yX0_addElder wsX0_addElder ({ frames := 0, cells := 0, slots := 0, locals := 0 }) G [.ref qc, .int (nI p)] [(qc, .inr (0, [.ref qc0, .ref qc1, .ref qc2, .ref qc3, .int (nI el), .int (nI be)])), kI G qc0 12 (nF pl)] (some (.int (nI el))) [(qc, .inr (0, [.ref qc0, .ref qc1, .ref qc2, .ref qc3, .int (nI (el + 1)), .int (nI be)])), kI G qc0 12 (nF (va_up pl el p))] := by
  refine MF.ofJ (cc := cX0_addElder) (maxL := 2) (ret := (some .int)) (own := RX0) (lv := [(0, .ref qc), (1, .int (nI p))]) (by decide) rfl rfl (Nat.le_of_ble_eq_true rfl) rfl ?_
  intro κ X
  have i_X0 : ∀ w ∈ wsX00, w ∈ wsX0_addElder := by decide +kernel
  refine j_aload_n (pc := 0) X dX0_addElder_0 rfl 0 rfl ?_
  refine j_get (pc := 1) X 0 i_X0 0 rfl rfl 0 (by decide) (by decide +kernel) rfl dX0_addElder_1 ?_
  refine j_aload_n (pc := 4) X dX0_addElder_4 rfl 0 rfl ?_
  refine j_get (pc := 5) X 0 i_X0 0 rfl rfl 4 (by decide) (by decide +kernel) rfl dX0_addElder_5 ?_
  refine j_iload_n (pc := 8) X dX0_addElder_8 rfl 1 rfl ?_
  refine j_iast (pc := 9) X (f2 := (nF (va_up pl el p))) (ws' := [(qc, .inr (0, [.ref qc0, .ref qc1, .ref qc2, .ref qc3, .int (nI el), .int (nI be)])), kI G qc0 12 (nF (va_up pl el p))]) 1 rfl (vp_in_nI (by omega) (by decide)) dX0_addElder_9 (by rw [nI_clamp (by omega)]; exact nF_up pl el p) rfl ?_
  refine j_aload_n (pc := 10) X dX0_addElder_10 rfl 0 rfl ?_
  refine j_dup (pc := 11) X dX0_addElder_11 rfl ?_
  refine j_get (pc := 12) X 0 i_X0 0 rfl rfl 4 (by decide) (by decide +kernel) rfl dX0_addElder_12 ?_
  refine j_iconst (pc := 15) X (v := nI 1) dX0_addElder_15 (by decide) ?_
  refine j_iadd (pc := 16) X dX0_addElder_16 ?_
  refine j_topi (z := nI (el + 1)) (nI_add _ _) ?_
  refine j_put (pc := 17) X (v := .int (nI (el + 1))) (ws' := [(qc, .inr (0, [.ref qc0, .ref qc1, .ref qc2, .ref qc3, .int (nI (el + 1)), .int (nI be)])), kI G qc0 12 (nF (va_up pl el p))]) 0 i_X0 tyX0 tyX0_ok nmX0 0 rfl rfl 4 (by decide) (by decide +kernel) (by decide) (rfl) (rfl) (Nat.le_of_ble_eq_true rfl) dX0_addElder_17 rfl ?_
  refine j_aload_n (pc := 20) X dX0_addElder_20 rfl 0 rfl ?_
  refine j_get (pc := 21) X 0 i_X0 0 rfl rfl 4 (by decide) (by decide +kernel) rfl dX0_addElder_21 ?_
  refine j_iconst (pc := 24) X (v := nI 1) dX0_addElder_24 (by decide) ?_
  refine j_isub (pc := 25) X dX0_addElder_25 ?_
  refine j_topi (z := nI (el + 1 - 1)) (pk_sub (by omega)) ?_
  exact j_iret (pc := 26) X dX0_addElder_26 ⟨by simp, rfl⟩

set_option maxHeartbeats 4000000 in
set_option maxRecDepth 100000 in
theorem mX0_addBeginner (l : Launch) (G : jG) (qc : Nat) (qc0 : Nat) (qc1 : Nat) (qc2 : Nat) (qc3 : Nat) (el : Nat) (be : Nat)  : MV l yX0_addBeginner wsX0_addBeginner ({ frames := 0, cells := 0, slots := 0, locals := 0 }) G [.ref qc] [(qc, .inr (0, [.ref qc0, .ref qc1, .ref qc2, .ref qc3, .int (nI el), .int (nI be)]))] (some (.int (nI be))) [(qc, .inr (0, [.ref qc0, .ref qc1, .ref qc2, .ref qc3, .int (nI el), .int (nI (be + 1))]))] := by
  refine MF.ofJ (cc := cX0_addBeginner) (maxL := 1) (ret := (some .int)) (own := RX0) (lv := [(0, .ref qc)]) (by decide) rfl rfl (Nat.le_of_ble_eq_true rfl) rfl ?_
  intro κ X
  have i_X0 : ∀ w ∈ wsX00, w ∈ wsX0_addBeginner := by decide +kernel
  refine j_aload_n (pc := 0) X dX0_addBeginner_0 rfl 0 rfl ?_
  refine j_dup (pc := 1) X dX0_addBeginner_1 rfl ?_
  refine j_get (pc := 2) X 0 i_X0 0 rfl rfl 5 (by decide) (by decide +kernel) rfl dX0_addBeginner_2 ?_
  refine j_iconst (pc := 5) X (v := nI 1) dX0_addBeginner_5 (by decide) ?_
  refine j_iadd (pc := 6) X dX0_addBeginner_6 ?_
  refine j_topi (z := nI (be + 1)) (nI_add _ _) ?_
  refine j_put (pc := 7) X (v := .int (nI (be + 1))) (ws' := [(qc, .inr (0, [.ref qc0, .ref qc1, .ref qc2, .ref qc3, .int (nI el), .int (nI (be + 1))]))]) 0 i_X0 tyX0 tyX0_ok nmX0 0 rfl rfl 5 (by decide) (by decide +kernel) (by decide) (rfl) (rfl) (Nat.le_of_ble_eq_true rfl) dX0_addBeginner_7 rfl ?_
  refine j_aload_n (pc := 10) X dX0_addBeginner_10 rfl 0 rfl ?_
  refine j_get (pc := 11) X 0 i_X0 0 rfl rfl 5 (by decide) (by decide +kernel) rfl dX0_addBeginner_11 ?_
  refine j_iconst (pc := 14) X (v := nI 1) dX0_addBeginner_14 (by decide) ?_
  refine j_isub (pc := 15) X dX0_addBeginner_15 ?_
  refine j_topi (z := nI (be + 1 - 1)) (pk_sub (by omega)) ?_
  exact j_iret (pc := 16) X dX0_addBeginner_16 ⟨by simp, rfl⟩

set_option maxHeartbeats 4000000 in
set_option maxRecDepth 100000 in
theorem mX0_setLiking (l : Launch) (G : jG) (qc : Nat) (qc0 : Nat) (qc1 : Nat) (qc2 : Nat) (qc3 : Nat) (el : Nat) (be : Nat) (le : Nat → Nat) (lb : Nat → Nat) (e : Nat) (b : Nat) (mu : Nat) (by_ : Bool) (he : e < 12) (hb : b < 16) : MV l yX0_setLiking wsX0_setLiking ({ frames := 1, cells := 0, slots := 0, locals := 21 }) G [.ref qc, .int (nI e), .int (nI b), .int (b2i by_), .int (nI mu)] [(qc, .inr (0, [.ref qc0, .ref qc1, .ref qc2, .ref qc3, .int (nI el), .int (nI be)])), kI G qc1 192 (nF le), kI G qc2 192 (nF lb)] (none) [(qc, .inr (0, [.ref qc0, .ref qc1, .ref qc2, .ref qc3, .int (nI el), .int (nI be)])), kI G qc1 192 (nF (if by_ then va_up le (e * 16 + b) mu else le)), kI G qc2 192 (nF (if by_ then lb else va_up lb (e * 16 + b) mu))] := by
  refine MF.ofJ (cc := cX0_setLiking) (maxL := 6) (ret := none) (own := RX0) (lv := [(0, .ref qc), (1, .int (nI e)), (2, .int (nI b)), (3, .int (b2i by_)), (4, .int (nI mu))]) (by decide) rfl rfl (Nat.le_of_ble_eq_true rfl) rfl ?_
  intro κ X
  have i_X0 : ∀ w ∈ wsX00, w ∈ wsX0_setLiking := by decide +kernel
  refine j_iload_n (pc := 0) X dX0_setLiking_0 rfl 3 rfl ?_
  refine j_ifb_eq (pc := 1) X (B := by_) (tgt := 11) dX0_setLiking_1 (by decide) (fun c_1 => ?_) (fun c_1 => ?_)
  · skip
    refine j_aload_n (pc := 11) X dX0_setLiking_11 rfl 0 rfl ?_
    refine j_get (pc := 12) X 0 i_X0 0 rfl rfl 2 (by decide) (by decide +kernel) rfl dX0_setLiking_12 ?_
    refine j_astore (pc := 15) X (lv' := [(5, .ref qc2), (0, .ref qc), (1, .int (nI e)), (2, .int (nI b)), (3, .int (b2i by_)), (4, .int (nI mu))]) dX0_setLiking_15 (by decide) rfl ?_
    refine j_aload (pc := 17) X dX0_setLiking_17 0 rfl ?_
    refine j_iload_n (pc := 19) X dX0_setLiking_19 rfl 2 rfl ?_
    refine j_iload_n (pc := 20) X dX0_setLiking_20 rfl 3 rfl ?_
    refine j_ciP (pc := 21) X [] rfl (j_rS X (As := [.int (nI e), .int (nI b)]) (rest := [.ref qc2]) 2 (mX0_spot l G e b ) gX0_setLiking_X0_spot rfl rfl rfl (by decide +kernel) ⟨Nat.le_of_ble_eq_true rfl, Nat.le_of_ble_eq_true rfl⟩ rfl [] rfl rfl rfl (Nat.le_of_ble_eq_true rfl) dX0_setLiking_21 ⟨Nat.le_of_ble_eq_true rfl, Nat.le_of_ble_eq_true rfl⟩) ?_
    refine j_iload (pc := 24) X dX0_setLiking_24 5 rfl ?_
    refine j_iast (pc := 26) X (f2 := (nF (va_up lb (e * 16 + b) mu))) (ws' := [(qc, .inr (0, [.ref qc0, .ref qc1, .ref qc2, .ref qc3, .int (nI el), .int (nI be)])), kI G qc1 192 (nF le), kI G qc2 192 (nF (va_up lb (e * 16 + b) mu))]) 2 rfl (vp_in_nI (by omega) (by decide)) dX0_setLiking_26 (by rw [nI_clamp (by omega)]; exact nF_up lb (e * 16 + b) mu) rfl ?_
    exact j_vret (pc := 27) X dX0_setLiking_27 ⟨rfl, by simp [c_1]⟩
  · skip
    refine j_aload_n (pc := 4) X dX0_setLiking_4 rfl 0 rfl ?_
    refine j_get (pc := 5) X 0 i_X0 0 rfl rfl 1 (by decide) (by decide +kernel) rfl dX0_setLiking_5 ?_
    refine j_goto (pc := 8) X (tgt := 15) dX0_setLiking_8 (by decide) ?_
    refine j_astore (pc := 15) X (lv' := [(5, .ref qc1), (0, .ref qc), (1, .int (nI e)), (2, .int (nI b)), (3, .int (b2i by_)), (4, .int (nI mu))]) dX0_setLiking_15 (by decide) rfl ?_
    refine j_aload (pc := 17) X dX0_setLiking_17 0 rfl ?_
    refine j_iload_n (pc := 19) X dX0_setLiking_19 rfl 2 rfl ?_
    refine j_iload_n (pc := 20) X dX0_setLiking_20 rfl 3 rfl ?_
    refine j_ciP (pc := 21) X [] rfl (j_rS X (As := [.int (nI e), .int (nI b)]) (rest := [.ref qc1]) 2 (mX0_spot l G e b ) gX0_setLiking_X0_spot rfl rfl rfl (by decide +kernel) ⟨Nat.le_of_ble_eq_true rfl, Nat.le_of_ble_eq_true rfl⟩ rfl [] rfl rfl rfl (Nat.le_of_ble_eq_true rfl) dX0_setLiking_21 ⟨Nat.le_of_ble_eq_true rfl, Nat.le_of_ble_eq_true rfl⟩) ?_
    refine j_iload (pc := 24) X dX0_setLiking_24 5 rfl ?_
    refine j_iast (pc := 26) X (f2 := (nF (va_up le (e * 16 + b) mu))) (ws' := [(qc, .inr (0, [.ref qc0, .ref qc1, .ref qc2, .ref qc3, .int (nI el), .int (nI be)])), kI G qc1 192 (nF (va_up le (e * 16 + b) mu)), kI G qc2 192 (nF lb)]) 1 rfl (vp_in_nI (by omega) (by decide)) dX0_setLiking_26 (by rw [nI_clamp (by omega)]; exact nF_up le (e * 16 + b) mu) rfl ?_
    exact j_vret (pc := 27) X dX0_setLiking_27 ⟨rfl, by simp [c_1]⟩

set_option maxHeartbeats 4000000 in
set_option maxRecDepth 100000 in
theorem mX0_isBarred (l : Launch) (G : jG) (qc : Nat) (qc0 : Nat) (qc1 : Nat) (qc2 : Nat) (qc3 : Nat) (el : Nat) (be : Nat) (br : Nat → Bool) (e : Nat) (b : Nat) (he : e < 12) (hb : b < 16) : MV l yX0_isBarred wsX0_isBarred ({ frames := 1, cells := 0, slots := 0, locals := 21 }) G [.ref qc, .int (nI e), .int (nI b)] [(qc, .inr (0, [.ref qc0, .ref qc1, .ref qc2, .ref qc3, .int (nI el), .int (nI be)])), kZ G qc3 192 (bF br)] (some (.int (b2i (br (e * 16 + b))))) [(qc, .inr (0, [.ref qc0, .ref qc1, .ref qc2, .ref qc3, .int (nI el), .int (nI be)])), kZ G qc3 192 (bF br)] := by
  refine MF.ofJ (cc := cX0_isBarred) (maxL := 3) (ret := (some .boolean)) (own := RX0) (lv := [(0, .ref qc), (1, .int (nI e)), (2, .int (nI b))]) (by decide) rfl rfl (Nat.le_of_ble_eq_true rfl) rfl ?_
  intro κ X
  have i_X0 : ∀ w ∈ wsX00, w ∈ wsX0_isBarred := by decide +kernel
  refine j_aload_n (pc := 0) X dX0_isBarred_0 rfl 0 rfl ?_
  refine j_get (pc := 1) X 0 i_X0 0 rfl rfl 3 (by decide) (by decide +kernel) rfl dX0_isBarred_1 ?_
  refine j_iload_n (pc := 4) X dX0_isBarred_4 rfl 1 rfl ?_
  refine j_iload_n (pc := 5) X dX0_isBarred_5 rfl 2 rfl ?_
  refine j_ciP (pc := 6) X [] rfl (j_rS X (As := [.int (nI e), .int (nI b)]) (rest := [.ref qc3]) 2 (mX0_spot l G e b ) gX0_isBarred_X0_spot rfl rfl rfl (by decide +kernel) ⟨Nat.le_of_ble_eq_true rfl, Nat.le_of_ble_eq_true rfl⟩ rfl [] rfl rfl rfl (Nat.le_of_ble_eq_true rfl) dX0_isBarred_6 ⟨Nat.le_of_ble_eq_true rfl, Nat.le_of_ble_eq_true rfl⟩) ?_
  refine j_zald (pc := 9) X 1 rfl (vp_in_nI (by omega) (by decide)) (v := b2i (br (e * 16 + b))) (congrArg (bF br) (nI_clamp (by omega))) dX0_isBarred_9 ?_
  exact j_zret (pc := 10) X (b2i_nar _) dX0_isBarred_10 ⟨rfl, rfl⟩

set_option maxHeartbeats 4000000 in
set_option maxRecDepth 100000 in
theorem mX0_setBarred (l : Launch) (G : jG) (qc : Nat) (qc0 : Nat) (qc1 : Nat) (qc2 : Nat) (qc3 : Nat) (el : Nat) (be : Nat) (br : Nat → Bool) (e : Nat) (b : Nat) (is_ : Bool) (he : e < 12) (hb : b < 16) : MV l yX0_setBarred wsX0_setBarred ({ frames := 1, cells := 0, slots := 0, locals := 21 }) G [.ref qc, .int (nI e), .int (nI b), .int (b2i is_)] [(qc, .inr (0, [.ref qc0, .ref qc1, .ref qc2, .ref qc3, .int (nI el), .int (nI be)])), kZ G qc3 192 (bF br)] (none) [(qc, .inr (0, [.ref qc0, .ref qc1, .ref qc2, .ref qc3, .int (nI el), .int (nI be)])), kZ G qc3 192 (bF (va_up br (e * 16 + b) is_))] := by
  refine MF.ofJ (cc := cX0_setBarred) (maxL := 4) (ret := none) (own := RX0) (lv := [(0, .ref qc), (1, .int (nI e)), (2, .int (nI b)), (3, .int (b2i is_))]) (by decide) rfl rfl (Nat.le_of_ble_eq_true rfl) rfl ?_
  intro κ X
  have i_X0 : ∀ w ∈ wsX00, w ∈ wsX0_setBarred := by decide +kernel
  refine j_aload_n (pc := 0) X dX0_setBarred_0 rfl 0 rfl ?_
  refine j_get (pc := 1) X 0 i_X0 0 rfl rfl 3 (by decide) (by decide +kernel) rfl dX0_setBarred_1 ?_
  refine j_iload_n (pc := 4) X dX0_setBarred_4 rfl 1 rfl ?_
  refine j_iload_n (pc := 5) X dX0_setBarred_5 rfl 2 rfl ?_
  refine j_ciP (pc := 6) X [] rfl (j_rS X (As := [.int (nI e), .int (nI b)]) (rest := [.ref qc3]) 2 (mX0_spot l G e b ) gX0_setBarred_X0_spot rfl rfl rfl (by decide +kernel) ⟨Nat.le_of_ble_eq_true rfl, Nat.le_of_ble_eq_true rfl⟩ rfl [] rfl rfl rfl (Nat.le_of_ble_eq_true rfl) dX0_setBarred_6 ⟨Nat.le_of_ble_eq_true rfl, Nat.le_of_ble_eq_true rfl⟩) ?_
  refine j_iload_n (pc := 9) X dX0_setBarred_9 rfl 3 rfl ?_
  refine j_zast (pc := 10) X (f2 := (bF (va_up br (e * 16 + b) is_))) (ws' := [(qc, .inr (0, [.ref qc0, .ref qc1, .ref qc2, .ref qc3, .int (nI el), .int (nI be)])), kZ G qc3 192 (bF (va_up br (e * 16 + b) is_))]) 1 rfl (vp_in_nI (by omega) (by decide)) dX0_setBarred_10 (b2i_vnar _) (by rw [nI_clamp (by omega)]; exact bF_up br (e * 16 + b) is_) rfl ?_
  exact j_vret (pc := 11) X dX0_setBarred_11 ⟨rfl, rfl⟩

set_option maxHeartbeats 4000000 in
set_option maxRecDepth 100000 in
theorem mX0_canPair (l : Launch) (G : jG) (qc : Nat) (qc0 : Nat) (qc1 : Nat) (qc2 : Nat) (qc3 : Nat) (el : Nat) (be : Nat) (le : Nat → Nat) (lb : Nat → Nat) (br : Nat → Bool) (e : Nat) (b : Nat) (he : e < 12) (hb : b < 16) (hle : ∀ k, le k ≤ 100) (hlb : ∀ k, lb k ≤ 100) : MV l yX0_canPair wsX0_canPair ({ frames := 1, cells := 0, slots := 0, locals := 21 }) G [.ref qc, .int (nI e), .int (nI b)] [(qc, .inr (0, [.ref qc0, .ref qc1, .ref qc2, .ref qc3, .int (nI el), .int (nI be)])), kI G qc1 192 (nF le), kI G qc2 192 (nF lb), kZ G qc3 192 (bF br)] (some (.int (b2i (canB le lb br e b)))) [(qc, .inr (0, [.ref qc0, .ref qc1, .ref qc2, .ref qc3, .int (nI el), .int (nI be)])), kI G qc1 192 (nF le), kI G qc2 192 (nF lb), kZ G qc3 192 (bF br)] := by
  refine MF.ofJ (cc := cX0_canPair) (maxL := 4) (ret := (some .boolean)) (own := RX0) (lv := [(0, .ref qc), (1, .int (nI e)), (2, .int (nI b))]) (by decide) rfl rfl (Nat.le_of_ble_eq_true rfl) rfl ?_
  intro κ X
  have i_X0 : ∀ w ∈ wsX00, w ∈ wsX0_canPair := by decide +kernel
  refine j_iload_n (pc := 0) X dX0_canPair_0 rfl 1 rfl ?_
  refine j_iload_n (pc := 1) X dX0_canPair_1 rfl 2 rfl ?_
  refine j_ciP (pc := 2) X [] rfl (j_rS X (As := [.int (nI e), .int (nI b)]) (rest := []) 2 (mX0_spot l G e b ) gX0_canPair_X0_spot rfl rfl rfl (by decide +kernel) ⟨Nat.le_of_ble_eq_true rfl, Nat.le_of_ble_eq_true rfl⟩ rfl [] rfl rfl rfl (Nat.le_of_ble_eq_true rfl) dX0_canPair_2 ⟨Nat.le_of_ble_eq_true rfl, Nat.le_of_ble_eq_true rfl⟩) ?_
  refine j_istore_n (pc := 5) X (lv' := [(3, .int (nI (e * 16 + b))), (0, .ref qc), (1, .int (nI e)), (2, .int (nI b))]) dX0_canPair_5 rfl (by decide) rfl ?_
  refine j_aload_n (pc := 6) X dX0_canPair_6 rfl 1 rfl ?_
  refine j_get (pc := 7) X 0 i_X0 0 rfl rfl 1 (by decide) (by decide +kernel) rfl dX0_canPair_7 ?_
  refine j_iload_n (pc := 10) X dX0_canPair_10 rfl 0 rfl ?_
  refine j_iald (pc := 11) X 1 rfl (vp_in_nI (by omega) (by decide)) (v := nI (le (e * 16 + b))) (congrArg (nF le) (nI_clamp (by omega))) dX0_canPair_11 ?_
  refine j_ifN_eq (pc := 12) X (a := (le (e * 16 + b))) (by first | omega | (have := hle (e * 16 + b); omega) | (have := hlb (e * 16 + b); omega)) (tgt := 37) dX0_canPair_12 (by decide) (fun c_12 => ?_) (fun c_12 => ?_)
  · skip
    refine j_iconst (pc := 37) X (v := nI 0) dX0_canPair_37 (by decide) ?_
    exact j_zret (pc := 38) X (rfl) dX0_canPair_38 ⟨r0 (by simp [canB, c_12]), rfl⟩
  · skip
    refine j_aload_n (pc := 15) X dX0_canPair_15 rfl 1 rfl ?_
    refine j_get (pc := 16) X 0 i_X0 0 rfl rfl 2 (by decide) (by decide +kernel) rfl dX0_canPair_16 ?_
    refine j_iload_n (pc := 19) X dX0_canPair_19 rfl 0 rfl ?_
    refine j_iald (pc := 20) X 2 rfl (vp_in_nI (by omega) (by decide)) (v := nI (lb (e * 16 + b))) (congrArg (nF lb) (nI_clamp (by omega))) dX0_canPair_20 ?_
    refine j_ifN_eq (pc := 21) X (a := (lb (e * 16 + b))) (by first | omega | (have := hle (e * 16 + b); omega) | (have := hlb (e * 16 + b); omega)) (tgt := 37) dX0_canPair_21 (by decide) (fun c_21 => ?_) (fun c_21 => ?_)
    · skip
      refine j_iconst (pc := 37) X (v := nI 0) dX0_canPair_37 (by decide) ?_
      exact j_zret (pc := 38) X (rfl) dX0_canPair_38 ⟨r0 (by simp [canB, c_12, c_21]), rfl⟩
    · skip
      refine j_aload_n (pc := 24) X dX0_canPair_24 rfl 1 rfl ?_
      refine j_get (pc := 25) X 0 i_X0 0 rfl rfl 3 (by decide) (by decide +kernel) rfl dX0_canPair_25 ?_
      refine j_iload_n (pc := 28) X dX0_canPair_28 rfl 0 rfl ?_
      refine j_zald (pc := 29) X 3 rfl (vp_in_nI (by omega) (by decide)) (v := b2i (br (e * 16 + b))) (congrArg (bF br) (nI_clamp (by omega))) dX0_canPair_29 ?_
      refine j_ifb_ne (pc := 30) X (B := br (e * 16 + b)) (tgt := 37) dX0_canPair_30 (by decide) (fun c_30 => ?_) (fun c_30 => ?_)
      · skip
        refine j_iconst (pc := 37) X (v := nI 0) dX0_canPair_37 (by decide) ?_
        exact j_zret (pc := 38) X (rfl) dX0_canPair_38 ⟨r0 (by simp [canB, c_12, c_21, c_30]), rfl⟩
      · skip
        refine j_iconst (pc := 33) X (v := nI 1) dX0_canPair_33 (by decide) ?_
        refine j_goto (pc := 34) X (tgt := 38) dX0_canPair_34 (by decide) ?_
        exact j_zret (pc := 38) X (rfl) dX0_canPair_38 ⟨r1 (by simp [canB, c_12, c_21, c_30]), rfl⟩

set_option maxHeartbeats 4000000 in
set_option maxRecDepth 100000 in
theorem mX0_beginnerPrefers (l : Launch) (G : jG) (qc : Nat) (qc0 : Nat) (qc1 : Nat) (qc2 : Nat) (qc3 : Nat) (el : Nat) (be : Nat) (lb : Nat → Nat) (b : Nat) (e : Nat) (o : Option Nat) (hb : b < 16) (he : e < 12) (ho : ob 12 o) (hlb : ∀ k, lb k ≤ 100) : MV l yX0_beginnerPrefers wsX0_beginnerPrefers ({ frames := 1, cells := 0, slots := 0, locals := 21 }) G [.ref qc, .int (nI b), .int (nI e), .int (oI o)] [(qc, .inr (0, [.ref qc0, .ref qc1, .ref qc2, .ref qc3, .int (nI el), .int (nI be)])), kI G qc2 192 (nF lb)] (some (.int (b2i (prBO lb b e o)))) [(qc, .inr (0, [.ref qc0, .ref qc1, .ref qc2, .ref qc3, .int (nI el), .int (nI be)])), kI G qc2 192 (nF lb)] := by
  refine MF.ofJ (cc := cX0_beginnerPrefers) (maxL := 6) (ret := (some .boolean)) (own := RX0) (lv := [(0, .ref qc), (1, .int (nI b)), (2, .int (nI e)), (3, .int (oI o))]) (by decide) rfl rfl (Nat.le_of_ble_eq_true rfl) rfl ?_
  intro κ X
  have i_X0 : ∀ w ∈ wsX00, w ∈ wsX0_beginnerPrefers := by decide +kernel
  refine j_iload_n (pc := 0) X dX0_beginnerPrefers_0 rfl 3 rfl ?_
  refine j_iconst (pc := 1) X (v := oI none) dX0_beginnerPrefers_1 (by decide) ?_
  refine j_icmpZ_ne (pc := 2) X (a := o) (by exact ho.big (by decide)) (tgt := 7) dX0_beginnerPrefers_2 (by decide) (fun c_2 => ?_) (fun c_2 => ?_)
  · skip
    obtain ⟨o, rfl⟩ := Option.ne_none_iff_exists'.mp c_2; have ho := ho o rfl
    refine j_aload_n (pc := 7) X dX0_beginnerPrefers_7 rfl 0 rfl ?_
    refine j_get (pc := 8) X 0 i_X0 0 rfl rfl 2 (by decide) (by decide +kernel) rfl dX0_beginnerPrefers_8 ?_
    refine j_iload_n (pc := 11) X dX0_beginnerPrefers_11 rfl 2 rfl ?_
    refine j_iload_n (pc := 12) X dX0_beginnerPrefers_12 rfl 1 rfl ?_
    refine j_ciP (pc := 13) X [] rfl (j_rS X (As := [.int (nI e), .int (nI b)]) (rest := [.ref qc2]) 2 (mX0_spot l G e b ) gX0_beginnerPrefers_X0_spot rfl rfl rfl (by decide +kernel) ⟨Nat.le_of_ble_eq_true rfl, Nat.le_of_ble_eq_true rfl⟩ rfl [] rfl rfl rfl (Nat.le_of_ble_eq_true rfl) dX0_beginnerPrefers_13 ⟨Nat.le_of_ble_eq_true rfl, Nat.le_of_ble_eq_true rfl⟩) ?_
    refine j_iald (pc := 16) X 1 rfl (vp_in_nI (by omega) (by decide)) (v := nI (lb (e * 16 + b))) (congrArg (nF lb) (nI_clamp (by omega))) dX0_beginnerPrefers_16 ?_
    refine j_istore (pc := 17) X (lv' := [(4, .int (nI (lb (e * 16 + b)))), (0, .ref qc), (1, .int (nI b)), (2, .int (nI e)), (3, .int (nI o))]) dX0_beginnerPrefers_17 (by decide) rfl ?_
    refine j_aload_n (pc := 19) X dX0_beginnerPrefers_19 rfl 1 rfl ?_
    refine j_get (pc := 20) X 0 i_X0 0 rfl rfl 2 (by decide) (by decide +kernel) rfl dX0_beginnerPrefers_20 ?_
    refine j_iload_n (pc := 23) X dX0_beginnerPrefers_23 rfl 4 rfl ?_
    refine j_iload_n (pc := 24) X dX0_beginnerPrefers_24 rfl 2 rfl ?_
    refine j_ciP (pc := 25) X [] rfl (j_rS X (As := [.int (nI o), .int (nI b)]) (rest := [.ref qc2]) 2 (mX0_spot l G o b ) gX0_beginnerPrefers_X0_spot rfl rfl rfl (by decide +kernel) ⟨Nat.le_of_ble_eq_true rfl, Nat.le_of_ble_eq_true rfl⟩ rfl [] rfl rfl rfl (Nat.le_of_ble_eq_true rfl) dX0_beginnerPrefers_25 ⟨Nat.le_of_ble_eq_true rfl, Nat.le_of_ble_eq_true rfl⟩) ?_
    refine j_iald (pc := 28) X 1 rfl (vp_in_nI (by omega) (by decide)) (v := nI (lb (o * 16 + b))) (congrArg (nF lb) (nI_clamp (by omega))) dX0_beginnerPrefers_28 ?_
    refine j_istore (pc := 29) X (lv' := [(5, .int (nI (lb (o * 16 + b)))), (4, .int (nI (lb (e * 16 + b)))), (0, .ref qc), (1, .int (nI b)), (2, .int (nI e)), (3, .int (nI o))]) dX0_beginnerPrefers_29 (by decide) rfl ?_
    refine j_iload (pc := 31) X dX0_beginnerPrefers_31 1 rfl ?_
    refine j_iload (pc := 33) X dX0_beginnerPrefers_33 0 rfl ?_
    refine j_icmpN_gt (pc := 35) X (a := (lb (e * 16 + b))) (b := (lb (o * 16 + b))) (by first | omega | exact Nat.lt_of_le_of_lt (hlb _) (by decide)) (by first | omega | exact Nat.lt_of_le_of_lt (hlb _) (by decide)) (tgt := 50) dX0_beginnerPrefers_35 (by decide) (fun c_35 => ?_) (fun c_35 => ?_)
    · skip
      refine j_iconst (pc := 50) X (v := nI 1) dX0_beginnerPrefers_50 (by decide) ?_
      refine j_goto (pc := 51) X (tgt := 55) dX0_beginnerPrefers_51 (by decide) ?_
      exact j_zret (pc := 55) X (rfl) dX0_beginnerPrefers_55 ⟨r1 (by first | (simp [prBO, prB, c_2, c_35]; done) | (simp [prBO, prB, c_2, c_35]; omega)), rfl⟩
    · skip
      refine j_iload (pc := 38) X dX0_beginnerPrefers_38 1 rfl ?_
      refine j_iload (pc := 40) X dX0_beginnerPrefers_40 0 rfl ?_
      refine j_icmpN_ne (pc := 42) X (a := (lb (e * 16 + b))) (b := (lb (o * 16 + b))) (by first | omega | exact Nat.lt_of_le_of_lt (hlb _) (by decide)) (by first | omega | exact Nat.lt_of_le_of_lt (hlb _) (by decide)) (tgt := 54) dX0_beginnerPrefers_42 (by decide) (fun c_42 => ?_) (fun c_42 => ?_)
      · skip
        refine j_iconst (pc := 54) X (v := nI 0) dX0_beginnerPrefers_54 (by decide) ?_
        exact j_zret (pc := 55) X (rfl) dX0_beginnerPrefers_55 ⟨r0 (by first | (simp [prBO, prB, c_2, c_35, c_42]; done) | (simp [prBO, prB, c_2, c_35, c_42]; omega)), rfl⟩
      · skip
        refine j_iload_n (pc := 45) X dX0_beginnerPrefers_45 rfl 4 rfl ?_
        refine j_iload_n (pc := 46) X dX0_beginnerPrefers_46 rfl 5 rfl ?_
        refine j_icmpN_ge (pc := 47) X (a := e) (b := o) (by first | omega | exact Nat.lt_of_le_of_lt (hlb _) (by decide)) (by first | omega | exact Nat.lt_of_le_of_lt (hlb _) (by decide)) (tgt := 54) dX0_beginnerPrefers_47 (by decide) (fun c_47 => ?_) (fun c_47 => ?_)
        · skip
          refine j_iconst (pc := 54) X (v := nI 0) dX0_beginnerPrefers_54 (by decide) ?_
          exact j_zret (pc := 55) X (rfl) dX0_beginnerPrefers_55 ⟨r0 (by first | (simp [prBO, prB, c_2, c_35, c_42, c_47]; done) | (simp [prBO, prB, c_2, c_35, c_42, c_47]; omega)), rfl⟩
        · skip
          refine j_iconst (pc := 50) X (v := nI 1) dX0_beginnerPrefers_50 (by decide) ?_
          refine j_goto (pc := 51) X (tgt := 55) dX0_beginnerPrefers_51 (by decide) ?_
          exact j_zret (pc := 55) X (rfl) dX0_beginnerPrefers_55 ⟨r1 (by first | (simp [prBO, prB, c_2, c_35, c_42, c_47]; done) | (simp [prBO, prB, c_2, c_35, c_42, c_47]; omega)), rfl⟩
  · skip
    refine j_iconst (pc := 5) X (v := nI 1) dX0_beginnerPrefers_5 (by decide) ?_
    exact j_zret (pc := 6) X (rfl) dX0_beginnerPrefers_6 ⟨r1 (by first | (simp [prBO, prB, c_2]; done) | (simp [prBO, prB, c_2]; omega)), rfl⟩

set_option maxHeartbeats 4000000 in
set_option maxRecDepth 100000 in
theorem mX0_elderPrefers (l : Launch) (G : jG) (qc : Nat) (qc0 : Nat) (qc1 : Nat) (qc2 : Nat) (qc3 : Nat) (el : Nat) (be : Nat) (le : Nat → Nat) (e : Nat) (b : Nat) (o : Nat) (he : e < 12) (hb : b < 16) (ho : o < 16) (hle : ∀ k, le k ≤ 100) : MV l yX0_elderPrefers wsX0_elderPrefers ({ frames := 1, cells := 0, slots := 0, locals := 21 }) G [.ref qc, .int (nI e), .int (nI b), .int (nI o)] [(qc, .inr (0, [.ref qc0, .ref qc1, .ref qc2, .ref qc3, .int (nI el), .int (nI be)])), kI G qc1 192 (nF le)] (some (.int (b2i (prE le e b o)))) [(qc, .inr (0, [.ref qc0, .ref qc1, .ref qc2, .ref qc3, .int (nI el), .int (nI be)])), kI G qc1 192 (nF le)] := by
  refine MF.ofJ (cc := cX0_elderPrefers) (maxL := 6) (ret := (some .boolean)) (own := RX0) (lv := [(0, .ref qc), (1, .int (nI e)), (2, .int (nI b)), (3, .int (nI o))]) (by decide) rfl rfl (Nat.le_of_ble_eq_true rfl) rfl ?_
  intro κ X
  have i_X0 : ∀ w ∈ wsX00, w ∈ wsX0_elderPrefers := by decide +kernel
  refine j_aload_n (pc := 0) X dX0_elderPrefers_0 rfl 0 rfl ?_
  refine j_get (pc := 1) X 0 i_X0 0 rfl rfl 1 (by decide) (by decide +kernel) rfl dX0_elderPrefers_1 ?_
  refine j_iload_n (pc := 4) X dX0_elderPrefers_4 rfl 1 rfl ?_
  refine j_iload_n (pc := 5) X dX0_elderPrefers_5 rfl 2 rfl ?_
  refine j_ciP (pc := 6) X [] rfl (j_rS X (As := [.int (nI e), .int (nI b)]) (rest := [.ref qc1]) 2 (mX0_spot l G e b ) gX0_elderPrefers_X0_spot rfl rfl rfl (by decide +kernel) ⟨Nat.le_of_ble_eq_true rfl, Nat.le_of_ble_eq_true rfl⟩ rfl [] rfl rfl rfl (Nat.le_of_ble_eq_true rfl) dX0_elderPrefers_6 ⟨Nat.le_of_ble_eq_true rfl, Nat.le_of_ble_eq_true rfl⟩) ?_
  refine j_iald (pc := 9) X 1 rfl (vp_in_nI (by omega) (by decide)) (v := nI (le (e * 16 + b))) (congrArg (nF le) (nI_clamp (by omega))) dX0_elderPrefers_9 ?_
  refine j_istore (pc := 10) X (lv' := [(4, .int (nI (le (e * 16 + b)))), (0, .ref qc), (1, .int (nI e)), (2, .int (nI b)), (3, .int (nI o))]) dX0_elderPrefers_10 (by decide) rfl ?_
  refine j_aload_n (pc := 12) X dX0_elderPrefers_12 rfl 1 rfl ?_
  refine j_get (pc := 13) X 0 i_X0 0 rfl rfl 1 (by decide) (by decide +kernel) rfl dX0_elderPrefers_13 ?_
  refine j_iload_n (pc := 16) X dX0_elderPrefers_16 rfl 2 rfl ?_
  refine j_iload_n (pc := 17) X dX0_elderPrefers_17 rfl 4 rfl ?_
  refine j_ciP (pc := 18) X [] rfl (j_rS X (As := [.int (nI e), .int (nI o)]) (rest := [.ref qc1]) 2 (mX0_spot l G e o ) gX0_elderPrefers_X0_spot rfl rfl rfl (by decide +kernel) ⟨Nat.le_of_ble_eq_true rfl, Nat.le_of_ble_eq_true rfl⟩ rfl [] rfl rfl rfl (Nat.le_of_ble_eq_true rfl) dX0_elderPrefers_18 ⟨Nat.le_of_ble_eq_true rfl, Nat.le_of_ble_eq_true rfl⟩) ?_
  refine j_iald (pc := 21) X 1 rfl (vp_in_nI (by omega) (by decide)) (v := nI (le (e * 16 + o))) (congrArg (nF le) (nI_clamp (by omega))) dX0_elderPrefers_21 ?_
  refine j_istore (pc := 22) X (lv' := [(5, .int (nI (le (e * 16 + o)))), (4, .int (nI (le (e * 16 + b)))), (0, .ref qc), (1, .int (nI e)), (2, .int (nI b)), (3, .int (nI o))]) dX0_elderPrefers_22 (by decide) rfl ?_
  refine j_iload (pc := 24) X dX0_elderPrefers_24 1 rfl ?_
  refine j_iload (pc := 26) X dX0_elderPrefers_26 0 rfl ?_
  refine j_icmpN_gt (pc := 28) X (a := (le (e * 16 + b))) (b := (le (e * 16 + o))) (by first | omega | exact Nat.lt_of_le_of_lt (hle _) (by decide)) (by first | omega | exact Nat.lt_of_le_of_lt (hle _) (by decide)) (tgt := 43) dX0_elderPrefers_28 (by decide) (fun c_28 => ?_) (fun c_28 => ?_)
  · skip
    refine j_iconst (pc := 43) X (v := nI 1) dX0_elderPrefers_43 (by decide) ?_
    refine j_goto (pc := 44) X (tgt := 48) dX0_elderPrefers_44 (by decide) ?_
    exact j_zret (pc := 48) X (rfl) dX0_elderPrefers_48 ⟨r1 (by first | (simp [prE, c_28]; done) | (simp [prE, c_28]; omega)), rfl⟩
  · skip
    refine j_iload (pc := 31) X dX0_elderPrefers_31 1 rfl ?_
    refine j_iload (pc := 33) X dX0_elderPrefers_33 0 rfl ?_
    refine j_icmpN_ne (pc := 35) X (a := (le (e * 16 + b))) (b := (le (e * 16 + o))) (by first | omega | exact Nat.lt_of_le_of_lt (hle _) (by decide)) (by first | omega | exact Nat.lt_of_le_of_lt (hle _) (by decide)) (tgt := 47) dX0_elderPrefers_35 (by decide) (fun c_35 => ?_) (fun c_35 => ?_)
    · skip
      refine j_iconst (pc := 47) X (v := nI 0) dX0_elderPrefers_47 (by decide) ?_
      exact j_zret (pc := 48) X (rfl) dX0_elderPrefers_48 ⟨r0 (by first | (simp [prE, c_28, c_35]; done) | (simp [prE, c_28, c_35]; omega)), rfl⟩
    · skip
      refine j_iload_n (pc := 38) X dX0_elderPrefers_38 rfl 4 rfl ?_
      refine j_iload_n (pc := 39) X dX0_elderPrefers_39 rfl 5 rfl ?_
      refine j_icmpN_ge (pc := 40) X (a := b) (b := o) (by first | omega | exact Nat.lt_of_le_of_lt (hle _) (by decide)) (by first | omega | exact Nat.lt_of_le_of_lt (hle _) (by decide)) (tgt := 47) dX0_elderPrefers_40 (by decide) (fun c_40 => ?_) (fun c_40 => ?_)
      · skip
        refine j_iconst (pc := 47) X (v := nI 0) dX0_elderPrefers_47 (by decide) ?_
        exact j_zret (pc := 48) X (rfl) dX0_elderPrefers_48 ⟨r0 (by first | (simp [prE, c_28, c_35, c_40]; done) | (simp [prE, c_28, c_35, c_40]; omega)), rfl⟩
      · skip
        refine j_iconst (pc := 43) X (v := nI 1) dX0_elderPrefers_43 (by decide) ?_
        refine j_goto (pc := 44) X (tgt := 48) dX0_elderPrefers_44 (by decide) ?_
        exact j_zret (pc := 48) X (rfl) dX0_elderPrefers_48 ⟨r1 (by first | (simp [prE, c_28, c_35, c_40]; done) | (simp [prE, c_28, c_35, c_40]; omega)), rfl⟩
end
section
set_option maxHeartbeats 4000000 in
set_option maxRecDepth 100000 in
theorem mJ7_fill_53178_L5 (l : Launch) (G : jG) (q : Nat) (n : Nat) (f : Nat → Option Nat) (v : Option Nat) (hn : n < 2147483648) (κ : jK) (X : CX κ l yJ7_fill_53178 cJ7_fill_53178 4 RJ7 wsJ7_fill_53178 none ({ frames := 0, cells := 0, slots := 0, locals := 0 }) G (va_A [kI G q n (oF f)] (js κ).heap.size))    : ∀ (fu : Nat) (i : Nat) (hi : i ≤ n) (_ : n - i < fu), JJ κ 4 G (va_A [kI G q n (oF f)] (js κ).heap.size) 0 0 (jQ κ G [kI G q n (oF f)] (fun r w' => r = none ∧ w' = [kI G q n (oF (fil v f n))]) 0 0) 5 [(0, .ref q), (1, .int (oI v)), (2, .int (nI i)), (3, .int (nI n))] [] [kI G q n (oF (fil v f i))] := by
  intro fu
  induction fu with
  | zero => intro i hi hms; exact absurd hms (Nat.not_lt_zero _)
  | succ fu ih =>
    intro i hi hms
    refine j_iload_n (pc := 5) X dJ7_fill_53178_5 rfl 2 rfl ?_
    refine j_iload_n (pc := 6) X dJ7_fill_53178_6 rfl 3 rfl ?_
    refine j_icmpN_ge (pc := 7) X (a := i) (b := n) (by omega) (by omega) (tgt := 20) dJ7_fill_53178_7 (by decide) (fun c_7 => ?_) (fun c_7 => ?_)
    · skip
      exact j_vret (pc := 20) X dJ7_fill_53178_20 ⟨rfl, by rw [show i = n by omega]⟩
    · skip
      refine j_aload_n (pc := 10) X dJ7_fill_53178_10 rfl 0 rfl ?_
      refine j_iload_n (pc := 11) X dJ7_fill_53178_11 rfl 2 rfl ?_
      refine j_iload_n (pc := 12) X dJ7_fill_53178_12 rfl 1 rfl ?_
      refine j_iast (pc := 13) X (f2 := (oF (va_up (fil v f i) i v))) (ws' := [kI G q n (oF (va_up (fil v f i) i v))]) 0 rfl (vp_in_nI (by omega) (by omega)) dJ7_fill_53178_13 (by rw [nI_clamp (by omega)]; exact oF_up (fil v f i) i v) rfl ?_
      refine j_iinc (pc := 14) X (v := nI (i + 1)) (lv' := [(2, .int (nI (i + 1))), (0, .ref q), (1, .int (oI v)), (3, .int (nI n))]) dJ7_fill_53178_14 2 rfl (nI_1 _) (by decide) rfl ?_
      refine j_goto (pc := 17) X (tgt := 5) dJ7_fill_53178_17 (by decide) ?_
      refine j_lv [1, 2, 0, 3] (lv' := [(0, .ref q), (1, .int (oI v)), (2, .int (nI (i + 1))), (3, .int (nI n))]) rfl ?_
      refine j_ws (ws' := [kI G q n (oF (fil v f (i + 1)))]) ?_ ?_
      · (rw [fil_s])
      exact ih (i + 1) (by omega) (by omega)
set_option maxHeartbeats 4000000 in
set_option maxRecDepth 100000 in
theorem mJ7_fill_53178 (l : Launch) (G : jG) (q : Nat) (n : Nat) (f : Nat → Option Nat) (v : Option Nat) (hn : n < 2147483648) : MV l yJ7_fill_53178 wsJ7_fill_53178 ({ frames := 0, cells := 0, slots := 0, locals := 0 }) G [.ref q, .int (oI v)] [kI G q n (oF f)] (none) [kI G q n (oF (fil v f n))] := by
  refine MF.ofJ (cc := cJ7_fill_53178) (maxL := 4) (ret := none) (own := RJ7) (lv := [(0, .ref q), (1, .int (oI v))]) (by decide) rfl rfl (Nat.le_of_ble_eq_true rfl) rfl ?_
  intro κ X
  refine j_iconst (pc := 0) X (v := nI 0) dJ7_fill_53178_0 (by decide) ?_
  refine j_istore_n (pc := 1) X (lv' := [(2, .int (nI 0)), (0, .ref q), (1, .int (oI v))]) dJ7_fill_53178_1 rfl (by decide) rfl ?_
  refine j_aload_n (pc := 2) X dJ7_fill_53178_2 rfl 1 rfl ?_
  refine j_alenI (pc := 3) X 0 rfl dJ7_fill_53178_3 ?_
  refine j_istore_n (pc := 4) X (lv' := [(3, .int (nI n)), (2, .int (nI 0)), (0, .ref q), (1, .int (oI v))]) dJ7_fill_53178_4 rfl (by decide) rfl ?_
  refine j_lv [2, 3, 1, 0] (lv' := [(0, .ref q), (1, .int (oI v)), (2, .int (nI 0)), (3, .int (nI n))]) rfl ?_
  refine j_ws (ws' := [kI G q n (oF (fil v f 0))]) ?_ ?_
  · (rw [fil_0])
  exact mJ7_fill_53178_L5 l G q n f v hn κ X    (n - 0 + 1) 0 (by omega) (Nat.lt_succ_self _)

set_option maxHeartbeats 4000000 in
set_option maxRecDepth 100000 in
theorem mJ7_fill_d0a16_L6 (l : Launch) (G : jG) (q : Nat) (n : Nat) (f : Nat → Int64) (v : Int64) (hn : n < 2147483648) (κ : jK) (X : CX κ l yJ7_fill_d0a16 cJ7_fill_d0a16 5 RJ7 wsJ7_fill_d0a16 none ({ frames := 0, cells := 0, slots := 0, locals := 0 }) G (va_A [kJ G q n f] (js κ).heap.size))    : ∀ (fu : Nat) (i : Nat) (hi : i ≤ n) (_ : n - i < fu), JJ κ 5 G (va_A [kJ G q n f] (js κ).heap.size) 0 0 (jQ κ G [kJ G q n f] (fun r w' => r = none ∧ w' = [kJ G q n (fil v f n)]) 0 0) 6 [(0, .ref q), (1, .long v), (3, .int (nI i)), (4, .int (nI n))] [] [kJ G q n (fil v f i)] := by
  intro fu
  induction fu with
  | zero => intro i hi hms; exact absurd hms (Nat.not_lt_zero _)
  | succ fu ih =>
    intro i hi hms
    refine j_iload_n (pc := 6) X dJ7_fill_d0a16_6 rfl 2 rfl ?_
    refine j_iload (pc := 7) X dJ7_fill_d0a16_7 3 rfl ?_
    refine j_icmpN_ge (pc := 9) X (a := i) (b := n) (by omega) (by omega) (tgt := 22) dJ7_fill_d0a16_9 (by decide) (fun c_9 => ?_) (fun c_9 => ?_)
    · skip
      exact j_vret (pc := 22) X dJ7_fill_d0a16_22 ⟨rfl, by rw [show i = n by omega]⟩
    · skip
      refine j_aload_n (pc := 12) X dJ7_fill_d0a16_12 rfl 0 rfl ?_
      refine j_iload_n (pc := 13) X dJ7_fill_d0a16_13 rfl 2 rfl ?_
      refine j_lload_n (pc := 14) X dJ7_fill_d0a16_14 rfl 1 rfl ?_
      refine j_last (pc := 15) X (f2 := (va_up (fil v f i) i v)) (ws' := [kJ G q n (va_up (fil v f i) i v)]) 0 rfl (vp_in_nI (by omega) (by omega)) dJ7_fill_d0a16_15 (by rw [nI_clamp (by omega)]; exact lF_up _ _ _) rfl ?_
      refine j_iinc (pc := 16) X (v := nI (i + 1)) (lv' := [(3, .int (nI (i + 1))), (0, .ref q), (1, .long v), (4, .int (nI n))]) dJ7_fill_d0a16_16 2 rfl (nI_1 _) (by decide) rfl ?_
      refine j_goto (pc := 19) X (tgt := 6) dJ7_fill_d0a16_19 (by decide) ?_
      refine j_lv [1, 2, 0, 3] (lv' := [(0, .ref q), (1, .long v), (3, .int (nI (i + 1))), (4, .int (nI n))]) rfl ?_
      refine j_ws (ws' := [kJ G q n (fil v f (i + 1))]) ?_ ?_
      · (rw [fil_s])
      exact ih (i + 1) (by omega) (by omega)
set_option maxHeartbeats 4000000 in
set_option maxRecDepth 100000 in
theorem mJ7_fill_d0a16 (l : Launch) (G : jG) (q : Nat) (n : Nat) (f : Nat → Int64) (v : Int64) (hn : n < 2147483648) : MV l yJ7_fill_d0a16 wsJ7_fill_d0a16 ({ frames := 0, cells := 0, slots := 0, locals := 0 }) G [.ref q, .long v] [kJ G q n f] (none) [kJ G q n (fil v f n)] := by
  refine MF.ofJ (cc := cJ7_fill_d0a16) (maxL := 5) (ret := none) (own := RJ7) (lv := [(0, .ref q), (1, .long v)]) (by decide) rfl rfl (Nat.le_of_ble_eq_true rfl) rfl ?_
  intro κ X
  refine j_iconst (pc := 0) X (v := nI 0) dJ7_fill_d0a16_0 (by decide) ?_
  refine j_istore_n (pc := 1) X (lv' := [(3, .int (nI 0)), (0, .ref q), (1, .long v)]) dJ7_fill_d0a16_1 rfl (by decide) rfl ?_
  refine j_aload_n (pc := 2) X dJ7_fill_d0a16_2 rfl 1 rfl ?_
  refine j_alenJ (pc := 3) X 0 rfl dJ7_fill_d0a16_3 ?_
  refine j_istore (pc := 4) X (lv' := [(4, .int (nI n)), (3, .int (nI 0)), (0, .ref q), (1, .long v)]) dJ7_fill_d0a16_4 (by decide) rfl ?_
  refine j_lv [2, 3, 1, 0] (lv' := [(0, .ref q), (1, .long v), (3, .int (nI 0)), (4, .int (nI n))]) rfl ?_
  refine j_ws (ws' := [kJ G q n (fil v f 0)]) ?_ ?_
  · (rw [fil_0])
  exact mJ7_fill_d0a16_L6 l G q n f v hn κ X    (n - 0 + 1) 0 (by omega) (Nat.lt_succ_self _)

set_option maxHeartbeats 4000000 in
set_option maxRecDepth 100000 in
theorem mX1_commonDivisor_L9 (l : Launch) (G : jG) (a : Nat) (b : Nat) (ha : a < 2 ^ 49) (hb : b < 2 ^ 49) (κ : jK) (X : CX κ l yX1_commonDivisor cX1_commonDivisor 11 RX1 wsX1_commonDivisor (some .long) ({ frames := 0, cells := 0, slots := 0, locals := 0 }) G (va_A [] (js κ).heap.size))    : ∀ (fu : Nat) (st : Nat) (g : Nat) (m : Nat) (hs : st ≤ 100) (he : euc a b st g m) (_ : 100 - st < fu), JJ κ 11 G (va_A [] (js κ).heap.size) 0 0 (jQ κ G [] (fun r w' => r = some (.long (lN (Nat.gcd a b))) ∧ w' = []) 0 0) 9 [(4, .long (lN g)), (6, .long (lN m)), (8, .int (nI st))] [] [] := by
  intro fu
  induction fu with
  | zero => intro st g m hs he hms; exact absurd hms (Nat.not_lt_zero _)
  | succ fu ih =>
    intro st g m hs he hms
    refine j_iload (pc := 9) X dX1_commonDivisor_9 2 rfl ?_
    refine j_bipush (pc := 11) X (v := nI 100) dX1_commonDivisor_11 (by decide) ?_
    refine j_icmpN_ge (pc := 13) X (a := st) (b := 100) (by omega) (by omega) (tgt := 44) dX1_commonDivisor_13 (by decide) (fun c_13 => ?_) (fun c_13 => ?_)
    · skip
      refine j_lload (pc := 44) X dX1_commonDivisor_44 0 rfl ?_
      exact j_lret (pc := 46) X dX1_commonDivisor_46 ⟨by rw [euc_end he ha hb (Or.inl (by omega))], rfl⟩
    · skip
      refine j_lload (pc := 16) X dX1_commonDivisor_16 1 rfl ?_
      refine j_lconst (pc := 18) X (v := 0) dX1_commonDivisor_18 (by decide) ?_
      refine j_lcmp (pc := 19) X dX1_commonDivisor_19 ?_
      refine j_ifc_eq (pc := 20) X (tgt := 44) dX1_commonDivisor_20 (by decide) (fun c_20 => ?_) (fun c_20 => ?_)
      · skip
        refine j_lload (pc := 44) X dX1_commonDivisor_44 0 rfl ?_
        exact j_lret (pc := 46) X dX1_commonDivisor_46 ⟨by rw [euc_end he ha hb (Or.inr ((pk_lEQ (by have := he.2.2.2.2; omega) (by decide : 0 < 2 ^ 63)).mp c_20))], rfl⟩
      · skip
        refine j_lload (pc := 23) X dX1_commonDivisor_23 0 rfl ?_
        refine j_lload (pc := 25) X dX1_commonDivisor_25 1 rfl ?_
        refine j_lrem (pc := 27) X dX1_commonDivisor_27 (by exact c_20) ?_
        refine j_topl (z := lN (g % m)) (lrem_lN (by have := he.2.2.2.1; omega) (by rcases Nat.eq_zero_or_pos m with q | q; exact absurd (by rw [q]; rfl) c_20; exact q) (by have := he.2.2.2.2; omega)) ?_
        refine j_lstore (pc := 28) X (lv' := [(9, .long (lN (g % m))), (4, .long (lN g)), (6, .long (lN m)), (8, .int (nI st))]) dX1_commonDivisor_28 (by decide) rfl ?_
        refine j_lload (pc := 30) X dX1_commonDivisor_30 2 rfl ?_
        refine j_lstore (pc := 32) X (lv' := [(4, .long (lN m)), (9, .long (lN (g % m))), (6, .long (lN m)), (8, .int (nI st))]) dX1_commonDivisor_32 (by decide) rfl ?_
        refine j_lload (pc := 34) X dX1_commonDivisor_34 1 rfl ?_
        refine j_lstore (pc := 36) X (lv' := [(6, .long (lN (g % m))), (4, .long (lN m)), (9, .long (lN (g % m))), (8, .int (nI st))]) dX1_commonDivisor_36 (by decide) rfl ?_
        refine j_iinc (pc := 38) X (v := nI (st + 1)) (lv' := [(8, .int (nI (st + 1))), (6, .long (lN (g % m))), (4, .long (lN m)), (9, .long (lN (g % m)))]) dX1_commonDivisor_38 3 rfl (nI_1 _) (by decide) rfl ?_
        refine j_goto (pc := 41) X (tgt := 9) dX1_commonDivisor_41 (by decide) ?_
        refine j_lv [2, 1, 0] (lv' := [(4, .long (lN m)), (6, .long (lN (g % m))), (8, .int (nI (st + 1)))]) rfl ?_
        exact ih (st + 1) m (g % m) (by omega) (euc_s he (fun e => c_20 (by rw [e]; rfl))) (by omega)
set_option maxHeartbeats 4000000 in
set_option maxRecDepth 100000 in
theorem mX1_commonDivisor (l : Launch) (G : jG) (a : Nat) (b : Nat) (ha : a < 2 ^ 49) (hb : b < 2 ^ 49) : MV l yX1_commonDivisor wsX1_commonDivisor ({ frames := 0, cells := 0, slots := 0, locals := 0 }) G [.long (lN a), .long (lN b)] [] (some (.long (lN (Nat.gcd a b)))) [] := by
  refine MF.ofJ (cc := cX1_commonDivisor) (maxL := 11) (ret := (some .long)) (own := RX1) (lv := [(0, .long (lN a)), (2, .long (lN b))]) (by decide) rfl rfl (Nat.le_of_ble_eq_true rfl) rfl ?_
  intro κ X
  refine j_lload_n (pc := 0) X dX1_commonDivisor_0 rfl 0 rfl ?_
  refine j_lstore (pc := 1) X (lv' := [(4, .long (lN a)), (0, .long (lN a)), (2, .long (lN b))]) dX1_commonDivisor_1 (by decide) rfl ?_
  refine j_lload_n (pc := 3) X dX1_commonDivisor_3 rfl 2 rfl ?_
  refine j_lstore (pc := 4) X (lv' := [(6, .long (lN b)), (4, .long (lN a)), (0, .long (lN a)), (2, .long (lN b))]) dX1_commonDivisor_4 (by decide) rfl ?_
  refine j_iconst (pc := 6) X (v := nI 0) dX1_commonDivisor_6 (by decide) ?_
  refine j_istore (pc := 7) X (lv' := [(8, .int (nI 0)), (6, .long (lN b)), (4, .long (lN a)), (0, .long (lN a)), (2, .long (lN b))]) dX1_commonDivisor_7 (by decide) rfl ?_
  refine j_lv [2, 1, 0] (lv' := [(4, .long (lN a)), (6, .long (lN b)), (8, .int (nI 0))]) rfl ?_
  exact mX1_commonDivisor_L9 l G a b ha hb κ X    (100 - 0 + 1) 0 a b (by omega) (euc_0 ha hb) (Nat.lt_succ_self _)

set_option maxHeartbeats 4000000 in
set_option maxRecDepth 100000 in
theorem mX1_become (l : Launch) (G : jG) (qf : Nat) (fa : Int64) (fb : Int64) (x : Int64) (k : Nat) (hx : x.toInt.natAbs < 2 ^ 49) (hk0 : 0 < k) (hk : k < 2 ^ 49) : MV l yX1_become wsX1_become ({ frames := 1, cells := 0, slots := 0, locals := 30 }) G [.ref qf, .long x, .long (lN k)] [(qf, .inr (1, [.long fa, .long fb]))] (none) [(qf, .inr (1, [.long (x / lN (gdl x k)), .long (lN k / lN (gdl x k))]))] := by
  refine MF.ofJ (cc := cX1_become) (maxL := 7) (ret := none) (own := RX1) (lv := [(0, .ref qf), (1, .long x), (3, .long (lN k))]) (by decide) rfl rfl (Nat.le_of_ble_eq_true rfl) rfl ?_
  intro κ X
  have i_X1 : ∀ w ∈ wsX10, w ∈ wsX1_become := by decide +kernel
  refine j_lload_n (pc := 0) X dX1_become_0 rfl 1 rfl ?_
  refine j_labs (pc := 1) X dX1_become_1 (by decide +kernel) (by decide +kernel) (by decide +kernel) (by decide +kernel) (by decide) (Nat.le_of_ble_eq_true rfl) (by decide) ?_
  refine j_topl (z := lN x.toInt.natAbs) (abs_lN x hx) ?_
  refine j_lload_n (pc := 4) X dX1_become_4 rfl 2 rfl ?_
  refine j_clP (pc := 5) X [] rfl (j_rS X (As := [.long (lN x.toInt.natAbs), .long (lN k)]) (rest := []) 2 (mX1_commonDivisor l G x.toInt.natAbs k (by first | assumption | omega | exact ob_s (by omega) | exact ob_n) (by first | assumption | omega | exact ob_s (by omega) | exact ob_n)) gX1_become_X1_commonDivisor rfl rfl rfl (by decide +kernel) ⟨Nat.le_of_ble_eq_true rfl, Nat.le_of_ble_eq_true rfl⟩ rfl [] rfl rfl rfl (Nat.le_of_ble_eq_true rfl) dX1_become_5 ⟨Nat.le_of_ble_eq_true rfl, Nat.le_of_ble_eq_true rfl⟩) ?_
  refine j_topl (z := lN (gdl x k)) (rfl) ?_
  refine j_lstore (pc := 8) X (lv' := [(5, .long (lN (gdl x k))), (0, .ref qf), (1, .long x), (3, .long (lN k))]) dX1_become_8 (by decide) rfl ?_
  refine j_lload (pc := 10) X dX1_become_10 0 rfl ?_
  refine j_lconst (pc := 12) X (v := 0) dX1_become_12 (by decide) ?_
  refine j_lcmp (pc := 13) X dX1_become_13 ?_
  refine j_ifc_le (pc := 14) X (tgt := 33) dX1_become_14 (by decide) (fun c_14 => ?_) (fun c_14 => ?_)
  · skip
    exact absurd c_14 (lN_gt0 (gdl_pos hk0) (by have := gdl_le (x := x) hk0; omega))
  · skip
    refine j_aload_n (pc := 17) X dX1_become_17 rfl 1 rfl ?_
    refine j_lload_n (pc := 18) X dX1_become_18 rfl 2 rfl ?_
    refine j_lload (pc := 19) X dX1_become_19 0 rfl ?_
    refine j_ldiv (pc := 21) X dX1_become_21 (by exact lN_ne0 (gdl_pos hk0) (by have := gdl_le (x := x) hk0; omega)) ?_
    refine j_put (pc := 22) X (v := .long (x / (lN (gdl x k)))) (ws' := [(qf, .inr (1, [.long (x / (lN (gdl x k))), .long fb]))]) 1 i_X1 tyX1 tyX1_ok nmX1 0 rfl rfl 0 (by decide) (by decide +kernel) (by decide) (rfl) (rfl) (Nat.le_of_ble_eq_true rfl) dX1_become_22 rfl ?_
    refine j_aload_n (pc := 25) X dX1_become_25 rfl 1 rfl ?_
    refine j_lload_n (pc := 26) X dX1_become_26 rfl 3 rfl ?_
    refine j_lload (pc := 27) X dX1_become_27 0 rfl ?_
    refine j_ldiv (pc := 29) X dX1_become_29 (by exact lN_ne0 (gdl_pos hk0) (by have := gdl_le (x := x) hk0; omega)) ?_
    refine j_put (pc := 30) X (v := .long ((lN k) / (lN (gdl x k)))) (ws' := [(qf, .inr (1, [.long (x / (lN (gdl x k))), .long ((lN k) / (lN (gdl x k)))]))]) 1 i_X1 tyX1 tyX1_ok nmX1 0 rfl rfl 1 (by decide) (by decide +kernel) (by decide) (rfl) (rfl) (Nat.le_of_ble_eq_true rfl) dX1_become_30 rfl ?_
    exact j_vret (pc := 33) X dX1_become_33 ⟨rfl, by simp⟩
end
section
set_option maxHeartbeats 4000000 in
set_option maxRecDepth 100000 in
theorem mX2_isGoal (l : Launch) (G : jG) (qg : Nat) (qg0 : Nat) (qg1 : Nat) (qg2 : Nat) (qg3 : Nat) (gm : Nat) (x : Int32)  : MV l yX2_isGoal wsX2_isGoal ({ frames := 0, cells := 0, slots := 0, locals := 0 }) G [.ref qg, .int x] [(qg, .inr (2, [.ref qg0, .ref qg1, .ref qg2, .ref qg3, .int (nI gm)]))] (some (.int (b2i (inR x gm)))) [(qg, .inr (2, [.ref qg0, .ref qg1, .ref qg2, .ref qg3, .int (nI gm)]))] := by
  refine MF.ofJ (cc := cX2_isGoal) (maxL := 2) (ret := (some .boolean)) (own := RX2) (lv := [(0, .ref qg), (1, .int x)]) (by decide) rfl rfl (Nat.le_of_ble_eq_true rfl) rfl ?_
  intro κ X
  have i_X2 : ∀ w ∈ wsX20, w ∈ wsX2_isGoal := by decide +kernel
  refine j_iload_n (pc := 0) X dX2_isGoal_0 rfl 1 rfl ?_
  refine j_if_lt (pc := 1) X (x := x) (tgt := 16) dX2_isGoal_1 (by decide) (fun c_1 => ?_) (fun c_1 => ?_)
  · skip
    refine j_iconst (pc := 16) X (v := nI 0) dX2_isGoal_16 (by decide) ?_
    exact j_zret (pc := 17) X (rfl) dX2_isGoal_17 ⟨r0 (by simp [inR, c_1]), rfl⟩
  · skip
    refine j_iload_n (pc := 4) X dX2_isGoal_4 rfl 1 rfl ?_
    refine j_aload_n (pc := 5) X dX2_isGoal_5 rfl 0 rfl ?_
    refine j_get (pc := 6) X 2 i_X2 0 rfl rfl 4 (by decide) (by decide +kernel) rfl dX2_isGoal_6 ?_
    refine j_icmp_ge (pc := 9) X (x := x) (z := nI gm) (tgt := 16) dX2_isGoal_9 (by decide) (fun c_9 => ?_) (fun c_9 => ?_)
    · skip
      refine j_iconst (pc := 16) X (v := nI 0) dX2_isGoal_16 (by decide) ?_
      exact j_zret (pc := 17) X (rfl) dX2_isGoal_17 ⟨r0 (by simp [inR, c_1, c_9]), rfl⟩
    · skip
      refine j_iconst (pc := 12) X (v := nI 1) dX2_isGoal_12 (by decide) ?_
      refine j_goto (pc := 13) X (tgt := 17) dX2_isGoal_13 (by decide) ?_
      exact j_zret (pc := 17) X (rfl) dX2_isGoal_17 ⟨r1 (by simp [inR, c_1, c_9]), rfl⟩

set_option maxHeartbeats 4000000 in
set_option maxRecDepth 100000 in
theorem mX2_isGoalOf (l : Launch) (G : jG) (qg : Nat) (qg0 : Nat) (qg1 : Nat) (qg2 : Nat) (qg3 : Nat) (gm : Nat) (gb : Nat → Nat) (x : Int32) (b : Nat) (hgm : gm ≤ 40) (hb : b < 16) (hgb : ∀ k, gb k < 16) : MV l yX2_isGoalOf wsX2_isGoalOf ({ frames := 1, cells := 0, slots := 0, locals := 21 }) G [.ref qg, .int x, .int (nI b)] [(qg, .inr (2, [.ref qg0, .ref qg1, .ref qg2, .ref qg3, .int (nI gm)])), kI G qg0 40 (nF gb)] (some (.int (b2i (inR x gm && decide (gb x.toNatClampNeg = b))))) [(qg, .inr (2, [.ref qg0, .ref qg1, .ref qg2, .ref qg3, .int (nI gm)])), kI G qg0 40 (nF gb)] := by
  refine MF.ofJ (cc := cX2_isGoalOf) (maxL := 3) (ret := (some .boolean)) (own := RX2) (lv := [(0, .ref qg), (1, .int x), (2, .int (nI b))]) (by decide) rfl rfl (Nat.le_of_ble_eq_true rfl) rfl ?_
  intro κ X
  have i_X2 : ∀ w ∈ wsX20, w ∈ wsX2_isGoalOf := by decide +kernel
  refine j_aload_n (pc := 0) X dX2_isGoalOf_0 rfl 0 rfl ?_
  refine j_iload_n (pc := 1) X dX2_isGoalOf_1 rfl 1 rfl ?_
  refine j_ciP (pc := 2) X [0] rfl (j_rV X (b := qg) (As := [.int x]) (ci := 2) (rest := []) 1 (mX2_isGoal l G qg qg0 qg1 qg2 qg3 gm x ) gX2_isGoalOf_X2_isGoal rfl rfl rfl (by decide +kernel) ⟨Nat.le_of_ble_eq_true rfl, Nat.le_of_ble_eq_true rfl⟩ rfl rfl 0 rfl [0] rfl rfl rfl (Nat.le_of_ble_eq_true rfl) dX2_isGoalOf_2 ⟨Nat.le_of_ble_eq_true rfl, Nat.le_of_ble_eq_true rfl⟩) ?_
  refine j_ifb_eq (pc := 5) X (B := inR x gm) (tgt := 22) dX2_isGoalOf_5 (by decide) (fun c_5 => ?_) (fun c_5 => ?_)
  · skip
    refine j_iconst (pc := 22) X (v := nI 0) dX2_isGoalOf_22 (by decide) ?_
    exact j_zret (pc := 23) X (rfl) dX2_isGoalOf_23 ⟨r0 (by first | (simp [c_5]; done) | (rw [nI_clamp (by omega)]; simp [c_5]; done)), rfl⟩
  · skip
    obtain ⟨j, hj, rfl⟩ := inR_of c_5 (by omega)
    refine j_aload_n (pc := 8) X dX2_isGoalOf_8 rfl 0 rfl ?_
    refine j_get (pc := 9) X 2 i_X2 0 rfl rfl 0 (by decide) (by decide +kernel) rfl dX2_isGoalOf_9 ?_
    refine j_iload_n (pc := 12) X dX2_isGoalOf_12 rfl 1 rfl ?_
    refine j_iald (pc := 13) X 1 rfl (vp_in_nI (by omega) (by decide)) (v := nI (gb j)) (congrArg (nF gb) (nI_clamp (by omega))) dX2_isGoalOf_13 ?_
    refine j_iload_n (pc := 14) X dX2_isGoalOf_14 rfl 2 rfl ?_
    refine j_icmpN_ne (pc := 15) X (a := (gb j)) (b := b) (by first | omega | exact Nat.lt_of_lt_of_le (hgb _) (by decide)) (by first | omega | exact Nat.lt_of_lt_of_le (hgb _) (by decide)) (tgt := 22) dX2_isGoalOf_15 (by decide) (fun c_15 => ?_) (fun c_15 => ?_)
    · skip
      refine j_iconst (pc := 22) X (v := nI 0) dX2_isGoalOf_22 (by decide) ?_
      exact j_zret (pc := 23) X (rfl) dX2_isGoalOf_23 ⟨r0 (by first | (simp [c_5, c_15]; done) | (rw [nI_clamp (by omega)]; simp [c_5, c_15]; done)), rfl⟩
    · skip
      refine j_iconst (pc := 18) X (v := nI 1) dX2_isGoalOf_18 (by decide) ?_
      refine j_goto (pc := 19) X (tgt := 23) dX2_isGoalOf_19 (by decide) ?_
      exact j_zret (pc := 23) X (rfl) dX2_isGoalOf_23 ⟨r1 (by first | (simp [c_5, c_15]; done) | (rw [nI_clamp (by omega)]; simp [c_5, c_15]; done)), rfl⟩

set_option maxHeartbeats 4000000 in
set_option maxRecDepth 100000 in
theorem mX2_add (l : Launch) (G : jG) (qg : Nat) (qg0 : Nat) (qg1 : Nat) (qg2 : Nat) (qg3 : Nat) (gm : Nat) (gb : Nat → Nat) (gd : Nat → Nat) (gh : Nat → Option Nat) (gc : Nat → Option Nat) (b : Nat) (du : Nat) (bh : Option Nat) (hgm : gm < 40) : MV l yX2_add wsX2_add ({ frames := 0, cells := 0, slots := 0, locals := 0 }) G [.ref qg, .int (nI b), .int (nI du), .int (oI bh)] [(qg, .inr (2, [.ref qg0, .ref qg1, .ref qg2, .ref qg3, .int (nI gm)])), kI G qg0 40 (nF gb), kI G qg1 40 (nF gd), kI G qg2 40 (oF gh), kI G qg3 40 (oF gc)] (some (.int (nI gm))) [(qg, .inr (2, [.ref qg0, .ref qg1, .ref qg2, .ref qg3, .int (nI (gm + 1))])), kI G qg0 40 (nF (va_up gb gm b)), kI G qg1 40 (nF (va_up gd gm du)), kI G qg2 40 (oF (va_up gh gm bh)), kI G qg3 40 (oF (va_up gc gm none))] := by
  refine MF.ofJ (cc := cX2_add) (maxL := 4) (ret := (some .int)) (own := RX2) (lv := [(0, .ref qg), (1, .int (nI b)), (2, .int (nI du)), (3, .int (oI bh))]) (by decide) rfl rfl (Nat.le_of_ble_eq_true rfl) rfl ?_
  intro κ X
  have i_X2 : ∀ w ∈ wsX20, w ∈ wsX2_add := by decide +kernel
  refine j_aload_n (pc := 0) X dX2_add_0 rfl 0 rfl ?_
  refine j_get (pc := 1) X 2 i_X2 0 rfl rfl 0 (by decide) (by decide +kernel) rfl dX2_add_1 ?_
  refine j_aload_n (pc := 4) X dX2_add_4 rfl 0 rfl ?_
  refine j_get (pc := 5) X 2 i_X2 0 rfl rfl 4 (by decide) (by decide +kernel) rfl dX2_add_5 ?_
  refine j_iload_n (pc := 8) X dX2_add_8 rfl 1 rfl ?_
  refine j_iast (pc := 9) X (f2 := (nF (va_up gb gm b))) (ws' := [(qg, .inr (2, [.ref qg0, .ref qg1, .ref qg2, .ref qg3, .int (nI gm)])), kI G qg0 40 (nF (va_up gb gm b)), kI G qg1 40 (nF gd), kI G qg2 40 (oF gh), kI G qg3 40 (oF gc)]) 1 rfl (vp_in_nI (by omega) (by decide)) dX2_add_9 (by rw [nI_clamp (by omega)]; exact nF_up gb gm b) rfl ?_
  refine j_aload_n (pc := 10) X dX2_add_10 rfl 0 rfl ?_
  refine j_get (pc := 11) X 2 i_X2 0 rfl rfl 1 (by decide) (by decide +kernel) rfl dX2_add_11 ?_
  refine j_aload_n (pc := 14) X dX2_add_14 rfl 0 rfl ?_
  refine j_get (pc := 15) X 2 i_X2 0 rfl rfl 4 (by decide) (by decide +kernel) rfl dX2_add_15 ?_
  refine j_iload_n (pc := 18) X dX2_add_18 rfl 2 rfl ?_
  refine j_iast (pc := 19) X (f2 := (nF (va_up gd gm du))) (ws' := [(qg, .inr (2, [.ref qg0, .ref qg1, .ref qg2, .ref qg3, .int (nI gm)])), kI G qg0 40 (nF (va_up gb gm b)), kI G qg1 40 (nF (va_up gd gm du)), kI G qg2 40 (oF gh), kI G qg3 40 (oF gc)]) 2 rfl (vp_in_nI (by omega) (by decide)) dX2_add_19 (by rw [nI_clamp (by omega)]; exact nF_up gd gm du) rfl ?_
  refine j_aload_n (pc := 20) X dX2_add_20 rfl 0 rfl ?_
  refine j_get (pc := 21) X 2 i_X2 0 rfl rfl 2 (by decide) (by decide +kernel) rfl dX2_add_21 ?_
  refine j_aload_n (pc := 24) X dX2_add_24 rfl 0 rfl ?_
  refine j_get (pc := 25) X 2 i_X2 0 rfl rfl 4 (by decide) (by decide +kernel) rfl dX2_add_25 ?_
  refine j_iload_n (pc := 28) X dX2_add_28 rfl 3 rfl ?_
  refine j_iast (pc := 29) X (f2 := (oF (va_up gh gm bh))) (ws' := [(qg, .inr (2, [.ref qg0, .ref qg1, .ref qg2, .ref qg3, .int (nI gm)])), kI G qg0 40 (nF (va_up gb gm b)), kI G qg1 40 (nF (va_up gd gm du)), kI G qg2 40 (oF (va_up gh gm bh)), kI G qg3 40 (oF gc)]) 3 rfl (vp_in_nI (by omega) (by decide)) dX2_add_29 (by rw [nI_clamp (by omega)]; exact oF_up gh gm bh) rfl ?_
  refine j_aload_n (pc := 30) X dX2_add_30 rfl 0 rfl ?_
  refine j_get (pc := 31) X 2 i_X2 0 rfl rfl 3 (by decide) (by decide +kernel) rfl dX2_add_31 ?_
  refine j_aload_n (pc := 34) X dX2_add_34 rfl 0 rfl ?_
  refine j_get (pc := 35) X 2 i_X2 0 rfl rfl 4 (by decide) (by decide +kernel) rfl dX2_add_35 ?_
  refine j_iconst (pc := 38) X (v := oI none) dX2_add_38 (by decide) ?_
  refine j_iast (pc := 39) X (f2 := (oF (va_up gc gm none))) (ws' := [(qg, .inr (2, [.ref qg0, .ref qg1, .ref qg2, .ref qg3, .int (nI gm)])), kI G qg0 40 (nF (va_up gb gm b)), kI G qg1 40 (nF (va_up gd gm du)), kI G qg2 40 (oF (va_up gh gm bh)), kI G qg3 40 (oF (va_up gc gm none))]) 4 rfl (vp_in_nI (by omega) (by decide)) dX2_add_39 (by rw [nI_clamp (by omega)]; exact oF_up gc gm none) rfl ?_
  refine j_aload_n (pc := 40) X dX2_add_40 rfl 0 rfl ?_
  refine j_dup (pc := 41) X dX2_add_41 rfl ?_
  refine j_get (pc := 42) X 2 i_X2 0 rfl rfl 4 (by decide) (by decide +kernel) rfl dX2_add_42 ?_
  refine j_iconst (pc := 45) X (v := nI 1) dX2_add_45 (by decide) ?_
  refine j_iadd (pc := 46) X dX2_add_46 ?_
  refine j_topi (z := nI (gm + 1)) (nI_add _ _) ?_
  refine j_put (pc := 47) X (v := .int (nI (gm + 1))) (ws' := [(qg, .inr (2, [.ref qg0, .ref qg1, .ref qg2, .ref qg3, .int (nI (gm + 1))])), kI G qg0 40 (nF (va_up gb gm b)), kI G qg1 40 (nF (va_up gd gm du)), kI G qg2 40 (oF (va_up gh gm bh)), kI G qg3 40 (oF (va_up gc gm none))]) 2 i_X2 tyX2 tyX2_ok nmX2 0 rfl rfl 4 (by decide) (by decide +kernel) (by decide) (rfl) (rfl) (Nat.le_of_ble_eq_true rfl) dX2_add_47 rfl ?_
  refine j_aload_n (pc := 50) X dX2_add_50 rfl 0 rfl ?_
  refine j_get (pc := 51) X 2 i_X2 0 rfl rfl 4 (by decide) (by decide +kernel) rfl dX2_add_51 ?_
  refine j_iconst (pc := 54) X (v := nI 1) dX2_add_54 (by decide) ?_
  refine j_isub (pc := 55) X dX2_add_55 ?_
  refine j_topi (z := nI (gm + 1 - 1)) (pk_sub (by omega)) ?_
  exact j_iret (pc := 56) X dX2_add_56 ⟨by simp, rfl⟩

set_option maxHeartbeats 4000000 in
set_option maxRecDepth 100000 in
theorem mX2_isReached_L8 (l : Launch) (G : jG) (qg : Nat) (qg0 : Nat) (qg1 : Nat) (qg2 : Nat) (qg3 : Nat) (gm : Nat) (gd : Nat → Nat) (gh : Nat → Option Nat) (gc : Nat → Option Nat) (g : Nat) (day : Nat) (hg : g < 40) (hd : day < 10000) (hgd : ∀ k, gd k < 10000) (hgh : ∀ k, ob 40 (gh k)) (hgc : ∀ k, ob 10000 (gc k)) (κ : jK) (X : CX κ l yX2_isReached cX2_isReached 7 RX2 wsX2_isReached (some .boolean) ({ frames := 0, cells := 0, slots := 0, locals := 0 }) G (va_A [(qg, .inr (2, [.ref qg0, .ref qg1, .ref qg2, .ref qg3, .int (nI gm)])), kI G qg1 40 (nF gd), kI G qg2 40 (oF gh), kI G qg3 40 (oF gc)] (js κ).heap.size))    : ∀ (fu : Nat) (st : Nat) (ak : Option Nat) (by_ : Nat) (hs : st ≤ 40) (hak : ob 40 ak) (hby : by_ < 10000) (hr : rch gc gd gh (40 - st) ak by_ = rch gc gd gh 40 (some g) day) (_ : 40 - st < fu), JJ κ 7 G (va_A [(qg, .inr (2, [.ref qg0, .ref qg1, .ref qg2, .ref qg3, .int (nI gm)])), kI G qg1 40 (nF gd), kI G qg2 40 (oF gh), kI G qg3 40 (oF gc)] (js κ).heap.size) 0 0 (jQ κ G [(qg, .inr (2, [.ref qg0, .ref qg1, .ref qg2, .ref qg3, .int (nI gm)])), kI G qg1 40 (nF gd), kI G qg2 40 (oF gh), kI G qg3 40 (oF gc)] (fun r w' => r = some (.int (b2i (rch gc gd gh 40 (some g) day))) ∧ w' = [(qg, .inr (2, [.ref qg0, .ref qg1, .ref qg2, .ref qg3, .int (nI gm)])), kI G qg1 40 (nF gd), kI G qg2 40 (oF gh), kI G qg3 40 (oF gc)]) 0 0) 8 [(0, .ref qg), (3, .int (oI ak)), (4, .int (nI by_)), (5, .int (nI st))] [] [(qg, .inr (2, [.ref qg0, .ref qg1, .ref qg2, .ref qg3, .int (nI gm)])), kI G qg1 40 (nF gd), kI G qg2 40 (oF gh), kI G qg3 40 (oF gc)] := by
  have i_X2 : ∀ w ∈ wsX20, w ∈ wsX2_isReached := by decide +kernel
  intro fu
  induction fu with
  | zero => intro st ak by_ hs hak hby hr hms; exact absurd hms (Nat.not_lt_zero _)
  | succ fu ih =>
    intro st ak by_ hs hak hby hr hms
    refine j_iload (pc := 8) X dX2_isReached_8 3 rfl ?_
    refine j_bipush (pc := 10) X (v := nI 40) dX2_isReached_10 (by decide) ?_
    refine j_icmpN_ge (pc := 12) X (a := st) (b := 40) (by first | omega | exact Nat.lt_of_lt_of_le (hgd _) (by decide) | exact Nat.lt_of_lt_of_le (hgc _ _ hcf) (by decide)) (by first | omega | exact Nat.lt_of_lt_of_le (hgd _) (by decide) | exact Nat.lt_of_lt_of_le (hgc _ _ hcf) (by decide)) (tgt := 71) dX2_isReached_12 (by decide) (fun c_12 => ?_) (fun c_12 => ?_)
    · skip
      refine j_iconst (pc := 71) X (v := nI 1) dX2_isReached_71 (by decide) ?_
      exact j_zret (pc := 72) X (rfl) dX2_isReached_72 ⟨r1 (by rw [← hr, show 40 - st = 0 by omega]; rfl), rfl⟩
    · skip
      refine j_iload_n (pc := 15) X dX2_isReached_15 rfl 1 rfl ?_
      refine j_iconst (pc := 16) X (v := oI none) dX2_isReached_16 (by decide) ?_
      refine j_icmpZ_eq (pc := 17) X (a := ak) (by exact hak.big (by decide)) (tgt := 71) dX2_isReached_17 (by decide) (fun c_17 => ?_) (fun c_17 => ?_)
      · skip
        refine j_iconst (pc := 71) X (v := nI 1) dX2_isReached_71 (by decide) ?_
        exact j_zret (pc := 72) X (rfl) dX2_isReached_72 ⟨r1 (by rw [← hr, c_17]; cases 40 - st <;> rfl), rfl⟩
      · skip
        obtain ⟨j, rfl⟩ := Option.ne_none_iff_exists'.mp c_17; have hj := hak j rfl
        refine j_aload_n (pc := 20) X dX2_isReached_20 rfl 0 rfl ?_
        refine j_get (pc := 21) X 2 i_X2 0 rfl rfl 3 (by decide) (by decide +kernel) rfl dX2_isReached_21 ?_
        refine j_iload_n (pc := 24) X dX2_isReached_24 rfl 1 rfl ?_
        refine j_iald (pc := 25) X 3 rfl (vp_in_nI (by omega) (by decide)) (v := oI (gc j)) (congrArg (oF gc) (nI_clamp (by omega))) dX2_isReached_25 ?_
        refine j_istore (pc := 26) X (lv' := [(6, .int (oI (gc j))), (0, .ref qg), (3, .int (nI j)), (4, .int (nI by_)), (5, .int (nI st))]) dX2_isReached_26 (by decide) rfl ?_
        refine j_iload (pc := 28) X dX2_isReached_28 0 rfl ?_
        refine j_iconst (pc := 30) X (v := oI none) dX2_isReached_30 (by decide) ?_
        refine j_icmpZ_eq (pc := 31) X (a := (gc j)) (by exact (hgc _).big (by decide)) (tgt := 52) dX2_isReached_31 (by decide) (fun c_31 => ?_) (fun c_31 => ?_)
        · skip
          refine j_iconst (pc := 52) X (v := nI 0) dX2_isReached_52 (by decide) ?_
          exact j_zret (pc := 53) X (rfl) dX2_isReached_53 ⟨r0 (by rw [← hr, show 40 - st = (40 - (st + 1)) + 1 by omega]; first | (simp [rch, hcf, c_12, c_17, c_31]; done) | (simp [rch, c_12, c_17, c_31]; done)), rfl⟩
        · skip
          obtain ⟨cf, hcf⟩ := Option.ne_none_iff_exists'.mp c_31
          refine j_lvq (lv' := [(6, .int (nI cf)), (0, .ref qg), (3, .int (nI j)), (4, .int (nI by_)), (5, .int (nI st))]) (by rw [hcf] <;> rfl) ?_
          refine j_iload (pc := 34) X dX2_isReached_34 0 rfl ?_
          refine j_iload (pc := 36) X dX2_isReached_36 3 rfl ?_
          refine j_icmpN_gt (pc := 38) X (a := cf) (b := by_) (by first | omega | exact Nat.lt_of_lt_of_le (hgd _) (by decide) | exact Nat.lt_of_lt_of_le (hgc _ _ hcf) (by decide)) (by first | omega | exact Nat.lt_of_lt_of_le (hgd _) (by decide) | exact Nat.lt_of_lt_of_le (hgc _ _ hcf) (by decide)) (tgt := 52) dX2_isReached_38 (by decide) (fun c_38 => ?_) (fun c_38 => ?_)
          · skip
            refine j_iconst (pc := 52) X (v := nI 0) dX2_isReached_52 (by decide) ?_
            exact j_zret (pc := 53) X (rfl) dX2_isReached_53 ⟨r0 (by rw [← hr, show 40 - st = (40 - (st + 1)) + 1 by omega]; first | (simp [rch, hcf, c_12, c_17, c_31, c_38]; done) | (simp [rch, c_12, c_17, c_31, c_38]; done)), rfl⟩
          · skip
            refine j_iload (pc := 41) X dX2_isReached_41 0 rfl ?_
            refine j_aload_n (pc := 43) X dX2_isReached_43 rfl 1 rfl ?_
            refine j_get (pc := 44) X 2 i_X2 0 rfl rfl 1 (by decide) (by decide +kernel) rfl dX2_isReached_44 ?_
            refine j_iload_n (pc := 47) X dX2_isReached_47 rfl 2 rfl ?_
            refine j_iald (pc := 48) X 1 rfl (vp_in_nI (by omega) (by decide)) (v := nI (gd j)) (congrArg (nF gd) (nI_clamp (by omega))) dX2_isReached_48 ?_
            refine j_icmpN_le (pc := 49) X (a := cf) (b := (gd j)) (by first | omega | exact Nat.lt_of_lt_of_le (hgd _) (by decide) | exact Nat.lt_of_lt_of_le (hgc _ _ hcf) (by decide)) (by first | omega | exact Nat.lt_of_lt_of_le (hgd _) (by decide) | exact Nat.lt_of_lt_of_le (hgc _ _ hcf) (by decide)) (tgt := 54) dX2_isReached_49 (by decide) (fun c_49 => ?_) (fun c_49 => ?_)
            · skip
              refine j_iload (pc := 54) X dX2_isReached_54 0 rfl ?_
              refine j_istore (pc := 56) X (lv' := [(4, .int (nI cf)), (6, .int (nI cf)), (0, .ref qg), (3, .int (nI j)), (5, .int (nI st))]) dX2_isReached_56 (by decide) rfl ?_
              refine j_aload_n (pc := 58) X dX2_isReached_58 rfl 2 rfl ?_
              refine j_get (pc := 59) X 2 i_X2 0 rfl rfl 2 (by decide) (by decide +kernel) rfl dX2_isReached_59 ?_
              refine j_iload_n (pc := 62) X dX2_isReached_62 rfl 3 rfl ?_
              refine j_iald (pc := 63) X 2 rfl (vp_in_nI (by omega) (by decide)) (v := oI (gh j)) (congrArg (oF gh) (nI_clamp (by omega))) dX2_isReached_63 ?_
              refine j_istore_n (pc := 64) X (lv' := [(3, .int (oI (gh j))), (4, .int (nI cf)), (6, .int (nI cf)), (0, .ref qg), (5, .int (nI st))]) dX2_isReached_64 rfl (by decide) rfl ?_
              refine j_iinc (pc := 65) X (v := nI (st + 1)) (lv' := [(5, .int (nI (st + 1))), (3, .int (oI (gh j))), (4, .int (nI cf)), (6, .int (nI cf)), (0, .ref qg)]) dX2_isReached_65 4 rfl (nI_1 _) (by decide) rfl ?_
              refine j_goto (pc := 68) X (tgt := 8) dX2_isReached_68 (by decide) ?_
              refine j_lv [4, 1, 2, 0] (lv' := [(0, .ref qg), (3, .int (oI (gh j))), (4, .int (nI cf)), (5, .int (nI (st + 1)))]) rfl ?_
              exact ih (st + 1) (gh j) cf (by omega) (hgh _) (hgc _ _ hcf) (by rw [← hr, show 40 - st = (40 - (st + 1)) + 1 by omega]; simp [rch, hcf, c_12, c_17, c_31, c_38, c_49]) (by omega)
            · skip
              refine j_iconst (pc := 52) X (v := nI 0) dX2_isReached_52 (by decide) ?_
              exact j_zret (pc := 53) X (rfl) dX2_isReached_53 ⟨r0 (by rw [← hr, show 40 - st = (40 - (st + 1)) + 1 by omega]; first | (simp [rch, hcf, c_12, c_17, c_31, c_38, c_49]; done) | (simp [rch, c_12, c_17, c_31, c_38, c_49]; done)), rfl⟩
set_option maxHeartbeats 4000000 in
set_option maxRecDepth 100000 in
theorem mX2_isReached (l : Launch) (G : jG) (qg : Nat) (qg0 : Nat) (qg1 : Nat) (qg2 : Nat) (qg3 : Nat) (gm : Nat) (gd : Nat → Nat) (gh : Nat → Option Nat) (gc : Nat → Option Nat) (g : Nat) (day : Nat) (hg : g < 40) (hd : day < 10000) (hgd : ∀ k, gd k < 10000) (hgh : ∀ k, ob 40 (gh k)) (hgc : ∀ k, ob 10000 (gc k)) : MV l yX2_isReached wsX2_isReached ({ frames := 0, cells := 0, slots := 0, locals := 0 }) G [.ref qg, .int (nI g), .int (nI day)] [(qg, .inr (2, [.ref qg0, .ref qg1, .ref qg2, .ref qg3, .int (nI gm)])), kI G qg1 40 (nF gd), kI G qg2 40 (oF gh), kI G qg3 40 (oF gc)] (some (.int (b2i (rch gc gd gh 40 (some g) day)))) [(qg, .inr (2, [.ref qg0, .ref qg1, .ref qg2, .ref qg3, .int (nI gm)])), kI G qg1 40 (nF gd), kI G qg2 40 (oF gh), kI G qg3 40 (oF gc)] := by
  refine MF.ofJ (cc := cX2_isReached) (maxL := 7) (ret := (some .boolean)) (own := RX2) (lv := [(0, .ref qg), (1, .int (nI g)), (2, .int (nI day))]) (by decide) rfl rfl (Nat.le_of_ble_eq_true rfl) rfl ?_
  intro κ X
  have i_X2 : ∀ w ∈ wsX20, w ∈ wsX2_isReached := by decide +kernel
  refine j_iload_n (pc := 0) X dX2_isReached_0 rfl 1 rfl ?_
  refine j_istore_n (pc := 1) X (lv' := [(3, .int (nI g)), (0, .ref qg), (1, .int (nI g)), (2, .int (nI day))]) dX2_isReached_1 rfl (by decide) rfl ?_
  refine j_iload_n (pc := 2) X dX2_isReached_2 rfl 3 rfl ?_
  refine j_istore (pc := 3) X (lv' := [(4, .int (nI day)), (3, .int (nI g)), (0, .ref qg), (1, .int (nI g)), (2, .int (nI day))]) dX2_isReached_3 (by decide) rfl ?_
  refine j_iconst (pc := 5) X (v := nI 0) dX2_isReached_5 (by decide) ?_
  refine j_istore (pc := 6) X (lv' := [(5, .int (nI 0)), (4, .int (nI day)), (3, .int (nI g)), (0, .ref qg), (1, .int (nI g)), (2, .int (nI day))]) dX2_isReached_6 (by decide) rfl ?_
  refine j_lv [3, 2, 1, 0] (lv' := [(0, .ref qg), (3, .int (nI g)), (4, .int (nI day)), (5, .int (nI 0))]) rfl ?_
  refine j_lvq (lv' := [(0, .ref qg), (3, .int (oI (some g))), (4, .int (nI day)), (5, .int (nI 0))]) rfl ?_
  exact mX2_isReached_L8 l G qg qg0 qg1 qg2 qg3 gm gd gh gc g day hg hd hgd hgh hgc κ X    (40 - 0 + 1) 0 (some g) day (by omega) (ob_s hg) (by omega) (by rfl) (Nat.lt_succ_self _)

set_option maxHeartbeats 4000000 in
set_option maxRecDepth 100000 in
theorem mX2_asOf (l : Launch) (G : jG) (qg : Nat) (qg0 : Nat) (qg1 : Nat) (qg2 : Nat) (qg3 : Nat) (gm : Nat) (gd : Nat → Nat) (gh : Nat → Option Nat) (gc : Nat → Option Nat) (g : Nat) (day : Nat) (hg : g < 40) (hd : day < 10000) (hgd : ∀ k, gd k < 10000) (hgh : ∀ k, ob 40 (gh k)) (hgc : ∀ k, ob 10000 (gc k)) : MV l yX2_asOf wsX2_asOf ({ frames := 1, cells := 0, slots := 0, locals := 26 }) G [.ref qg, .int (nI g), .int (nI day)] [(qg, .inr (2, [.ref qg0, .ref qg1, .ref qg2, .ref qg3, .int (nI gm)])), kI G qg1 40 (nF gd), kI G qg2 40 (oF gh), kI G qg3 40 (oF gc)] (some (.int (nI (if rch gc gd gh 40 (some g) day then 1 else if day ≤ gd g then 0 else 2)))) [(qg, .inr (2, [.ref qg0, .ref qg1, .ref qg2, .ref qg3, .int (nI gm)])), kI G qg1 40 (nF gd), kI G qg2 40 (oF gh), kI G qg3 40 (oF gc)] := by
  refine MF.ofJ (cc := cX2_asOf) (maxL := 3) (ret := (some .int)) (own := RX2) (lv := [(0, .ref qg), (1, .int (nI g)), (2, .int (nI day))]) (by decide) rfl rfl (Nat.le_of_ble_eq_true rfl) rfl ?_
  intro κ X
  have i_X2 : ∀ w ∈ wsX20, w ∈ wsX2_asOf := by decide +kernel
  refine j_aload_n (pc := 0) X dX2_asOf_0 rfl 0 rfl ?_
  refine j_iload_n (pc := 1) X dX2_asOf_1 rfl 1 rfl ?_
  refine j_iload_n (pc := 2) X dX2_asOf_2 rfl 2 rfl ?_
  refine j_ciP (pc := 3) X [0, 1, 2, 3] rfl (j_rV X (b := qg) (As := [.int (nI g), .int (nI day)]) (ci := 2) (rest := []) 2 (mX2_isReached l G qg qg0 qg1 qg2 qg3 gm gd gh gc g day (by first | assumption | omega | exact ob_s (by omega) | exact ob_n) (by first | assumption | omega | exact ob_s (by omega) | exact ob_n) (by first | assumption | omega | exact ob_s (by omega) | exact ob_n) (by first | assumption | omega | exact ob_s (by omega) | exact ob_n) (by first | assumption | omega | exact ob_s (by omega) | exact ob_n)) gX2_asOf_X2_isReached rfl rfl rfl (by decide +kernel) ⟨Nat.le_of_ble_eq_true rfl, Nat.le_of_ble_eq_true rfl⟩ rfl rfl 0 rfl [0, 1, 2, 3] rfl rfl rfl (Nat.le_of_ble_eq_true rfl) dX2_asOf_3 ⟨Nat.le_of_ble_eq_true rfl, Nat.le_of_ble_eq_true rfl⟩) ?_
  refine j_ifb_eq (pc := 6) X (B := rch gc gd gh 40 (some g) day) (tgt := 11) dX2_asOf_6 (by decide) (fun c_6 => ?_) (fun c_6 => ?_)
  · skip
    refine j_iload_n (pc := 11) X dX2_asOf_11 rfl 2 rfl ?_
    refine j_aload_n (pc := 12) X dX2_asOf_12 rfl 0 rfl ?_
    refine j_get (pc := 13) X 2 i_X2 0 rfl rfl 1 (by decide) (by decide +kernel) rfl dX2_asOf_13 ?_
    refine j_iload_n (pc := 16) X dX2_asOf_16 rfl 1 rfl ?_
    refine j_iald (pc := 17) X 1 rfl (vp_in_nI (by omega) (by decide)) (v := nI (gd g)) (congrArg (nF gd) (nI_clamp (by omega))) dX2_asOf_17 ?_
    refine j_icmpN_le (pc := 18) X (a := day) (b := (gd g)) (by first | omega | exact Nat.lt_of_lt_of_le (hgd _) (by decide)) (by first | omega | exact Nat.lt_of_lt_of_le (hgd _) (by decide)) (tgt := 25) dX2_asOf_18 (by decide) (fun c_18 => ?_) (fun c_18 => ?_)
    · skip
      refine j_iconst (pc := 25) X (v := nI 0) dX2_asOf_25 (by decide) ?_
      exact j_iret (pc := 26) X dX2_asOf_26 ⟨by simp [c_6, c_18], rfl⟩
    · skip
      refine j_iconst (pc := 21) X (v := nI 2) dX2_asOf_21 (by decide) ?_
      refine j_goto (pc := 22) X (tgt := 26) dX2_asOf_22 (by decide) ?_
      exact j_iret (pc := 26) X dX2_asOf_26 ⟨by simp [c_6, c_18], rfl⟩
  · skip
    refine j_iconst (pc := 9) X (v := nI 1) dX2_asOf_9 (by decide) ?_
    exact j_iret (pc := 10) X dX2_asOf_10 ⟨by simp [c_6], rfl⟩
end
section
set_option maxHeartbeats 4000000 in
set_option maxRecDepth 100000 in
theorem mX3_isMeeting (l : Launch) (G : jG) (qm : Nat) (qm0 : Nat) (qm1 : Nat) (qm2 : Nat) (qm3 : Nat) (qm4 : Nat) (mm : Nat) (tt : Nat) (x : Int32)  : MV l yX3_isMeeting wsX3_isMeeting ({ frames := 0, cells := 0, slots := 0, locals := 0 }) G [.ref qm, .int x] [(qm, .inr (3, [.ref qm0, .ref qm1, .ref qm2, .ref qm3, .ref qm4, .int (nI mm), .int (nI tt)]))] (some (.int (b2i (inR x mm)))) [(qm, .inr (3, [.ref qm0, .ref qm1, .ref qm2, .ref qm3, .ref qm4, .int (nI mm), .int (nI tt)]))] := by
  refine MF.ofJ (cc := cX3_isMeeting) (maxL := 2) (ret := (some .boolean)) (own := RX3) (lv := [(0, .ref qm), (1, .int x)]) (by decide) rfl rfl (Nat.le_of_ble_eq_true rfl) rfl ?_
  intro κ X
  have i_X3 : ∀ w ∈ wsX30, w ∈ wsX3_isMeeting := by decide +kernel
  refine j_iload_n (pc := 0) X dX3_isMeeting_0 rfl 1 rfl ?_
  refine j_if_lt (pc := 1) X (x := x) (tgt := 16) dX3_isMeeting_1 (by decide) (fun c_1 => ?_) (fun c_1 => ?_)
  · skip
    refine j_iconst (pc := 16) X (v := nI 0) dX3_isMeeting_16 (by decide) ?_
    exact j_zret (pc := 17) X (rfl) dX3_isMeeting_17 ⟨r0 (by simp [inR, c_1]), rfl⟩
  · skip
    refine j_iload_n (pc := 4) X dX3_isMeeting_4 rfl 1 rfl ?_
    refine j_aload_n (pc := 5) X dX3_isMeeting_5 rfl 0 rfl ?_
    refine j_get (pc := 6) X 3 i_X3 0 rfl rfl 5 (by decide) (by decide +kernel) rfl dX3_isMeeting_6 ?_
    refine j_icmp_ge (pc := 9) X (x := x) (z := nI mm) (tgt := 16) dX3_isMeeting_9 (by decide) (fun c_9 => ?_) (fun c_9 => ?_)
    · skip
      refine j_iconst (pc := 16) X (v := nI 0) dX3_isMeeting_16 (by decide) ?_
      exact j_zret (pc := 17) X (rfl) dX3_isMeeting_17 ⟨r0 (by simp [inR, c_1, c_9]), rfl⟩
    · skip
      refine j_iconst (pc := 12) X (v := nI 1) dX3_isMeeting_12 (by decide) ?_
      refine j_goto (pc := 13) X (tgt := 17) dX3_isMeeting_13 (by decide) ?_
      exact j_zret (pc := 17) X (rfl) dX3_isMeeting_17 ⟨r1 (by simp [inR, c_1, c_9]), rfl⟩

set_option maxHeartbeats 4000000 in
set_option maxRecDepth 100000 in
theorem mX3_add (l : Launch) (G : jG) (qm : Nat) (qm0 : Nat) (qm1 : Nat) (qm2 : Nat) (qm3 : Nat) (qm4 : Nat) (mm : Nat) (tt : Nat) (mb : Nat → Nat) (md : Nat → Nat) (b : Nat) (du : Nat) (hmm : mm < 100) : MV l yX3_add wsX3_add ({ frames := 0, cells := 0, slots := 0, locals := 0 }) G [.ref qm, .int (nI b), .int (nI du)] [(qm, .inr (3, [.ref qm0, .ref qm1, .ref qm2, .ref qm3, .ref qm4, .int (nI mm), .int (nI tt)])), kI G qm0 100 (nF mb), kI G qm1 100 (nF md)] (some (.int (nI mm))) [(qm, .inr (3, [.ref qm0, .ref qm1, .ref qm2, .ref qm3, .ref qm4, .int (nI (mm + 1)), .int (nI tt)])), kI G qm0 100 (nF (va_up mb mm b)), kI G qm1 100 (nF (va_up md mm du))] := by
  refine MF.ofJ (cc := cX3_add) (maxL := 3) (ret := (some .int)) (own := RX3) (lv := [(0, .ref qm), (1, .int (nI b)), (2, .int (nI du))]) (by decide) rfl rfl (Nat.le_of_ble_eq_true rfl) rfl ?_
  intro κ X
  have i_X3 : ∀ w ∈ wsX30, w ∈ wsX3_add := by decide +kernel
  refine j_aload_n (pc := 0) X dX3_add_0 rfl 0 rfl ?_
  refine j_get (pc := 1) X 3 i_X3 0 rfl rfl 0 (by decide) (by decide +kernel) rfl dX3_add_1 ?_
  refine j_aload_n (pc := 4) X dX3_add_4 rfl 0 rfl ?_
  refine j_get (pc := 5) X 3 i_X3 0 rfl rfl 5 (by decide) (by decide +kernel) rfl dX3_add_5 ?_
  refine j_iload_n (pc := 8) X dX3_add_8 rfl 1 rfl ?_
  refine j_iast (pc := 9) X (f2 := (nF (va_up mb mm b))) (ws' := [(qm, .inr (3, [.ref qm0, .ref qm1, .ref qm2, .ref qm3, .ref qm4, .int (nI mm), .int (nI tt)])), kI G qm0 100 (nF (va_up mb mm b)), kI G qm1 100 (nF md)]) 1 rfl (vp_in_nI (by omega) (by decide)) dX3_add_9 (by rw [nI_clamp (by omega)]; exact nF_up mb mm b) rfl ?_
  refine j_aload_n (pc := 10) X dX3_add_10 rfl 0 rfl ?_
  refine j_get (pc := 11) X 3 i_X3 0 rfl rfl 1 (by decide) (by decide +kernel) rfl dX3_add_11 ?_
  refine j_aload_n (pc := 14) X dX3_add_14 rfl 0 rfl ?_
  refine j_get (pc := 15) X 3 i_X3 0 rfl rfl 5 (by decide) (by decide +kernel) rfl dX3_add_15 ?_
  refine j_iload_n (pc := 18) X dX3_add_18 rfl 2 rfl ?_
  refine j_iast (pc := 19) X (f2 := (nF (va_up md mm du))) (ws' := [(qm, .inr (3, [.ref qm0, .ref qm1, .ref qm2, .ref qm3, .ref qm4, .int (nI mm), .int (nI tt)])), kI G qm0 100 (nF (va_up mb mm b)), kI G qm1 100 (nF (va_up md mm du))]) 2 rfl (vp_in_nI (by omega) (by decide)) dX3_add_19 (by rw [nI_clamp (by omega)]; exact nF_up md mm du) rfl ?_
  refine j_aload_n (pc := 20) X dX3_add_20 rfl 0 rfl ?_
  refine j_dup (pc := 21) X dX3_add_21 rfl ?_
  refine j_get (pc := 22) X 3 i_X3 0 rfl rfl 5 (by decide) (by decide +kernel) rfl dX3_add_22 ?_
  refine j_iconst (pc := 25) X (v := nI 1) dX3_add_25 (by decide) ?_
  refine j_iadd (pc := 26) X dX3_add_26 ?_
  refine j_topi (z := nI (mm + 1)) (nI_add _ _) ?_
  refine j_put (pc := 27) X (v := .int (nI (mm + 1))) (ws' := [(qm, .inr (3, [.ref qm0, .ref qm1, .ref qm2, .ref qm3, .ref qm4, .int (nI (mm + 1)), .int (nI tt)])), kI G qm0 100 (nF (va_up mb mm b)), kI G qm1 100 (nF (va_up md mm du))]) 3 i_X3 tyX3 tyX3_ok nmX3 0 rfl rfl 5 (by decide) (by decide +kernel) (by decide) (rfl) (rfl) (Nat.le_of_ble_eq_true rfl) dX3_add_27 rfl ?_
  refine j_aload_n (pc := 30) X dX3_add_30 rfl 0 rfl ?_
  refine j_get (pc := 31) X 3 i_X3 0 rfl rfl 5 (by decide) (by decide +kernel) rfl dX3_add_31 ?_
  refine j_iconst (pc := 34) X (v := nI 1) dX3_add_34 (by decide) ?_
  refine j_isub (pc := 35) X dX3_add_35 ?_
  refine j_topi (z := nI (mm + 1 - 1)) (pk_sub (by omega)) ?_
  exact j_iret (pc := 36) X dX3_add_36 ⟨by simp, rfl⟩

set_option maxHeartbeats 4000000 in
set_option maxRecDepth 100000 in
theorem mX3_addTelling (l : Launch) (G : jG) (qm : Nat) (qm0 : Nat) (qm1 : Nat) (qm2 : Nat) (qm3 : Nat) (qm4 : Nat) (mm : Nat) (tt : Nat) (tm : Nat → Nat) (td : Nat → Nat) (tk : Nat → Bool) (m : Nat) (day : Nat) (kp : Bool) (htt : tt < 200) : MV l yX3_addTelling wsX3_addTelling ({ frames := 0, cells := 0, slots := 0, locals := 0 }) G [.ref qm, .int (nI m), .int (b2i kp), .int (nI day)] [(qm, .inr (3, [.ref qm0, .ref qm1, .ref qm2, .ref qm3, .ref qm4, .int (nI mm), .int (nI tt)])), kI G qm2 200 (nF tm), kI G qm3 200 (nF td), kZ G qm4 200 (bF tk)] (none) [(qm, .inr (3, [.ref qm0, .ref qm1, .ref qm2, .ref qm3, .ref qm4, .int (nI mm), .int (nI (tt + 1))])), kI G qm2 200 (nF (va_up tm tt m)), kI G qm3 200 (nF (va_up td tt day)), kZ G qm4 200 (bF (va_up tk tt kp))] := by
  refine MF.ofJ (cc := cX3_addTelling) (maxL := 4) (ret := none) (own := RX3) (lv := [(0, .ref qm), (1, .int (nI m)), (2, .int (b2i kp)), (3, .int (nI day))]) (by decide) rfl rfl (Nat.le_of_ble_eq_true rfl) rfl ?_
  intro κ X
  have i_X3 : ∀ w ∈ wsX30, w ∈ wsX3_addTelling := by decide +kernel
  refine j_aload_n (pc := 0) X dX3_addTelling_0 rfl 0 rfl ?_
  refine j_get (pc := 1) X 3 i_X3 0 rfl rfl 2 (by decide) (by decide +kernel) rfl dX3_addTelling_1 ?_
  refine j_aload_n (pc := 4) X dX3_addTelling_4 rfl 0 rfl ?_
  refine j_get (pc := 5) X 3 i_X3 0 rfl rfl 6 (by decide) (by decide +kernel) rfl dX3_addTelling_5 ?_
  refine j_iload_n (pc := 8) X dX3_addTelling_8 rfl 1 rfl ?_
  refine j_iast (pc := 9) X (f2 := (nF (va_up tm tt m))) (ws' := [(qm, .inr (3, [.ref qm0, .ref qm1, .ref qm2, .ref qm3, .ref qm4, .int (nI mm), .int (nI tt)])), kI G qm2 200 (nF (va_up tm tt m)), kI G qm3 200 (nF td), kZ G qm4 200 (bF tk)]) 1 rfl (vp_in_nI (by omega) (by decide)) dX3_addTelling_9 (by rw [nI_clamp (by omega)]; exact nF_up tm tt m) rfl ?_
  refine j_aload_n (pc := 10) X dX3_addTelling_10 rfl 0 rfl ?_
  refine j_get (pc := 11) X 3 i_X3 0 rfl rfl 4 (by decide) (by decide +kernel) rfl dX3_addTelling_11 ?_
  refine j_aload_n (pc := 14) X dX3_addTelling_14 rfl 0 rfl ?_
  refine j_get (pc := 15) X 3 i_X3 0 rfl rfl 6 (by decide) (by decide +kernel) rfl dX3_addTelling_15 ?_
  refine j_iload_n (pc := 18) X dX3_addTelling_18 rfl 2 rfl ?_
  refine j_zast (pc := 19) X (f2 := (bF (va_up tk tt kp))) (ws' := [(qm, .inr (3, [.ref qm0, .ref qm1, .ref qm2, .ref qm3, .ref qm4, .int (nI mm), .int (nI tt)])), kI G qm2 200 (nF (va_up tm tt m)), kI G qm3 200 (nF td), kZ G qm4 200 (bF (va_up tk tt kp))]) 3 rfl (vp_in_nI (by omega) (by decide)) dX3_addTelling_19 (b2i_vnar _) (by rw [nI_clamp (by omega)]; exact bF_up tk tt kp) rfl ?_
  refine j_aload_n (pc := 20) X dX3_addTelling_20 rfl 0 rfl ?_
  refine j_get (pc := 21) X 3 i_X3 0 rfl rfl 3 (by decide) (by decide +kernel) rfl dX3_addTelling_21 ?_
  refine j_aload_n (pc := 24) X dX3_addTelling_24 rfl 0 rfl ?_
  refine j_get (pc := 25) X 3 i_X3 0 rfl rfl 6 (by decide) (by decide +kernel) rfl dX3_addTelling_25 ?_
  refine j_iload_n (pc := 28) X dX3_addTelling_28 rfl 3 rfl ?_
  refine j_iast (pc := 29) X (f2 := (nF (va_up td tt day))) (ws' := [(qm, .inr (3, [.ref qm0, .ref qm1, .ref qm2, .ref qm3, .ref qm4, .int (nI mm), .int (nI tt)])), kI G qm2 200 (nF (va_up tm tt m)), kI G qm3 200 (nF (va_up td tt day)), kZ G qm4 200 (bF (va_up tk tt kp))]) 2 rfl (vp_in_nI (by omega) (by decide)) dX3_addTelling_29 (by rw [nI_clamp (by omega)]; exact nF_up td tt day) rfl ?_
  refine j_aload_n (pc := 30) X dX3_addTelling_30 rfl 0 rfl ?_
  refine j_dup (pc := 31) X dX3_addTelling_31 rfl ?_
  refine j_get (pc := 32) X 3 i_X3 0 rfl rfl 6 (by decide) (by decide +kernel) rfl dX3_addTelling_32 ?_
  refine j_iconst (pc := 35) X (v := nI 1) dX3_addTelling_35 (by decide) ?_
  refine j_iadd (pc := 36) X dX3_addTelling_36 ?_
  refine j_topi (z := nI (tt + 1)) (nI_add _ _) ?_
  refine j_put (pc := 37) X (v := .int (nI (tt + 1))) (ws' := [(qm, .inr (3, [.ref qm0, .ref qm1, .ref qm2, .ref qm3, .ref qm4, .int (nI mm), .int (nI (tt + 1))])), kI G qm2 200 (nF (va_up tm tt m)), kI G qm3 200 (nF (va_up td tt day)), kZ G qm4 200 (bF (va_up tk tt kp))]) 3 i_X3 tyX3 tyX3_ok nmX3 0 rfl rfl 6 (by decide) (by decide +kernel) (by decide) (rfl) (rfl) (Nat.le_of_ble_eq_true rfl) dX3_addTelling_37 rfl ?_
  exact j_vret (pc := 40) X dX3_addTelling_40 ⟨rfl, rfl⟩

set_option maxHeartbeats 4000000 in
set_option maxRecDepth 100000 in
theorem mX3_knownOn_L5 (l : Launch) (G : jG) (qm : Nat) (qm0 : Nat) (qm1 : Nat) (qm2 : Nat) (qm3 : Nat) (qm4 : Nat) (mm : Nat) (tt : Nat) (tm : Nat → Nat) (td : Nat → Nat) (tk : Nat → Bool) (m : Nat) (day : Nat) (htt : tt ≤ 200) (htm : ∀ k, tm k < 100) (htd : ∀ k, td k < 10000) (hm : m < 100) (hd : day < 10000) (κ : jK) (X : CX κ l yX3_knownOn cX3_knownOn 6 RX3 wsX3_knownOn (some .int) ({ frames := 0, cells := 0, slots := 0, locals := 0 }) G (va_A [(qm, .inr (3, [.ref qm0, .ref qm1, .ref qm2, .ref qm3, .ref qm4, .int (nI mm), .int (nI tt)])), kI G qm2 200 (nF tm), kI G qm3 200 (nF td), kZ G qm4 200 (bF tk)] (js κ).heap.size))    : ∀ (fu : Nat) (t : Nat) (ct : Option Nat) (ht : t ≤ tt) (hct : ct = knw tm td m day t) (hob : ob 200 ct) (_ : tt - t < fu), JJ κ 6 G (va_A [(qm, .inr (3, [.ref qm0, .ref qm1, .ref qm2, .ref qm3, .ref qm4, .int (nI mm), .int (nI tt)])), kI G qm2 200 (nF tm), kI G qm3 200 (nF td), kZ G qm4 200 (bF tk)] (js κ).heap.size) 0 0 (jQ κ G [(qm, .inr (3, [.ref qm0, .ref qm1, .ref qm2, .ref qm3, .ref qm4, .int (nI mm), .int (nI tt)])), kI G qm2 200 (nF tm), kI G qm3 200 (nF td), kZ G qm4 200 (bF tk)] (fun r w' => r = some (.int (nI (knwS tk (knw tm td m day tt)))) ∧ w' = [(qm, .inr (3, [.ref qm0, .ref qm1, .ref qm2, .ref qm3, .ref qm4, .int (nI mm), .int (nI tt)])), kI G qm2 200 (nF tm), kI G qm3 200 (nF td), kZ G qm4 200 (bF tk)]) 0 0) 5 [(0, .ref qm), (1, .int (nI m)), (2, .int (nI day)), (3, .int (oI ct)), (4, .int (nI t))] [] [(qm, .inr (3, [.ref qm0, .ref qm1, .ref qm2, .ref qm3, .ref qm4, .int (nI mm), .int (nI tt)])), kI G qm2 200 (nF tm), kI G qm3 200 (nF td), kZ G qm4 200 (bF tk)] := by
  have i_X3 : ∀ w ∈ wsX30, w ∈ wsX3_knownOn := by decide +kernel
  intro fu
  induction fu with
  | zero => intro t ct ht hct hob hms; exact absurd hms (Nat.not_lt_zero _)
  | succ fu ih =>
    intro t ct ht hct hob hms
    refine j_iload (pc := 5) X dX3_knownOn_5 4 rfl ?_
    refine j_aload_n (pc := 7) X dX3_knownOn_7 rfl 0 rfl ?_
    refine j_get (pc := 8) X 3 i_X3 0 rfl rfl 6 (by decide) (by decide +kernel) rfl dX3_knownOn_8 ?_
    refine j_icmpN_ge (pc := 11) X (a := t) (b := tt) (by first | omega | exact Nat.lt_of_lt_of_le (htm _) (by decide) | exact Nat.lt_of_lt_of_le (htd _) (by decide)) (by first | omega | exact Nat.lt_of_lt_of_le (htm _) (by decide) | exact Nat.lt_of_lt_of_le (htd _) (by decide)) (tgt := 78) dX3_knownOn_11 (by decide) (fun c_11 => ?_) (fun c_11 => ?_)
    · skip
      refine j_iload_n (pc := 78) X dX3_knownOn_78 rfl 3 rfl ?_
      refine j_iconst (pc := 79) X (v := oI none) dX3_knownOn_79 (by decide) ?_
      refine j_icmpZ_ne (pc := 80) X (a := ct) (by exact hob.big (by decide)) (tgt := 85) dX3_knownOn_80 (by decide) (fun c_80 => ?_) (fun c_80 => ?_)
      · skip
        obtain ⟨w, rfl⟩ := Option.ne_none_iff_exists'.mp c_80; have hw := hob w rfl
        refine j_aload_n (pc := 85) X dX3_knownOn_85 rfl 0 rfl ?_
        refine j_get (pc := 86) X 3 i_X3 0 rfl rfl 4 (by decide) (by decide +kernel) rfl dX3_knownOn_86 ?_
        refine j_iload_n (pc := 89) X dX3_knownOn_89 rfl 3 rfl ?_
        refine j_zald (pc := 90) X 3 rfl (vp_in_nI (by omega) (by decide)) (v := b2i (tk w)) (congrArg (bF tk) (nI_clamp (by omega))) dX3_knownOn_90 ?_
        refine j_ifb_eq (pc := 91) X (B := tk w) (tgt := 98) dX3_knownOn_91 (by decide) (fun c_91 => ?_) (fun c_91 => ?_)
        · skip
          refine j_iconst (pc := 98) X (v := nI 1) dX3_knownOn_98 (by decide) ?_
          exact j_iret (pc := 99) X dX3_knownOn_99 ⟨by rw [show tt = t by omega, ← hct]; simp [knwS, c_11, c_80, c_91], rfl⟩
        · skip
          refine j_iconst (pc := 94) X (v := nI 0) dX3_knownOn_94 (by decide) ?_
          refine j_goto (pc := 95) X (tgt := 99) dX3_knownOn_95 (by decide) ?_
          exact j_iret (pc := 99) X dX3_knownOn_99 ⟨by rw [show tt = t by omega, ← hct]; simp [knwS, c_11, c_80, c_91], rfl⟩
      · skip
        refine j_iconst (pc := 83) X (v := nI 2) dX3_knownOn_83 (by decide) ?_
        exact j_iret (pc := 84) X dX3_knownOn_84 ⟨by rw [show tt = t by omega, ← hct, c_80]; rfl, rfl⟩
    · skip
      refine j_aload_n (pc := 14) X dX3_knownOn_14 rfl 0 rfl ?_
      refine j_get (pc := 15) X 3 i_X3 0 rfl rfl 2 (by decide) (by decide +kernel) rfl dX3_knownOn_15 ?_
      refine j_iload (pc := 18) X dX3_knownOn_18 4 rfl ?_
      refine j_iald (pc := 20) X 1 rfl (vp_in_nI (by omega) (by decide)) (v := nI (tm t)) (congrArg (nF tm) (nI_clamp (by omega))) dX3_knownOn_20 ?_
      refine j_iload_n (pc := 21) X dX3_knownOn_21 rfl 1 rfl ?_
      refine j_icmpN_ne (pc := 22) X (a := (tm t)) (b := m) (by first | omega | exact Nat.lt_of_lt_of_le (htm _) (by decide) | exact Nat.lt_of_lt_of_le (htd _) (by decide)) (by first | omega | exact Nat.lt_of_lt_of_le (htm _) (by decide) | exact Nat.lt_of_lt_of_le (htd _) (by decide)) (tgt := 40) dX3_knownOn_22 (by decide) (fun c_22 => ?_) (fun c_22 => ?_)
      · skip
        refine j_iconst (pc := 40) X (v := nI 0) dX3_knownOn_40 (by decide) ?_
        refine j_istore (pc := 41) X (lv' := [(5, .int (nI 0)), (0, .ref qm), (1, .int (nI m)), (2, .int (nI day)), (3, .int (oI ct)), (4, .int (nI t))]) dX3_knownOn_41 (by decide) rfl ?_
        refine j_iload (pc := 43) X dX3_knownOn_43 0 rfl ?_
        refine j_ifN_eq (pc := 45) X (a := 0) (by first | omega | exact Nat.lt_of_lt_of_le (htm _) (by decide) | exact Nat.lt_of_lt_of_le (htd _) (by decide)) (tgt := 72) dX3_knownOn_45 (by decide) (fun c_45 => ?_) (fun c_45 => ?_)
        · skip
          refine j_iinc (pc := 72) X (v := nI (t + 1)) (lv' := [(4, .int (nI (t + 1))), (5, .int (nI 0)), (0, .ref qm), (1, .int (nI m)), (2, .int (nI day)), (3, .int (oI ct))]) dX3_knownOn_72 5 rfl (nI_1 _) (by decide) rfl ?_
          refine j_goto (pc := 75) X (tgt := 5) dX3_knownOn_75 (by decide) ?_
          refine j_lv [2, 3, 4, 5, 0] (lv' := [(0, .ref qm), (1, .int (nI m)), (2, .int (nI day)), (3, .int (oI ct)), (4, .int (nI (t + 1)))]) rfl ?_
          exact ih (t + 1) ct (by omega) (by simp [knw, knO, ← hct, c_11, c_22, c_45]; try omega) (by first | exact hob | exact ob_s (by omega) | exact ob_n) (by omega)
        · skip
          exact absurd c_45 (by decide)
      · skip
        refine j_aload_n (pc := 25) X dX3_knownOn_25 rfl 0 rfl ?_
        refine j_get (pc := 26) X 3 i_X3 0 rfl rfl 3 (by decide) (by decide +kernel) rfl dX3_knownOn_26 ?_
        refine j_iload (pc := 29) X dX3_knownOn_29 4 rfl ?_
        refine j_iald (pc := 31) X 2 rfl (vp_in_nI (by omega) (by decide)) (v := nI (td t)) (congrArg (nF td) (nI_clamp (by omega))) dX3_knownOn_31 ?_
        refine j_iload_n (pc := 32) X dX3_knownOn_32 rfl 2 rfl ?_
        refine j_icmpN_gt (pc := 33) X (a := (td t)) (b := day) (by first | omega | exact Nat.lt_of_lt_of_le (htm _) (by decide) | exact Nat.lt_of_lt_of_le (htd _) (by decide)) (by first | omega | exact Nat.lt_of_lt_of_le (htm _) (by decide) | exact Nat.lt_of_lt_of_le (htd _) (by decide)) (tgt := 40) dX3_knownOn_33 (by decide) (fun c_33 => ?_) (fun c_33 => ?_)
        · skip
          refine j_iconst (pc := 40) X (v := nI 0) dX3_knownOn_40 (by decide) ?_
          refine j_istore (pc := 41) X (lv' := [(5, .int (nI 0)), (0, .ref qm), (1, .int (nI m)), (2, .int (nI day)), (3, .int (oI ct)), (4, .int (nI t))]) dX3_knownOn_41 (by decide) rfl ?_
          refine j_iload (pc := 43) X dX3_knownOn_43 0 rfl ?_
          refine j_ifN_eq (pc := 45) X (a := 0) (by first | omega | exact Nat.lt_of_lt_of_le (htm _) (by decide) | exact Nat.lt_of_lt_of_le (htd _) (by decide)) (tgt := 72) dX3_knownOn_45 (by decide) (fun c_45 => ?_) (fun c_45 => ?_)
          · skip
            refine j_iinc (pc := 72) X (v := nI (t + 1)) (lv' := [(4, .int (nI (t + 1))), (5, .int (nI 0)), (0, .ref qm), (1, .int (nI m)), (2, .int (nI day)), (3, .int (oI ct))]) dX3_knownOn_72 5 rfl (nI_1 _) (by decide) rfl ?_
            refine j_goto (pc := 75) X (tgt := 5) dX3_knownOn_75 (by decide) ?_
            refine j_lv [2, 3, 4, 5, 0] (lv' := [(0, .ref qm), (1, .int (nI m)), (2, .int (nI day)), (3, .int (oI ct)), (4, .int (nI (t + 1)))]) rfl ?_
            exact ih (t + 1) ct (by omega) (by simp [knw, knO, ← hct, c_11, c_22, c_33, c_45]; try omega) (by first | exact hob | exact ob_s (by omega) | exact ob_n) (by omega)
          · skip
            exact absurd c_45 (by decide)
        · skip
          refine j_iconst (pc := 36) X (v := nI 1) dX3_knownOn_36 (by decide) ?_
          refine j_goto (pc := 37) X (tgt := 41) dX3_knownOn_37 (by decide) ?_
          refine j_istore (pc := 41) X (lv' := [(5, .int (nI 1)), (0, .ref qm), (1, .int (nI m)), (2, .int (nI day)), (3, .int (oI ct)), (4, .int (nI t))]) dX3_knownOn_41 (by decide) rfl ?_
          refine j_iload (pc := 43) X dX3_knownOn_43 0 rfl ?_
          refine j_ifN_eq (pc := 45) X (a := 1) (by first | omega | exact Nat.lt_of_lt_of_le (htm _) (by decide) | exact Nat.lt_of_lt_of_le (htd _) (by decide)) (tgt := 72) dX3_knownOn_45 (by decide) (fun c_45 => ?_) (fun c_45 => ?_)
          · skip
            exact absurd c_45 (by decide)
          · skip
            refine j_iload_n (pc := 48) X dX3_knownOn_48 rfl 4 rfl ?_
            refine j_iconst (pc := 49) X (v := oI none) dX3_knownOn_49 (by decide) ?_
            refine j_icmpZ_eq (pc := 50) X (a := ct) (by exact hob.big (by decide)) (tgt := 69) dX3_knownOn_50 (by decide) (fun c_50 => ?_) (fun c_50 => ?_)
            · skip
              refine j_iload (pc := 69) X dX3_knownOn_69 5 rfl ?_
              refine j_istore_n (pc := 71) X (lv' := [(3, .int (nI t)), (5, .int (nI 1)), (0, .ref qm), (1, .int (nI m)), (2, .int (nI day)), (4, .int (nI t))]) dX3_knownOn_71 rfl (by decide) rfl ?_
              refine j_iinc (pc := 72) X (v := nI (t + 1)) (lv' := [(4, .int (nI (t + 1))), (3, .int (nI t)), (5, .int (nI 1)), (0, .ref qm), (1, .int (nI m)), (2, .int (nI day))]) dX3_knownOn_72 5 rfl (nI_1 _) (by decide) rfl ?_
              refine j_goto (pc := 75) X (tgt := 5) dX3_knownOn_75 (by decide) ?_
              refine j_lv [3, 4, 5, 1, 0] (lv' := [(0, .ref qm), (1, .int (nI m)), (2, .int (nI day)), (3, .int (nI t)), (4, .int (nI (t + 1)))]) rfl ?_
              refine j_lvq (lv' := [(0, .ref qm), (1, .int (nI m)), (2, .int (nI day)), (3, .int (oI (some t))), (4, .int (nI (t + 1)))]) rfl ?_
              exact ih (t + 1) (some t) (by omega) (by simp [knw, knO, ← hct, c_11, c_22, c_33, c_45, c_50]; try omega) (by first | exact hob | exact ob_s (by omega) | exact ob_n) (by omega)
            · skip
              obtain ⟨w, rfl⟩ := Option.ne_none_iff_exists'.mp c_50; have hw := hob w rfl
              refine j_aload_n (pc := 53) X dX3_knownOn_53 rfl 1 rfl ?_
              refine j_get (pc := 54) X 3 i_X3 0 rfl rfl 3 (by decide) (by decide +kernel) rfl dX3_knownOn_54 ?_
              refine j_iload (pc := 57) X dX3_knownOn_57 5 rfl ?_
              refine j_iald (pc := 59) X 2 rfl (vp_in_nI (by omega) (by decide)) (v := nI (td t)) (congrArg (nF td) (nI_clamp (by omega))) dX3_knownOn_59 ?_
              refine j_aload_n (pc := 60) X dX3_knownOn_60 rfl 1 rfl ?_
              refine j_get (pc := 61) X 3 i_X3 0 rfl rfl 3 (by decide) (by decide +kernel) rfl dX3_knownOn_61 ?_
              refine j_iload_n (pc := 64) X dX3_knownOn_64 rfl 4 rfl ?_
              refine j_iald (pc := 65) X 2 rfl (vp_in_nI (by omega) (by decide)) (v := nI (td w)) (congrArg (nF td) (nI_clamp (by omega))) dX3_knownOn_65 ?_
              refine j_icmpN_lt (pc := 66) X (a := (td t)) (b := (td w)) (by first | omega | exact Nat.lt_of_lt_of_le (htm _) (by decide) | exact Nat.lt_of_lt_of_le (htd _) (by decide)) (by first | omega | exact Nat.lt_of_lt_of_le (htm _) (by decide) | exact Nat.lt_of_lt_of_le (htd _) (by decide)) (tgt := 72) dX3_knownOn_66 (by decide) (fun c_66 => ?_) (fun c_66 => ?_)
              · skip
                refine j_iinc (pc := 72) X (v := nI (t + 1)) (lv' := [(4, .int (nI (t + 1))), (5, .int (nI 1)), (0, .ref qm), (1, .int (nI m)), (2, .int (nI day)), (3, .int (nI w))]) dX3_knownOn_72 5 rfl (nI_1 _) (by decide) rfl ?_
                refine j_goto (pc := 75) X (tgt := 5) dX3_knownOn_75 (by decide) ?_
                refine j_lv [2, 3, 4, 5, 0] (lv' := [(0, .ref qm), (1, .int (nI m)), (2, .int (nI day)), (3, .int (nI w)), (4, .int (nI (t + 1)))]) rfl ?_
                refine j_lvq (lv' := [(0, .ref qm), (1, .int (nI m)), (2, .int (nI day)), (3, .int (oI (some w))), (4, .int (nI (t + 1)))]) rfl ?_
                exact ih (t + 1) (some w) (by omega) (by simp [knw, knO, ← hct, c_11, c_22, c_33, c_45, c_50, c_66]; try omega) (by first | exact hob | exact ob_s (by omega) | exact ob_n) (by omega)
              · skip
                refine j_iload (pc := 69) X dX3_knownOn_69 5 rfl ?_
                refine j_istore_n (pc := 71) X (lv' := [(3, .int (nI t)), (5, .int (nI 1)), (0, .ref qm), (1, .int (nI m)), (2, .int (nI day)), (4, .int (nI t))]) dX3_knownOn_71 rfl (by decide) rfl ?_
                refine j_iinc (pc := 72) X (v := nI (t + 1)) (lv' := [(4, .int (nI (t + 1))), (3, .int (nI t)), (5, .int (nI 1)), (0, .ref qm), (1, .int (nI m)), (2, .int (nI day))]) dX3_knownOn_72 5 rfl (nI_1 _) (by decide) rfl ?_
                refine j_goto (pc := 75) X (tgt := 5) dX3_knownOn_75 (by decide) ?_
                refine j_lv [3, 4, 5, 1, 0] (lv' := [(0, .ref qm), (1, .int (nI m)), (2, .int (nI day)), (3, .int (nI t)), (4, .int (nI (t + 1)))]) rfl ?_
                refine j_lvq (lv' := [(0, .ref qm), (1, .int (nI m)), (2, .int (nI day)), (3, .int (oI (some t))), (4, .int (nI (t + 1)))]) rfl ?_
                exact ih (t + 1) (some t) (by omega) (by simp [knw, knO, ← hct, c_11, c_22, c_33, c_45, c_50, c_66]; try omega) (by first | exact hob | exact ob_s (by omega) | exact ob_n) (by omega)
set_option maxHeartbeats 4000000 in
set_option maxRecDepth 100000 in
theorem mX3_knownOn (l : Launch) (G : jG) (qm : Nat) (qm0 : Nat) (qm1 : Nat) (qm2 : Nat) (qm3 : Nat) (qm4 : Nat) (mm : Nat) (tt : Nat) (tm : Nat → Nat) (td : Nat → Nat) (tk : Nat → Bool) (m : Nat) (day : Nat) (htt : tt ≤ 200) (htm : ∀ k, tm k < 100) (htd : ∀ k, td k < 10000) (hm : m < 100) (hd : day < 10000) : MV l yX3_knownOn wsX3_knownOn ({ frames := 0, cells := 0, slots := 0, locals := 0 }) G [.ref qm, .int (nI m), .int (nI day)] [(qm, .inr (3, [.ref qm0, .ref qm1, .ref qm2, .ref qm3, .ref qm4, .int (nI mm), .int (nI tt)])), kI G qm2 200 (nF tm), kI G qm3 200 (nF td), kZ G qm4 200 (bF tk)] (some (.int (nI (knwS tk (knw tm td m day tt))))) [(qm, .inr (3, [.ref qm0, .ref qm1, .ref qm2, .ref qm3, .ref qm4, .int (nI mm), .int (nI tt)])), kI G qm2 200 (nF tm), kI G qm3 200 (nF td), kZ G qm4 200 (bF tk)] := by
  refine MF.ofJ (cc := cX3_knownOn) (maxL := 6) (ret := (some .int)) (own := RX3) (lv := [(0, .ref qm), (1, .int (nI m)), (2, .int (nI day))]) (by decide) rfl rfl (Nat.le_of_ble_eq_true rfl) rfl ?_
  intro κ X
  have i_X3 : ∀ w ∈ wsX30, w ∈ wsX3_knownOn := by decide +kernel
  refine j_iconst (pc := 0) X (v := oI none) dX3_knownOn_0 (by decide) ?_
  refine j_istore_n (pc := 1) X (lv' := [(3, .int (oI none)), (0, .ref qm), (1, .int (nI m)), (2, .int (nI day))]) dX3_knownOn_1 rfl (by decide) rfl ?_
  refine j_iconst (pc := 2) X (v := nI 0) dX3_knownOn_2 (by decide) ?_
  refine j_istore (pc := 3) X (lv' := [(4, .int (nI 0)), (3, .int (oI none)), (0, .ref qm), (1, .int (nI m)), (2, .int (nI day))]) dX3_knownOn_3 (by decide) rfl ?_
  refine j_lv [2, 3, 4, 1, 0] (lv' := [(0, .ref qm), (1, .int (nI m)), (2, .int (nI day)), (3, .int (oI none)), (4, .int (nI 0))]) rfl ?_
  exact mX3_knownOn_L5 l G qm qm0 qm1 qm2 qm3 qm4 mm tt tm td tk m day htt htm htd hm hd κ X    (tt - 0 + 1) 0 none (by omega) (by rfl) (ob_n) (Nat.lt_succ_self _)

set_option maxHeartbeats 4000000 in
set_option maxRecDepth 100000 in
theorem mX3_count_L6 (l : Launch) (G : jG) (qm : Nat) (qm0 : Nat) (qm1 : Nat) (qm2 : Nat) (qm3 : Nat) (qm4 : Nat) (mm : Nat) (tt : Nat) (mb : Nat → Nat) (md : Nat → Nat) (tm : Nat → Nat) (td : Nat → Nat) (tk : Nat → Bool) (b : Nat) (day : Nat) (w : Nat) (hmm : mm ≤ 100) (htt : tt ≤ 200) (htm : ∀ k, tm k < 100) (htd : ∀ k, td k < 10000) (hb : b < 16) (hd : day < 10000) (hw : w ≤ 2) (hmb : ∀ k, mb k < 16) (hmd : ∀ k, md k < 10000) (κ : jK) (X : CX κ l yX3_count cX3_count 6 RX3 wsX3_count (some .int) ({ frames := 1, cells := 0, slots := 0, locals := 25 }) G (va_A [(qm, .inr (3, [.ref qm0, .ref qm1, .ref qm2, .ref qm3, .ref qm4, .int (nI mm), .int (nI tt)])), kI G qm0 100 (nF mb), kI G qm1 100 (nF md), kI G qm2 200 (nF tm), kI G qm3 200 (nF td), kZ G qm4 200 (bF tk)] (js κ).heap.size))    : ∀ (fu : Nat) (m : Nat) (hm : m ≤ mm) (_ : mm - m < fu), JJ κ 6 G (va_A [(qm, .inr (3, [.ref qm0, .ref qm1, .ref qm2, .ref qm3, .ref qm4, .int (nI mm), .int (nI tt)])), kI G qm0 100 (nF mb), kI G qm1 100 (nF md), kI G qm2 200 (nF tm), kI G qm3 200 (nF td), kZ G qm4 200 (bF tk)] (js κ).heap.size) 0 0 (jQ κ G [(qm, .inr (3, [.ref qm0, .ref qm1, .ref qm2, .ref qm3, .ref qm4, .int (nI mm), .int (nI tt)])), kI G qm0 100 (nF mb), kI G qm1 100 (nF md), kI G qm2 200 (nF tm), kI G qm3 200 (nF td), kZ G qm4 200 (bF tk)] (fun r w' => r = some (.int (nI (metC mb md tm td tk tt b day w mm))) ∧ w' = [(qm, .inr (3, [.ref qm0, .ref qm1, .ref qm2, .ref qm3, .ref qm4, .int (nI mm), .int (nI tt)])), kI G qm0 100 (nF mb), kI G qm1 100 (nF md), kI G qm2 200 (nF tm), kI G qm3 200 (nF td), kZ G qm4 200 (bF tk)]) 0 0) 6 [(0, .ref qm), (1, .int (nI b)), (2, .int (nI day)), (3, .int (nI w)), (4, .int (nI (metC mb md tm td tk tt b day w m))), (5, .int (nI m))] [] [(qm, .inr (3, [.ref qm0, .ref qm1, .ref qm2, .ref qm3, .ref qm4, .int (nI mm), .int (nI tt)])), kI G qm0 100 (nF mb), kI G qm1 100 (nF md), kI G qm2 200 (nF tm), kI G qm3 200 (nF td), kZ G qm4 200 (bF tk)] := by
  have i_X3 : ∀ w ∈ wsX30, w ∈ wsX3_count := by decide +kernel
  intro fu
  induction fu with
  | zero => intro m hm hms; exact absurd hms (Nat.not_lt_zero _)
  | succ fu ih =>
    intro m hm hms
    refine j_iload (pc := 6) X dX3_count_6 5 rfl ?_
    refine j_aload_n (pc := 8) X dX3_count_8 rfl 0 rfl ?_
    refine j_get (pc := 9) X 3 i_X3 0 rfl rfl 5 (by decide) (by decide +kernel) rfl dX3_count_9 ?_
    refine j_icmpN_ge (pc := 12) X (a := m) (b := mm) (by first | omega | exact Nat.lt_of_lt_of_le (hmb _) (by decide) | exact Nat.lt_of_lt_of_le (hmd _) (by decide) | (simp only [knwS]; split <;> (try split) <;> decide)) (by first | omega | exact Nat.lt_of_lt_of_le (hmb _) (by decide) | exact Nat.lt_of_lt_of_le (hmd _) (by decide) | (simp only [knwS]; split <;> (try split) <;> decide)) (tgt := 57) dX3_count_12 (by decide) (fun c_12 => ?_) (fun c_12 => ?_)
    · skip
      refine j_iload (pc := 57) X dX3_count_57 4 rfl ?_
      exact j_iret (pc := 59) X dX3_count_59 ⟨by rw [show m = mm by omega], rfl⟩
    · skip
      refine j_aload_n (pc := 15) X dX3_count_15 rfl 0 rfl ?_
      refine j_get (pc := 16) X 3 i_X3 0 rfl rfl 0 (by decide) (by decide +kernel) rfl dX3_count_16 ?_
      refine j_iload (pc := 19) X dX3_count_19 5 rfl ?_
      refine j_iald (pc := 21) X 1 rfl (vp_in_nI (by omega) (by decide)) (v := nI (mb m)) (congrArg (nF mb) (nI_clamp (by omega))) dX3_count_21 ?_
      refine j_iload_n (pc := 22) X dX3_count_22 rfl 1 rfl ?_
      refine j_icmpN_ne (pc := 23) X (a := (mb m)) (b := b) (by first | omega | exact Nat.lt_of_lt_of_le (hmb _) (by decide) | exact Nat.lt_of_lt_of_le (hmd _) (by decide) | (simp only [knwS]; split <;> (try split) <;> decide)) (by first | omega | exact Nat.lt_of_lt_of_le (hmb _) (by decide) | exact Nat.lt_of_lt_of_le (hmd _) (by decide) | (simp only [knwS]; split <;> (try split) <;> decide)) (tgt := 51) dX3_count_23 (by decide) (fun c_23 => ?_) (fun c_23 => ?_)
      · skip
        refine j_iinc (pc := 51) X (v := nI (m + 1)) (lv' := [(5, .int (nI (m + 1))), (0, .ref qm), (1, .int (nI b)), (2, .int (nI day)), (3, .int (nI w)), (4, .int (nI (metC mb md tm td tk tt b day w m)))]) dX3_count_51 5 rfl (nI_1 _) (by decide) rfl ?_
        refine j_goto (pc := 54) X (tgt := 6) dX3_count_54 (by decide) ?_
        refine j_lv [1, 2, 3, 4, 5, 0] (lv' := [(0, .ref qm), (1, .int (nI b)), (2, .int (nI day)), (3, .int (nI w)), (4, .int (nI (metC mb md tm td tk tt b day w m))), (5, .int (nI (m + 1)))]) rfl ?_
        refine j_lvq (lv' := [(0, .ref qm), (1, .int (nI b)), (2, .int (nI day)), (3, .int (nI w)), (4, .int (nI (metC mb md tm td tk tt b day w (m + 1)))), (5, .int (nI (m + 1)))]) ?_ ?_
        · rw [show (metC mb md tm td tk tt b day w m) = metC mb md tm td tk tt b day w (m + 1) from by (simp only [metC]; split <;> omega)]
        exact ih (m + 1) (by omega) (by omega)
      · skip
        refine j_aload_n (pc := 26) X dX3_count_26 rfl 0 rfl ?_
        refine j_get (pc := 27) X 3 i_X3 0 rfl rfl 1 (by decide) (by decide +kernel) rfl dX3_count_27 ?_
        refine j_iload (pc := 30) X dX3_count_30 5 rfl ?_
        refine j_iald (pc := 32) X 2 rfl (vp_in_nI (by omega) (by decide)) (v := nI (md m)) (congrArg (nF md) (nI_clamp (by omega))) dX3_count_32 ?_
        refine j_iload_n (pc := 33) X dX3_count_33 rfl 2 rfl ?_
        refine j_icmpN_gt (pc := 34) X (a := (md m)) (b := day) (by first | omega | exact Nat.lt_of_lt_of_le (hmb _) (by decide) | exact Nat.lt_of_lt_of_le (hmd _) (by decide) | (simp only [knwS]; split <;> (try split) <;> decide)) (by first | omega | exact Nat.lt_of_lt_of_le (hmb _) (by decide) | exact Nat.lt_of_lt_of_le (hmd _) (by decide) | (simp only [knwS]; split <;> (try split) <;> decide)) (tgt := 51) dX3_count_34 (by decide) (fun c_34 => ?_) (fun c_34 => ?_)
        · skip
          refine j_iinc (pc := 51) X (v := nI (m + 1)) (lv' := [(5, .int (nI (m + 1))), (0, .ref qm), (1, .int (nI b)), (2, .int (nI day)), (3, .int (nI w)), (4, .int (nI (metC mb md tm td tk tt b day w m)))]) dX3_count_51 5 rfl (nI_1 _) (by decide) rfl ?_
          refine j_goto (pc := 54) X (tgt := 6) dX3_count_54 (by decide) ?_
          refine j_lv [1, 2, 3, 4, 5, 0] (lv' := [(0, .ref qm), (1, .int (nI b)), (2, .int (nI day)), (3, .int (nI w)), (4, .int (nI (metC mb md tm td tk tt b day w m))), (5, .int (nI (m + 1)))]) rfl ?_
          refine j_lvq (lv' := [(0, .ref qm), (1, .int (nI b)), (2, .int (nI day)), (3, .int (nI w)), (4, .int (nI (metC mb md tm td tk tt b day w (m + 1)))), (5, .int (nI (m + 1)))]) ?_ ?_
          · rw [show (metC mb md tm td tk tt b day w m) = metC mb md tm td tk tt b day w (m + 1) from by (simp only [metC]; split <;> omega)]
          exact ih (m + 1) (by omega) (by omega)
        · skip
          refine j_aload_n (pc := 37) X dX3_count_37 rfl 0 rfl ?_
          refine j_iload (pc := 38) X dX3_count_38 5 rfl ?_
          refine j_iload_n (pc := 40) X dX3_count_40 rfl 2 rfl ?_
          refine j_ciP (pc := 41) X [0, 3, 4, 5] rfl (j_rV X (b := qm) (As := [.int (nI m), .int (nI day)]) (ci := 3) (rest := []) 2 (mX3_knownOn l G qm qm0 qm1 qm2 qm3 qm4 mm tt tm td tk m day (by first | assumption | omega | exact ob_s (by omega) | exact ob_n) (by first | assumption | omega | exact ob_s (by omega) | exact ob_n) (by first | assumption | omega | exact ob_s (by omega) | exact ob_n) (by first | assumption | omega | exact ob_s (by omega) | exact ob_n) (by first | assumption | omega | exact ob_s (by omega) | exact ob_n)) gX3_count_X3_knownOn rfl rfl rfl (by decide +kernel) ⟨Nat.le_of_ble_eq_true rfl, Nat.le_of_ble_eq_true rfl⟩ rfl rfl 0 rfl [0, 3, 4, 5] rfl rfl rfl (Nat.le_of_ble_eq_true rfl) dX3_count_41 ⟨Nat.le_of_ble_eq_true rfl, Nat.le_of_ble_eq_true rfl⟩) ?_
          refine j_iload_n (pc := 44) X dX3_count_44 rfl 3 rfl ?_
          refine j_icmpN_ne (pc := 45) X (a := (knwS tk (knw tm td m day tt))) (b := w) (by first | omega | exact Nat.lt_of_lt_of_le (hmb _) (by decide) | exact Nat.lt_of_lt_of_le (hmd _) (by decide) | (simp only [knwS]; split <;> (try split) <;> decide)) (by first | omega | exact Nat.lt_of_lt_of_le (hmb _) (by decide) | exact Nat.lt_of_lt_of_le (hmd _) (by decide) | (simp only [knwS]; split <;> (try split) <;> decide)) (tgt := 51) dX3_count_45 (by decide) (fun c_45 => ?_) (fun c_45 => ?_)
          · skip
            refine j_iinc (pc := 51) X (v := nI (m + 1)) (lv' := [(5, .int (nI (m + 1))), (0, .ref qm), (1, .int (nI b)), (2, .int (nI day)), (3, .int (nI w)), (4, .int (nI (metC mb md tm td tk tt b day w m)))]) dX3_count_51 5 rfl (nI_1 _) (by decide) rfl ?_
            refine j_goto (pc := 54) X (tgt := 6) dX3_count_54 (by decide) ?_
            refine j_lv [1, 2, 3, 4, 5, 0] (lv' := [(0, .ref qm), (1, .int (nI b)), (2, .int (nI day)), (3, .int (nI w)), (4, .int (nI (metC mb md tm td tk tt b day w m))), (5, .int (nI (m + 1)))]) rfl ?_
            refine j_lvq (lv' := [(0, .ref qm), (1, .int (nI b)), (2, .int (nI day)), (3, .int (nI w)), (4, .int (nI (metC mb md tm td tk tt b day w (m + 1)))), (5, .int (nI (m + 1)))]) ?_ ?_
            · rw [show (metC mb md tm td tk tt b day w m) = metC mb md tm td tk tt b day w (m + 1) from by (simp only [metC]; split <;> omega)]
            exact ih (m + 1) (by omega) (by omega)
          · skip
            refine j_iinc (pc := 48) X (v := nI (metC mb md tm td tk tt b day w m + 1)) (lv' := [(4, .int (nI (metC mb md tm td tk tt b day w m + 1))), (0, .ref qm), (1, .int (nI b)), (2, .int (nI day)), (3, .int (nI w)), (5, .int (nI m))]) dX3_count_48 4 rfl (nI_1 _) (by decide) rfl ?_
            refine j_iinc (pc := 51) X (v := nI (m + 1)) (lv' := [(5, .int (nI (m + 1))), (4, .int (nI (metC mb md tm td tk tt b day w m + 1))), (0, .ref qm), (1, .int (nI b)), (2, .int (nI day)), (3, .int (nI w))]) dX3_count_51 5 rfl (nI_1 _) (by decide) rfl ?_
            refine j_goto (pc := 54) X (tgt := 6) dX3_count_54 (by decide) ?_
            refine j_lv [2, 3, 4, 5, 1, 0] (lv' := [(0, .ref qm), (1, .int (nI b)), (2, .int (nI day)), (3, .int (nI w)), (4, .int (nI (metC mb md tm td tk tt b day w m + 1))), (5, .int (nI (m + 1)))]) rfl ?_
            refine j_lvq (lv' := [(0, .ref qm), (1, .int (nI b)), (2, .int (nI day)), (3, .int (nI w)), (4, .int (nI (metC mb md tm td tk tt b day w (m + 1)))), (5, .int (nI (m + 1)))]) ?_ ?_
            · rw [show (metC mb md tm td tk tt b day w m + 1) = metC mb md tm td tk tt b day w (m + 1) from by (simp only [metC]; split <;> omega)]
            exact ih (m + 1) (by omega) (by omega)
set_option maxHeartbeats 4000000 in
set_option maxRecDepth 100000 in
theorem mX3_count (l : Launch) (G : jG) (qm : Nat) (qm0 : Nat) (qm1 : Nat) (qm2 : Nat) (qm3 : Nat) (qm4 : Nat) (mm : Nat) (tt : Nat) (mb : Nat → Nat) (md : Nat → Nat) (tm : Nat → Nat) (td : Nat → Nat) (tk : Nat → Bool) (b : Nat) (day : Nat) (w : Nat) (hmm : mm ≤ 100) (htt : tt ≤ 200) (htm : ∀ k, tm k < 100) (htd : ∀ k, td k < 10000) (hb : b < 16) (hd : day < 10000) (hw : w ≤ 2) (hmb : ∀ k, mb k < 16) (hmd : ∀ k, md k < 10000) : MV l yX3_count wsX3_count ({ frames := 1, cells := 0, slots := 0, locals := 25 }) G [.ref qm, .int (nI b), .int (nI day), .int (nI w)] [(qm, .inr (3, [.ref qm0, .ref qm1, .ref qm2, .ref qm3, .ref qm4, .int (nI mm), .int (nI tt)])), kI G qm0 100 (nF mb), kI G qm1 100 (nF md), kI G qm2 200 (nF tm), kI G qm3 200 (nF td), kZ G qm4 200 (bF tk)] (some (.int (nI (metC mb md tm td tk tt b day w mm)))) [(qm, .inr (3, [.ref qm0, .ref qm1, .ref qm2, .ref qm3, .ref qm4, .int (nI mm), .int (nI tt)])), kI G qm0 100 (nF mb), kI G qm1 100 (nF md), kI G qm2 200 (nF tm), kI G qm3 200 (nF td), kZ G qm4 200 (bF tk)] := by
  refine MF.ofJ (cc := cX3_count) (maxL := 6) (ret := (some .int)) (own := RX3) (lv := [(0, .ref qm), (1, .int (nI b)), (2, .int (nI day)), (3, .int (nI w))]) (by decide) rfl rfl (Nat.le_of_ble_eq_true rfl) rfl ?_
  intro κ X
  have i_X3 : ∀ w ∈ wsX30, w ∈ wsX3_count := by decide +kernel
  refine j_iconst (pc := 0) X (v := nI 0) dX3_count_0 (by decide) ?_
  refine j_istore (pc := 1) X (lv' := [(4, .int (nI 0)), (0, .ref qm), (1, .int (nI b)), (2, .int (nI day)), (3, .int (nI w))]) dX3_count_1 (by decide) rfl ?_
  refine j_iconst (pc := 3) X (v := nI 0) dX3_count_3 (by decide) ?_
  refine j_istore (pc := 4) X (lv' := [(5, .int (nI 0)), (4, .int (nI 0)), (0, .ref qm), (1, .int (nI b)), (2, .int (nI day)), (3, .int (nI w))]) dX3_count_4 (by decide) rfl ?_
  refine j_lv [2, 3, 4, 5, 1, 0] (lv' := [(0, .ref qm), (1, .int (nI b)), (2, .int (nI day)), (3, .int (nI w)), (4, .int (nI 0)), (5, .int (nI 0))]) rfl ?_
  refine j_lvq (lv' := [(0, .ref qm), (1, .int (nI b)), (2, .int (nI day)), (3, .int (nI w)), (4, .int (nI (metC mb md tm td tk tt b day w 0))), (5, .int (nI 0))]) ?_ ?_
  · first | rfl | (rw [show (0) = metC mb md tm td tk tt b day w 0 from by (simp only [metC]; split <;> omega)])
  exact mX3_count_L6 l G qm qm0 qm1 qm2 qm3 qm4 mm tt mb md tm td tk b day w hmm htt htm htd hb hd hw hmb hmd κ X    (mm - 0 + 1) 0 (by omega) (Nat.lt_succ_self _)
end
section
set_option maxHeartbeats 4000000 in
set_option maxRecDepth 100000 in
theorem mX7_make (l : Launch) (G : jG) (qt : Nat) (qn : Nat) (ms : Bool) (so : Nat) (ln : Nat) (u : Nat → Int64) (s2 : Nat) (m2 : Nat)  : MV l yX7_make wsX7_make ({ frames := 1, cells := 0, slots := 0, locals := 24 }) G [.ref qt, .int (nI s2), .int (nI m2)] [(qt, .inr (7, [.ref qn, .int (b2i ms), .int (nI so), .int (nI ln)])), kJ G qn 40 u] (none) [(qt, .inr (7, [.ref qn, .int (b2i false), .int (nI s2), .int (nI m2)])), kJ G qn 40 (fil 0 u 40)] := by
  refine MF.ofJ (cc := cX7_make) (maxL := 3) (ret := none) (own := RX7) (lv := [(0, .ref qt), (1, .int (nI s2)), (2, .int (nI m2))]) (by decide) rfl rfl (Nat.le_of_ble_eq_true rfl) rfl ?_
  intro κ X
  have i_X7 : ∀ w ∈ wsX70, w ∈ wsX7_make := by decide +kernel
  refine j_aload_n (pc := 0) X dX7_make_0 rfl 0 rfl ?_
  refine j_iconst (pc := 1) X (v := nI 0) dX7_make_1 (by decide) ?_
  refine j_put (pc := 2) X (v := .int (nI 0)) (ws' := [(qt, .inr (7, [.ref qn, .int (b2i false), .int (nI so), .int (nI ln)])), kJ G qn 40 u]) 7 i_X7 tyX7 tyX7_ok nmX7 0 rfl rfl 1 (by decide) (by decide +kernel) (by decide) (rfl) (rfl) (Nat.le_of_ble_eq_true rfl) dX7_make_2 rfl ?_
  refine j_aload_n (pc := 5) X dX7_make_5 rfl 0 rfl ?_
  refine j_iload_n (pc := 6) X dX7_make_6 rfl 1 rfl ?_
  refine j_put (pc := 7) X (v := .int (nI s2)) (ws' := [(qt, .inr (7, [.ref qn, .int (b2i false), .int (nI s2), .int (nI ln)])), kJ G qn 40 u]) 7 i_X7 tyX7 tyX7_ok nmX7 0 rfl rfl 2 (by decide) (by decide +kernel) (by decide) (rfl) (rfl) (Nat.le_of_ble_eq_true rfl) dX7_make_7 rfl ?_
  refine j_aload_n (pc := 10) X dX7_make_10 rfl 0 rfl ?_
  refine j_iload_n (pc := 11) X dX7_make_11 rfl 2 rfl ?_
  refine j_put (pc := 12) X (v := .int (nI m2)) (ws' := [(qt, .inr (7, [.ref qn, .int (b2i false), .int (nI s2), .int (nI m2)])), kJ G qn 40 u]) 7 i_X7 tyX7 tyX7_ok nmX7 0 rfl rfl 3 (by decide) (by decide +kernel) (by decide) (rfl) (rfl) (Nat.le_of_ble_eq_true rfl) dX7_make_12 rfl ?_
  refine j_aload_n (pc := 15) X dX7_make_15 rfl 0 rfl ?_
  refine j_get (pc := 16) X 7 i_X7 0 rfl rfl 0 (by decide) (by decide +kernel) rfl dX7_make_16 ?_
  refine j_lconst (pc := 19) X (v := 0) dX7_make_19 (by decide) ?_
  refine j_cv (pc := 20) X (ws' := [(qt, .inr (7, [.ref qn, .int (b2i false), .int (nI s2), .int (nI m2)])), kJ G qn 40 (fil 0 u 40)]) [1] rfl (j_rS X (As := [.ref qn, .long 0]) (rest := []) 2 (mJ7_fill_d0a16 l G qn 40 u 0 (by first | assumption | omega | exact ob_s (by omega) | exact ob_n)) gX7_make_J7_fill_d0a16 rfl rfl rfl (by decide +kernel) ⟨Nat.le_of_ble_eq_true rfl, Nat.le_of_ble_eq_true rfl⟩ rfl [1] rfl rfl rfl (Nat.le_of_ble_eq_true rfl) dX7_make_20 ⟨Nat.le_of_ble_eq_true rfl, Nat.le_of_ble_eq_true rfl⟩) rfl rfl ?_
  exact j_vret (pc := 23) X dX7_make_23 ⟨rfl, rfl⟩

set_option maxHeartbeats 4000000 in
set_option maxRecDepth 100000 in
theorem mX7_hasPlaces (l : Launch) (G : jG) (qt : Nat) (qn : Nat) (ms : Bool) (so : Nat) (ln : Nat) (x : Int32) (z : Int32)  : MV l yX7_hasPlaces wsX7_hasPlaces ({ frames := 0, cells := 0, slots := 0, locals := 0 }) G [.ref qt, .int x, .int z] [(qt, .inr (7, [.ref qn, .int (b2i ms), .int (nI so), .int (nI ln)]))] (some (.int (b2i (hasP x z ln)))) [(qt, .inr (7, [.ref qn, .int (b2i ms), .int (nI so), .int (nI ln)]))] := by
  refine MF.ofJ (cc := cX7_hasPlaces) (maxL := 3) (ret := (some .boolean)) (own := RX7) (lv := [(0, .ref qt), (1, .int x), (2, .int z)]) (by decide) rfl rfl (Nat.le_of_ble_eq_true rfl) rfl ?_
  intro κ X
  have i_X7 : ∀ w ∈ wsX70, w ∈ wsX7_hasPlaces := by decide +kernel
  refine j_iload_n (pc := 0) X dX7_hasPlaces_0 rfl 1 rfl ?_
  refine j_if_lt (pc := 1) X (x := x) (tgt := 26) dX7_hasPlaces_1 (by decide) (fun c_1 => ?_) (fun c_1 => ?_)
  · skip
    refine j_iconst (pc := 26) X (v := nI 0) dX7_hasPlaces_26 (by decide) ?_
    exact j_zret (pc := 27) X (rfl) dX7_hasPlaces_27 ⟨r0 (by simp [hasP, c_1]), rfl⟩
  · skip
    refine j_iload_n (pc := 4) X dX7_hasPlaces_4 rfl 1 rfl ?_
    refine j_aload_n (pc := 5) X dX7_hasPlaces_5 rfl 0 rfl ?_
    refine j_get (pc := 6) X 7 i_X7 0 rfl rfl 3 (by decide) (by decide +kernel) rfl dX7_hasPlaces_6 ?_
    refine j_icmp_gt (pc := 9) X (x := x) (z := nI ln) (tgt := 26) dX7_hasPlaces_9 (by decide) (fun c_9 => ?_) (fun c_9 => ?_)
    · skip
      refine j_iconst (pc := 26) X (v := nI 0) dX7_hasPlaces_26 (by decide) ?_
      exact j_zret (pc := 27) X (rfl) dX7_hasPlaces_27 ⟨r0 (by simp [hasP, c_1, c_9]), rfl⟩
    · skip
      refine j_iload_n (pc := 12) X dX7_hasPlaces_12 rfl 2 rfl ?_
      refine j_aload_n (pc := 13) X dX7_hasPlaces_13 rfl 0 rfl ?_
      refine j_get (pc := 14) X 7 i_X7 0 rfl rfl 3 (by decide) (by decide +kernel) rfl dX7_hasPlaces_14 ?_
      refine j_iload_n (pc := 17) X dX7_hasPlaces_17 rfl 1 rfl ?_
      refine j_isub (pc := 18) X dX7_hasPlaces_18 ?_
      refine j_icmp_gt (pc := 19) X (x := z) (z := (nI ln) - x) (tgt := 26) dX7_hasPlaces_19 (by decide) (fun c_19 => ?_) (fun c_19 => ?_)
      · skip
        refine j_iconst (pc := 26) X (v := nI 0) dX7_hasPlaces_26 (by decide) ?_
        exact j_zret (pc := 27) X (rfl) dX7_hasPlaces_27 ⟨r0 (by simp [hasP, c_1, c_9, c_19]), rfl⟩
      · skip
        refine j_iconst (pc := 22) X (v := nI 1) dX7_hasPlaces_22 (by decide) ?_
        refine j_goto (pc := 23) X (tgt := 27) dX7_hasPlaces_23 (by decide) ?_
        exact j_zret (pc := 27) X (rfl) dX7_hasPlaces_27 ⟨r1 (by simp [hasP, c_1, c_9, c_19]), rfl⟩

set_option maxHeartbeats 4000000 in
set_option maxRecDepth 100000 in
theorem mX7_cut (l : Launch) (G : jG) (qt : Nat) (qn : Nat) (ms : Bool) (so : Nat) (ln : Nat) (v : Int64) (hso : so < 4) : MV l yX7_cut wsX7_cut ({ frames := 0, cells := 0, slots := 0, locals := 0 }) G [.ref qt, .long v] [(qt, .inr (7, [.ref qn, .int (b2i ms), .int (nI so), .int (nI ln)]))] (some (.long (cutL so v))) [(qt, .inr (7, [.ref qn, .int (b2i ms), .int (nI so), .int (nI ln)]))] := by
  refine MF.ofJ (cc := cX7_cut) (maxL := 3) (ret := (some .long)) (own := RX7) (lv := [(0, .ref qt), (1, .long v)]) (by decide) rfl rfl (Nat.le_of_ble_eq_true rfl) rfl ?_
  intro κ X
  have i_X7 : ∀ w ∈ wsX70, w ∈ wsX7_cut := by decide +kernel
  rcases (by omega : so = 0 ∨ so = 1 ∨ so = 2 ∨ so = 3) with rfl | rfl | rfl | rfl
  · skip
    refine j_aload_n (pc := 0) X dX7_cut_0 rfl 0 rfl ?_
    refine j_get (pc := 1) X 7 i_X7 0 rfl rfl 2 (by decide) (by decide +kernel) rfl dX7_cut_1 ?_
    refine j_tswI (pc := 4) X (tgt := 32) (off := 28) dX7_cut_4 (by decide) (by decide) (by decide) (by decide) ?_
    refine j_lload_n (pc := 32) X dX7_cut_32 rfl 1 rfl ?_
    refine j_l2i (pc := 33) X (v := v.toInt32) dX7_cut_33 (rfl) ?_
    refine j_i2b (pc := 34) X (v := v.toInt32.toInt8.toInt32) dX7_cut_34 (rfl) ?_
    refine j_i2l (pc := 35) X (v := v.toInt32.toInt8.toInt32.toInt64) dX7_cut_35 (rfl) ?_
    exact j_lret (pc := 36) X dX7_cut_36 ⟨by rfl, by rfl⟩
  · skip
    refine j_aload_n (pc := 0) X dX7_cut_0 rfl 0 rfl ?_
    refine j_get (pc := 1) X 7 i_X7 0 rfl rfl 2 (by decide) (by decide +kernel) rfl dX7_cut_1 ?_
    refine j_tswI (pc := 4) X (tgt := 37) (off := 33) dX7_cut_4 (by decide) (by decide) (by decide) (by decide) ?_
    refine j_lload_n (pc := 37) X dX7_cut_37 rfl 1 rfl ?_
    refine j_l2i (pc := 38) X (v := v.toInt32) dX7_cut_38 (rfl) ?_
    refine j_i2s (pc := 39) X (v := v.toInt32.toInt16.toInt32) dX7_cut_39 (rfl) ?_
    refine j_i2l (pc := 40) X (v := v.toInt32.toInt16.toInt32.toInt64) dX7_cut_40 (rfl) ?_
    exact j_lret (pc := 41) X dX7_cut_41 ⟨by rfl, by rfl⟩
  · skip
    refine j_aload_n (pc := 0) X dX7_cut_0 rfl 0 rfl ?_
    refine j_get (pc := 1) X 7 i_X7 0 rfl rfl 2 (by decide) (by decide +kernel) rfl dX7_cut_1 ?_
    refine j_tswI (pc := 4) X (tgt := 42) (off := 38) dX7_cut_4 (by decide) (by decide) (by decide) (by decide) ?_
    refine j_lload_n (pc := 42) X dX7_cut_42 rfl 1 rfl ?_
    refine j_l2i (pc := 43) X (v := v.toInt32) dX7_cut_43 (rfl) ?_
    refine j_i2l (pc := 44) X (v := v.toInt32.toInt64) dX7_cut_44 (rfl) ?_
    exact j_lret (pc := 45) X dX7_cut_45 ⟨by rfl, by rfl⟩
  · skip
    refine j_aload_n (pc := 0) X dX7_cut_0 rfl 0 rfl ?_
    refine j_get (pc := 1) X 7 i_X7 0 rfl rfl 2 (by decide) (by decide +kernel) rfl dX7_cut_1 ?_
    refine j_tswO (pc := 4) X (tgt := 46) dX7_cut_4 (by decide) (by decide) ?_
    refine j_lload_n (pc := 46) X dX7_cut_46 rfl 1 rfl ?_
    exact j_lret (pc := 47) X dX7_cut_47 ⟨by rfl, by rfl⟩

set_option maxHeartbeats 4000000 in
set_option maxRecDepth 100000 in
theorem mX7_put (l : Launch) (G : jG) (qt : Nat) (qn : Nat) (ms : Bool) (so : Nat) (ln : Nat) (u : Nat → Int64) (k : Nat) (v : Int64) (hso : so < 4) (hk : k < 40) : MV l yX7_put wsX7_put ({ frames := 1, cells := 0, slots := 0, locals := 22 }) G [.ref qt, .int (nI k), .long v] [(qt, .inr (7, [.ref qn, .int (b2i ms), .int (nI so), .int (nI ln)])), kJ G qn 40 u] (none) [(qt, .inr (7, [.ref qn, .int (b2i ms), .int (nI so), .int (nI ln)])), kJ G qn 40 (va_up u k (cutL so v))] := by
  refine MF.ofJ (cc := cX7_put) (maxL := 4) (ret := none) (own := RX7) (lv := [(0, .ref qt), (1, .int (nI k)), (2, .long v)]) (by decide) rfl rfl (Nat.le_of_ble_eq_true rfl) rfl ?_
  intro κ X
  have i_X7 : ∀ w ∈ wsX70, w ∈ wsX7_put := by decide +kernel
  refine j_aload_n (pc := 0) X dX7_put_0 rfl 0 rfl ?_
  refine j_get (pc := 1) X 7 i_X7 0 rfl rfl 0 (by decide) (by decide +kernel) rfl dX7_put_1 ?_
  refine j_iload_n (pc := 4) X dX7_put_4 rfl 1 rfl ?_
  refine j_aload_n (pc := 5) X dX7_put_5 rfl 0 rfl ?_
  refine j_lload_n (pc := 6) X dX7_put_6 rfl 2 rfl ?_
  refine j_clP (pc := 7) X [0] rfl (j_rV X (b := qt) (As := [.long v]) (ci := 7) (rest := [.int (nI k), .ref qn]) 1 (mX7_cut l G qt qn ms so ln v (by first | assumption | omega | exact ob_s (by omega) | exact ob_n)) gX7_put_X7_cut rfl rfl rfl (by decide +kernel) ⟨Nat.le_of_ble_eq_true rfl, Nat.le_of_ble_eq_true rfl⟩ rfl rfl 0 rfl [0] rfl rfl rfl (Nat.le_of_ble_eq_true rfl) dX7_put_7 ⟨Nat.le_of_ble_eq_true rfl, Nat.le_of_ble_eq_true rfl⟩) ?_
  refine j_last (pc := 10) X (f2 := (va_up u k (cutL so v))) (ws' := [(qt, .inr (7, [.ref qn, .int (b2i ms), .int (nI so), .int (nI ln)])), kJ G qn 40 (va_up u k (cutL so v))]) 1 rfl (vp_in_nI (by omega) (by decide)) dX7_put_10 (by rw [nI_clamp (by omega)]; exact lF_up _ _ _) rfl ?_
  exact j_vret (pc := 11) X dX7_put_11 ⟨rfl, rfl⟩

set_option maxHeartbeats 4000000 in
set_option maxRecDepth 100000 in
theorem mX7_hasOutcomes_L2 (l : Launch) (G : jG) (qt : Nat) (qn : Nat) (ms : Bool) (so : Nat) (ln : Nat) (u : Nat → Int64) (n : Nat) (hn : n ≤ 40) (κ : jK) (X : CX κ l yX7_hasOutcomes cX7_hasOutcomes 3 RX7 wsX7_hasOutcomes (some .boolean) ({ frames := 0, cells := 0, slots := 0, locals := 0 }) G (va_A [(qt, .inr (7, [.ref qn, .int (b2i ms), .int (nI so), .int (nI ln)])), kJ G qn 40 u] (js κ).heap.size))    : ∀ (fu : Nat) (i : Nat) (hi : i ≤ n) (ho : outc u i = true) (_ : n - i < fu), JJ κ 3 G (va_A [(qt, .inr (7, [.ref qn, .int (b2i ms), .int (nI so), .int (nI ln)])), kJ G qn 40 u] (js κ).heap.size) 0 0 (jQ κ G [(qt, .inr (7, [.ref qn, .int (b2i ms), .int (nI so), .int (nI ln)])), kJ G qn 40 u] (fun r w' => r = some (.int (b2i (outc u n))) ∧ w' = [(qt, .inr (7, [.ref qn, .int (b2i ms), .int (nI so), .int (nI ln)])), kJ G qn 40 u]) 0 0) 2 [(0, .ref qt), (1, .int (nI n)), (2, .int (nI i))] [] [(qt, .inr (7, [.ref qn, .int (b2i ms), .int (nI so), .int (nI ln)])), kJ G qn 40 u] := by
  have i_X7 : ∀ w ∈ wsX70, w ∈ wsX7_hasOutcomes := by decide +kernel
  intro fu
  induction fu with
  | zero => intro i hi ho hms; exact absurd hms (Nat.not_lt_zero _)
  | succ fu ih =>
    intro i hi ho hms
    refine j_iload_n (pc := 2) X dX7_hasOutcomes_2 rfl 2 rfl ?_
    refine j_iload_n (pc := 3) X dX7_hasOutcomes_3 rfl 1 rfl ?_
    refine j_icmpN_ge (pc := 4) X (a := i) (b := n) (by omega) (by omega) (tgt := 39) dX7_hasOutcomes_4 (by decide) (fun c_4 => ?_) (fun c_4 => ?_)
    · skip
      refine j_iconst (pc := 39) X (v := nI 1) dX7_hasOutcomes_39 (by decide) ?_
      exact j_zret (pc := 40) X (rfl) dX7_hasOutcomes_40 ⟨r1 (by rw [show n = i by omega]; exact ho), rfl⟩
    · skip
      refine j_aload_n (pc := 7) X dX7_hasOutcomes_7 rfl 0 rfl ?_
      refine j_get (pc := 8) X 7 i_X7 0 rfl rfl 0 (by decide) (by decide +kernel) rfl dX7_hasOutcomes_8 ?_
      refine j_iload_n (pc := 11) X dX7_hasOutcomes_11 rfl 2 rfl ?_
      refine j_lald (pc := 12) X 1 rfl (vp_in_nI (by omega) (by decide)) (v := u i) (congrArg u (nI_clamp (by omega))) dX7_hasOutcomes_12 ?_
      refine j_lconst (pc := 13) X (v := 0) dX7_hasOutcomes_13 (by decide) ?_
      refine j_lcmp (pc := 14) X dX7_hasOutcomes_14 ?_
      refine j_ifc_lt (pc := 15) X (tgt := 31) dX7_hasOutcomes_15 (by decide) (fun c_15 => ?_) (fun c_15 => ?_)
      · skip
        refine j_iconst (pc := 31) X (v := nI 0) dX7_hasOutcomes_31 (by decide) ?_
        exact j_zret (pc := 32) X (rfl) dX7_hasOutcomes_32 ⟨r0 (by exact outc_bad (by first | exact Or.inl c_15 | exact Or.inr c_28) n (by omega)), rfl⟩
      · skip
        refine j_aload_n (pc := 18) X dX7_hasOutcomes_18 rfl 0 rfl ?_
        refine j_get (pc := 19) X 7 i_X7 0 rfl rfl 0 (by decide) (by decide +kernel) rfl dX7_hasOutcomes_19 ?_
        refine j_iload_n (pc := 22) X dX7_hasOutcomes_22 rfl 2 rfl ?_
        refine j_lald (pc := 23) X 1 rfl (vp_in_nI (by omega) (by decide)) (v := u i) (congrArg u (nI_clamp (by omega))) dX7_hasOutcomes_23 ?_
        refine j_ldc2 (pc := 24) X (v := 100) dX7_hasOutcomes_24 (by decide +kernel) ?_
        refine j_lcmp (pc := 27) X dX7_hasOutcomes_27 ?_
        refine j_ifc_le (pc := 28) X (tgt := 33) dX7_hasOutcomes_28 (by decide) (fun c_28 => ?_) (fun c_28 => ?_)
        · skip
          refine j_iinc (pc := 33) X (v := nI (i + 1)) (lv' := [(2, .int (nI (i + 1))), (0, .ref qt), (1, .int (nI n))]) dX7_hasOutcomes_33 2 rfl (nI_1 _) (by decide) rfl ?_
          refine j_goto (pc := 36) X (tgt := 2) dX7_hasOutcomes_36 (by decide) ?_
          refine j_lv [1, 2, 0] (lv' := [(0, .ref qt), (1, .int (nI n)), (2, .int (nI (i + 1)))]) rfl ?_
          exact ih (i + 1) (by omega) (by simp [outc, ho, c_4, c_15, c_28]) (by omega)
        · skip
          refine j_iconst (pc := 31) X (v := nI 0) dX7_hasOutcomes_31 (by decide) ?_
          exact j_zret (pc := 32) X (rfl) dX7_hasOutcomes_32 ⟨r0 (by exact outc_bad (by first | exact Or.inl c_15 | exact Or.inr c_28) n (by omega)), rfl⟩
set_option maxHeartbeats 4000000 in
set_option maxRecDepth 100000 in
theorem mX7_hasOutcomes (l : Launch) (G : jG) (qt : Nat) (qn : Nat) (ms : Bool) (so : Nat) (ln : Nat) (u : Nat → Int64) (n : Nat) (hn : n ≤ 40) : MV l yX7_hasOutcomes wsX7_hasOutcomes ({ frames := 0, cells := 0, slots := 0, locals := 0 }) G [.ref qt, .int (nI n)] [(qt, .inr (7, [.ref qn, .int (b2i ms), .int (nI so), .int (nI ln)])), kJ G qn 40 u] (some (.int (b2i (outc u n)))) [(qt, .inr (7, [.ref qn, .int (b2i ms), .int (nI so), .int (nI ln)])), kJ G qn 40 u] := by
  refine MF.ofJ (cc := cX7_hasOutcomes) (maxL := 3) (ret := (some .boolean)) (own := RX7) (lv := [(0, .ref qt), (1, .int (nI n))]) (by decide) rfl rfl (Nat.le_of_ble_eq_true rfl) rfl ?_
  intro κ X
  have i_X7 : ∀ w ∈ wsX70, w ∈ wsX7_hasOutcomes := by decide +kernel
  refine j_iconst (pc := 0) X (v := nI 0) dX7_hasOutcomes_0 (by decide) ?_
  refine j_istore_n (pc := 1) X (lv' := [(2, .int (nI 0)), (0, .ref qt), (1, .int (nI n))]) dX7_hasOutcomes_1 rfl (by decide) rfl ?_
  refine j_lv [1, 2, 0] (lv' := [(0, .ref qt), (1, .int (nI n)), (2, .int (nI 0))]) rfl ?_
  exact mX7_hasOutcomes_L2 l G qt qn ms so ln u n hn κ X    (n - 0 + 1) 0 (by omega) (by rfl) (Nat.lt_succ_self _)

set_option maxHeartbeats 4000000 in
set_option maxRecDepth 100000 in
theorem mX6_add (l : Launch) (G : jG) (qu : Nat) (qu0 : Nat) (qu1 : Nat) (rn : Nat) (mo : Nat → Nat) (re : Nat → Bool) (m : Nat) (en : Bool) (hrn : rn < 16) : MV l yX6_add wsX6_add ({ frames := 0, cells := 0, slots := 0, locals := 0 }) G [.ref qu, .int (nI m), .int (b2i en)] [(qu, .inr (6, [.ref qu0, .ref qu1, .int (nI rn)])), kI G qu0 16 (nF mo), kZ G qu1 16 (bF re)] (none) [(qu, .inr (6, [.ref qu0, .ref qu1, .int (nI (rn + 1))])), kI G qu0 16 (nF (va_up mo rn m)), kZ G qu1 16 (bF (va_up re rn en))] := by
  refine MF.ofJ (cc := cX6_add) (maxL := 3) (ret := none) (own := RX6) (lv := [(0, .ref qu), (1, .int (nI m)), (2, .int (b2i en))]) (by decide) rfl rfl (Nat.le_of_ble_eq_true rfl) rfl ?_
  intro κ X
  have i_X6 : ∀ w ∈ wsX60, w ∈ wsX6_add := by decide +kernel
  refine j_aload_n (pc := 0) X dX6_add_0 rfl 0 rfl ?_
  refine j_get (pc := 1) X 6 i_X6 0 rfl rfl 0 (by decide) (by decide +kernel) rfl dX6_add_1 ?_
  refine j_aload_n (pc := 4) X dX6_add_4 rfl 0 rfl ?_
  refine j_get (pc := 5) X 6 i_X6 0 rfl rfl 2 (by decide) (by decide +kernel) rfl dX6_add_5 ?_
  refine j_iload_n (pc := 8) X dX6_add_8 rfl 1 rfl ?_
  refine j_iast (pc := 9) X (f2 := (nF (va_up mo rn m))) (ws' := [(qu, .inr (6, [.ref qu0, .ref qu1, .int (nI rn)])), kI G qu0 16 (nF (va_up mo rn m)), kZ G qu1 16 (bF re)]) 1 rfl (vp_in_nI (by omega) (by decide)) dX6_add_9 (by rw [nI_clamp (by omega)]; exact nF_up mo rn m) rfl ?_
  refine j_aload_n (pc := 10) X dX6_add_10 rfl 0 rfl ?_
  refine j_get (pc := 11) X 6 i_X6 0 rfl rfl 1 (by decide) (by decide +kernel) rfl dX6_add_11 ?_
  refine j_aload_n (pc := 14) X dX6_add_14 rfl 0 rfl ?_
  refine j_get (pc := 15) X 6 i_X6 0 rfl rfl 2 (by decide) (by decide +kernel) rfl dX6_add_15 ?_
  refine j_iload_n (pc := 18) X dX6_add_18 rfl 2 rfl ?_
  refine j_zast (pc := 19) X (f2 := (bF (va_up re rn en))) (ws' := [(qu, .inr (6, [.ref qu0, .ref qu1, .int (nI rn)])), kI G qu0 16 (nF (va_up mo rn m)), kZ G qu1 16 (bF (va_up re rn en))]) 2 rfl (vp_in_nI (by omega) (by decide)) dX6_add_19 (b2i_vnar _) (by rw [nI_clamp (by omega)]; exact bF_up re rn en) rfl ?_
  refine j_aload_n (pc := 20) X dX6_add_20 rfl 0 rfl ?_
  refine j_dup (pc := 21) X dX6_add_21 rfl ?_
  refine j_get (pc := 22) X 6 i_X6 0 rfl rfl 2 (by decide) (by decide +kernel) rfl dX6_add_22 ?_
  refine j_iconst (pc := 25) X (v := nI 1) dX6_add_25 (by decide) ?_
  refine j_iadd (pc := 26) X dX6_add_26 ?_
  refine j_topi (z := nI (rn + 1)) (nI_add _ _) ?_
  refine j_put (pc := 27) X (v := .int (nI (rn + 1))) (ws' := [(qu, .inr (6, [.ref qu0, .ref qu1, .int (nI (rn + 1))])), kI G qu0 16 (nF (va_up mo rn m)), kZ G qu1 16 (bF (va_up re rn en))]) 6 i_X6 tyX6 tyX6_ok nmX6 0 rfl rfl 2 (by decide) (by decide +kernel) (by decide) (rfl) (rfl) (Nat.le_of_ble_eq_true rfl) dX6_add_27 rfl ?_
  exact j_vret (pc := 30) X dX6_add_30 ⟨rfl, rfl⟩

set_option maxHeartbeats 4000000 in
set_option maxRecDepth 100000 in
theorem mX6_countEnded_L4 (l : Launch) (G : jG) (qu : Nat) (qu0 : Nat) (qu1 : Nat) (rn : Nat) (mo : Nat → Nat) (re : Nat → Bool) (t : Nat) (hrn : rn ≤ 16) (hmo : ∀ k, mo k ≤ 60) (ht : t ≤ 60) (κ : jK) (X : CX κ l yX6_countEnded cX6_countEnded 4 RX6 wsX6_countEnded (some .int) ({ frames := 0, cells := 0, slots := 0, locals := 0 }) G (va_A [(qu, .inr (6, [.ref qu0, .ref qu1, .int (nI rn)])), kI G qu0 16 (nF mo), kZ G qu1 16 (bF re)] (js κ).heap.size))    : ∀ (fu : Nat) (r : Nat) (hr : r ≤ rn) (_ : rn - r < fu), JJ κ 4 G (va_A [(qu, .inr (6, [.ref qu0, .ref qu1, .int (nI rn)])), kI G qu0 16 (nF mo), kZ G qu1 16 (bF re)] (js κ).heap.size) 0 0 (jQ κ G [(qu, .inr (6, [.ref qu0, .ref qu1, .int (nI rn)])), kI G qu0 16 (nF mo), kZ G qu1 16 (bF re)] (fun r w' => r = some (.int (nI (cntE mo re t rn))) ∧ w' = [(qu, .inr (6, [.ref qu0, .ref qu1, .int (nI rn)])), kI G qu0 16 (nF mo), kZ G qu1 16 (bF re)]) 0 0) 4 [(0, .ref qu), (1, .int (nI t)), (2, .int (nI (cntE mo re t r))), (3, .int (nI r))] [] [(qu, .inr (6, [.ref qu0, .ref qu1, .int (nI rn)])), kI G qu0 16 (nF mo), kZ G qu1 16 (bF re)] := by
  have i_X6 : ∀ w ∈ wsX60, w ∈ wsX6_countEnded := by decide +kernel
  intro fu
  induction fu with
  | zero => intro r hr hms; exact absurd hms (Nat.not_lt_zero _)
  | succ fu ih =>
    intro r hr hms
    refine j_iload_n (pc := 4) X dX6_countEnded_4 rfl 3 rfl ?_
    refine j_aload_n (pc := 5) X dX6_countEnded_5 rfl 0 rfl ?_
    refine j_get (pc := 6) X 6 i_X6 0 rfl rfl 2 (by decide) (by decide +kernel) rfl dX6_countEnded_6 ?_
    refine j_icmpN_ge (pc := 9) X (a := r) (b := rn) (by first | omega | exact Nat.lt_of_le_of_lt (hmo _) (by decide)) (by first | omega | exact Nat.lt_of_le_of_lt (hmo _) (by decide)) (tgt := 40) dX6_countEnded_9 (by decide) (fun c_9 => ?_) (fun c_9 => ?_)
    · skip
      refine j_iload_n (pc := 40) X dX6_countEnded_40 rfl 2 rfl ?_
      exact j_iret (pc := 41) X dX6_countEnded_41 ⟨by rw [show r = rn by omega], rfl⟩
    · skip
      refine j_aload_n (pc := 12) X dX6_countEnded_12 rfl 0 rfl ?_
      refine j_get (pc := 13) X 6 i_X6 0 rfl rfl 1 (by decide) (by decide +kernel) rfl dX6_countEnded_13 ?_
      refine j_iload_n (pc := 16) X dX6_countEnded_16 rfl 3 rfl ?_
      refine j_zald (pc := 17) X 2 rfl (vp_in_nI (by omega) (by decide)) (v := b2i (re r)) (congrArg (bF re) (nI_clamp (by omega))) dX6_countEnded_17 ?_
      refine j_ifb_eq (pc := 18) X (B := re r) (tgt := 34) dX6_countEnded_18 (by decide) (fun c_18 => ?_) (fun c_18 => ?_)
      · skip
        refine j_iinc (pc := 34) X (v := nI (r + 1)) (lv' := [(3, .int (nI (r + 1))), (0, .ref qu), (1, .int (nI t)), (2, .int (nI (cntE mo re t r)))]) dX6_countEnded_34 3 rfl (nI_1 _) (by decide) rfl ?_
        refine j_goto (pc := 37) X (tgt := 4) dX6_countEnded_37 (by decide) ?_
        refine j_lv [1, 2, 3, 0] (lv' := [(0, .ref qu), (1, .int (nI t)), (2, .int (nI (cntE mo re t r))), (3, .int (nI (r + 1)))]) rfl ?_
        refine j_lvq (lv' := [(0, .ref qu), (1, .int (nI t)), (2, .int (nI (cntE mo re t (r + 1)))), (3, .int (nI (r + 1)))]) ?_ ?_
        · rw [show (cntE mo re t r) = cntE mo re t (r + 1) from by (simp only [cntE]; simp [c_9, c_18])]
        exact ih (r + 1) (by omega) (by omega)
      · skip
        refine j_aload_n (pc := 21) X dX6_countEnded_21 rfl 0 rfl ?_
        refine j_get (pc := 22) X 6 i_X6 0 rfl rfl 0 (by decide) (by decide +kernel) rfl dX6_countEnded_22 ?_
        refine j_iload_n (pc := 25) X dX6_countEnded_25 rfl 3 rfl ?_
        refine j_iald (pc := 26) X 1 rfl (vp_in_nI (by omega) (by decide)) (v := nI (mo r)) (congrArg (nF mo) (nI_clamp (by omega))) dX6_countEnded_26 ?_
        refine j_iload_n (pc := 27) X dX6_countEnded_27 rfl 1 rfl ?_
        refine j_icmpN_ne (pc := 28) X (a := (mo r)) (b := t) (by first | omega | exact Nat.lt_of_le_of_lt (hmo _) (by decide)) (by first | omega | exact Nat.lt_of_le_of_lt (hmo _) (by decide)) (tgt := 34) dX6_countEnded_28 (by decide) (fun c_28 => ?_) (fun c_28 => ?_)
        · skip
          refine j_iinc (pc := 34) X (v := nI (r + 1)) (lv' := [(3, .int (nI (r + 1))), (0, .ref qu), (1, .int (nI t)), (2, .int (nI (cntE mo re t r)))]) dX6_countEnded_34 3 rfl (nI_1 _) (by decide) rfl ?_
          refine j_goto (pc := 37) X (tgt := 4) dX6_countEnded_37 (by decide) ?_
          refine j_lv [1, 2, 3, 0] (lv' := [(0, .ref qu), (1, .int (nI t)), (2, .int (nI (cntE mo re t r))), (3, .int (nI (r + 1)))]) rfl ?_
          refine j_lvq (lv' := [(0, .ref qu), (1, .int (nI t)), (2, .int (nI (cntE mo re t (r + 1)))), (3, .int (nI (r + 1)))]) ?_ ?_
          · rw [show (cntE mo re t r) = cntE mo re t (r + 1) from by (simp only [cntE]; simp [c_9, c_18, c_28])]
          exact ih (r + 1) (by omega) (by omega)
        · skip
          refine j_iinc (pc := 31) X (v := nI (cntE mo re t r + 1)) (lv' := [(2, .int (nI (cntE mo re t r + 1))), (0, .ref qu), (1, .int (nI t)), (3, .int (nI r))]) dX6_countEnded_31 2 rfl (nI_1 _) (by decide) rfl ?_
          refine j_iinc (pc := 34) X (v := nI (r + 1)) (lv' := [(3, .int (nI (r + 1))), (2, .int (nI (cntE mo re t r + 1))), (0, .ref qu), (1, .int (nI t))]) dX6_countEnded_34 3 rfl (nI_1 _) (by decide) rfl ?_
          refine j_goto (pc := 37) X (tgt := 4) dX6_countEnded_37 (by decide) ?_
          refine j_lv [2, 3, 1, 0] (lv' := [(0, .ref qu), (1, .int (nI t)), (2, .int (nI (cntE mo re t r + 1))), (3, .int (nI (r + 1)))]) rfl ?_
          refine j_lvq (lv' := [(0, .ref qu), (1, .int (nI t)), (2, .int (nI (cntE mo re t (r + 1)))), (3, .int (nI (r + 1)))]) ?_ ?_
          · rw [show (cntE mo re t r + 1) = cntE mo re t (r + 1) from by (simp only [cntE]; simp [c_9, c_18, c_28])]
          exact ih (r + 1) (by omega) (by omega)
set_option maxHeartbeats 4000000 in
set_option maxRecDepth 100000 in
theorem mX6_countEnded (l : Launch) (G : jG) (qu : Nat) (qu0 : Nat) (qu1 : Nat) (rn : Nat) (mo : Nat → Nat) (re : Nat → Bool) (t : Nat) (hrn : rn ≤ 16) (hmo : ∀ k, mo k ≤ 60) (ht : t ≤ 60) : MV l yX6_countEnded wsX6_countEnded ({ frames := 0, cells := 0, slots := 0, locals := 0 }) G [.ref qu, .int (nI t)] [(qu, .inr (6, [.ref qu0, .ref qu1, .int (nI rn)])), kI G qu0 16 (nF mo), kZ G qu1 16 (bF re)] (some (.int (nI (cntE mo re t rn)))) [(qu, .inr (6, [.ref qu0, .ref qu1, .int (nI rn)])), kI G qu0 16 (nF mo), kZ G qu1 16 (bF re)] := by
  refine MF.ofJ (cc := cX6_countEnded) (maxL := 4) (ret := (some .int)) (own := RX6) (lv := [(0, .ref qu), (1, .int (nI t))]) (by decide) rfl rfl (Nat.le_of_ble_eq_true rfl) rfl ?_
  intro κ X
  have i_X6 : ∀ w ∈ wsX60, w ∈ wsX6_countEnded := by decide +kernel
  refine j_iconst (pc := 0) X (v := nI 0) dX6_countEnded_0 (by decide) ?_
  refine j_istore_n (pc := 1) X (lv' := [(2, .int (nI 0)), (0, .ref qu), (1, .int (nI t))]) dX6_countEnded_1 rfl (by decide) rfl ?_
  refine j_iconst (pc := 2) X (v := nI 0) dX6_countEnded_2 (by decide) ?_
  refine j_istore_n (pc := 3) X (lv' := [(3, .int (nI 0)), (2, .int (nI 0)), (0, .ref qu), (1, .int (nI t))]) dX6_countEnded_3 rfl (by decide) rfl ?_
  refine j_lv [2, 3, 1, 0] (lv' := [(0, .ref qu), (1, .int (nI t)), (2, .int (nI 0)), (3, .int (nI 0))]) rfl ?_
  refine j_lvq (lv' := [(0, .ref qu), (1, .int (nI t)), (2, .int (nI (cntE mo re t 0))), (3, .int (nI 0))]) ?_ ?_
  · first | rfl | (rw [show (0) = cntE mo re t 0 from by (simp only [cntE]; simp [ne_eq])])
  exact mX6_countEnded_L4 l G qu qu0 qu1 rn mo re t hrn hmo ht κ X    (rn - 0 + 1) 0 (by omega) (Nat.lt_succ_self _)

set_option maxHeartbeats 4000000 in
set_option maxRecDepth 100000 in
theorem mX6_countAtRisk_L4 (l : Launch) (G : jG) (qu : Nat) (qu0 : Nat) (qu1 : Nat) (rn : Nat) (mo : Nat → Nat) (t : Nat) (hrn : rn ≤ 16) (hmo : ∀ k, mo k ≤ 60) (ht : t ≤ 60) (κ : jK) (X : CX κ l yX6_countAtRisk cX6_countAtRisk 4 RX6 wsX6_countAtRisk (some .int) ({ frames := 0, cells := 0, slots := 0, locals := 0 }) G (va_A [(qu, .inr (6, [.ref qu0, .ref qu1, .int (nI rn)])), kI G qu0 16 (nF mo)] (js κ).heap.size))    : ∀ (fu : Nat) (r : Nat) (hr : r ≤ rn) (_ : rn - r < fu), JJ κ 4 G (va_A [(qu, .inr (6, [.ref qu0, .ref qu1, .int (nI rn)])), kI G qu0 16 (nF mo)] (js κ).heap.size) 0 0 (jQ κ G [(qu, .inr (6, [.ref qu0, .ref qu1, .int (nI rn)])), kI G qu0 16 (nF mo)] (fun r w' => r = some (.int (nI (cntR mo t rn))) ∧ w' = [(qu, .inr (6, [.ref qu0, .ref qu1, .int (nI rn)])), kI G qu0 16 (nF mo)]) 0 0) 4 [(0, .ref qu), (1, .int (nI t)), (2, .int (nI (cntR mo t r))), (3, .int (nI r))] [] [(qu, .inr (6, [.ref qu0, .ref qu1, .int (nI rn)])), kI G qu0 16 (nF mo)] := by
  have i_X6 : ∀ w ∈ wsX60, w ∈ wsX6_countAtRisk := by decide +kernel
  intro fu
  induction fu with
  | zero => intro r hr hms; exact absurd hms (Nat.not_lt_zero _)
  | succ fu ih =>
    intro r hr hms
    refine j_iload_n (pc := 4) X dX6_countAtRisk_4 rfl 3 rfl ?_
    refine j_aload_n (pc := 5) X dX6_countAtRisk_5 rfl 0 rfl ?_
    refine j_get (pc := 6) X 6 i_X6 0 rfl rfl 2 (by decide) (by decide +kernel) rfl dX6_countAtRisk_6 ?_
    refine j_icmpN_ge (pc := 9) X (a := r) (b := rn) (by first | omega | exact Nat.lt_of_le_of_lt (hmo _) (by decide)) (by first | omega | exact Nat.lt_of_le_of_lt (hmo _) (by decide)) (tgt := 31) dX6_countAtRisk_9 (by decide) (fun c_9 => ?_) (fun c_9 => ?_)
    · skip
      refine j_iload_n (pc := 31) X dX6_countAtRisk_31 rfl 2 rfl ?_
      exact j_iret (pc := 32) X dX6_countAtRisk_32 ⟨by rw [show r = rn by omega], rfl⟩
    · skip
      refine j_aload_n (pc := 12) X dX6_countAtRisk_12 rfl 0 rfl ?_
      refine j_get (pc := 13) X 6 i_X6 0 rfl rfl 0 (by decide) (by decide +kernel) rfl dX6_countAtRisk_13 ?_
      refine j_iload_n (pc := 16) X dX6_countAtRisk_16 rfl 3 rfl ?_
      refine j_iald (pc := 17) X 1 rfl (vp_in_nI (by omega) (by decide)) (v := nI (mo r)) (congrArg (nF mo) (nI_clamp (by omega))) dX6_countAtRisk_17 ?_
      refine j_iload_n (pc := 18) X dX6_countAtRisk_18 rfl 1 rfl ?_
      refine j_icmpN_lt (pc := 19) X (a := (mo r)) (b := t) (by first | omega | exact Nat.lt_of_le_of_lt (hmo _) (by decide)) (by first | omega | exact Nat.lt_of_le_of_lt (hmo _) (by decide)) (tgt := 25) dX6_countAtRisk_19 (by decide) (fun c_19 => ?_) (fun c_19 => ?_)
      · skip
        refine j_iinc (pc := 25) X (v := nI (r + 1)) (lv' := [(3, .int (nI (r + 1))), (0, .ref qu), (1, .int (nI t)), (2, .int (nI (cntR mo t r)))]) dX6_countAtRisk_25 3 rfl (nI_1 _) (by decide) rfl ?_
        refine j_goto (pc := 28) X (tgt := 4) dX6_countAtRisk_28 (by decide) ?_
        refine j_lv [1, 2, 3, 0] (lv' := [(0, .ref qu), (1, .int (nI t)), (2, .int (nI (cntR mo t r))), (3, .int (nI (r + 1)))]) rfl ?_
        refine j_lvq (lv' := [(0, .ref qu), (1, .int (nI t)), (2, .int (nI (cntR mo t (r + 1)))), (3, .int (nI (r + 1)))]) ?_ ?_
        · rw [show (cntR mo t r) = cntR mo t (r + 1) from by (simp only [cntR]; split <;> omega)]
        exact ih (r + 1) (by omega) (by omega)
      · skip
        refine j_iinc (pc := 22) X (v := nI (cntR mo t r + 1)) (lv' := [(2, .int (nI (cntR mo t r + 1))), (0, .ref qu), (1, .int (nI t)), (3, .int (nI r))]) dX6_countAtRisk_22 2 rfl (nI_1 _) (by decide) rfl ?_
        refine j_iinc (pc := 25) X (v := nI (r + 1)) (lv' := [(3, .int (nI (r + 1))), (2, .int (nI (cntR mo t r + 1))), (0, .ref qu), (1, .int (nI t))]) dX6_countAtRisk_25 3 rfl (nI_1 _) (by decide) rfl ?_
        refine j_goto (pc := 28) X (tgt := 4) dX6_countAtRisk_28 (by decide) ?_
        refine j_lv [2, 3, 1, 0] (lv' := [(0, .ref qu), (1, .int (nI t)), (2, .int (nI (cntR mo t r + 1))), (3, .int (nI (r + 1)))]) rfl ?_
        refine j_lvq (lv' := [(0, .ref qu), (1, .int (nI t)), (2, .int (nI (cntR mo t (r + 1)))), (3, .int (nI (r + 1)))]) ?_ ?_
        · rw [show (cntR mo t r + 1) = cntR mo t (r + 1) from by (simp only [cntR]; split <;> omega)]
        exact ih (r + 1) (by omega) (by omega)
set_option maxHeartbeats 4000000 in
set_option maxRecDepth 100000 in
theorem mX6_countAtRisk (l : Launch) (G : jG) (qu : Nat) (qu0 : Nat) (qu1 : Nat) (rn : Nat) (mo : Nat → Nat) (t : Nat) (hrn : rn ≤ 16) (hmo : ∀ k, mo k ≤ 60) (ht : t ≤ 60) : MV l yX6_countAtRisk wsX6_countAtRisk ({ frames := 0, cells := 0, slots := 0, locals := 0 }) G [.ref qu, .int (nI t)] [(qu, .inr (6, [.ref qu0, .ref qu1, .int (nI rn)])), kI G qu0 16 (nF mo)] (some (.int (nI (cntR mo t rn)))) [(qu, .inr (6, [.ref qu0, .ref qu1, .int (nI rn)])), kI G qu0 16 (nF mo)] := by
  refine MF.ofJ (cc := cX6_countAtRisk) (maxL := 4) (ret := (some .int)) (own := RX6) (lv := [(0, .ref qu), (1, .int (nI t))]) (by decide) rfl rfl (Nat.le_of_ble_eq_true rfl) rfl ?_
  intro κ X
  have i_X6 : ∀ w ∈ wsX60, w ∈ wsX6_countAtRisk := by decide +kernel
  refine j_iconst (pc := 0) X (v := nI 0) dX6_countAtRisk_0 (by decide) ?_
  refine j_istore_n (pc := 1) X (lv' := [(2, .int (nI 0)), (0, .ref qu), (1, .int (nI t))]) dX6_countAtRisk_1 rfl (by decide) rfl ?_
  refine j_iconst (pc := 2) X (v := nI 0) dX6_countAtRisk_2 (by decide) ?_
  refine j_istore_n (pc := 3) X (lv' := [(3, .int (nI 0)), (2, .int (nI 0)), (0, .ref qu), (1, .int (nI t))]) dX6_countAtRisk_3 rfl (by decide) rfl ?_
  refine j_lv [2, 3, 1, 0] (lv' := [(0, .ref qu), (1, .int (nI t)), (2, .int (nI 0)), (3, .int (nI 0))]) rfl ?_
  refine j_lvq (lv' := [(0, .ref qu), (1, .int (nI t)), (2, .int (nI (cntR mo t 0))), (3, .int (nI 0))]) ?_ ?_
  · first | rfl | (rw [show (0) = cntR mo t 0 from by (simp only [cntR]; split <;> omega)])
  exact mX6_countAtRisk_L4 l G qu qu0 qu1 rn mo t hrn hmo ht κ X    (rn - 0 + 1) 0 (by omega) (Nat.lt_succ_self _)

set_option maxHeartbeats 4000000 in
set_option maxRecDepth 100000 in
theorem mX6_shareBeyond_L8 (l : Launch) (G : jG) (qu : Nat) (qu0 : Nat) (qu1 : Nat) (rn : Nat) (mo : Nat → Nat) (re : Nat → Bool) (qf : Nat) (fa : Int64) (fb : Int64) (m : Nat) (hrn : rn ≤ 16) (hmo : ∀ k, mo k ≤ 60) (hm : m ≤ 60) (hA : shA mo re rn m < 2 ^ 49) (hB0 : 0 < shB mo re rn m) (hB : shB mo re rn m < 2 ^ 49) (κ : jK) (X : CX κ l yX6_shareBeyond cX6_shareBeyond 10 RX6 wsX6_shareBeyond none ({ frames := 2, cells := 0, slots := 0, locals := 56 }) G (va_A [(qu, .inr (6, [.ref qu0, .ref qu1, .int (nI rn)])), kI G qu0 16 (nF mo), kZ G qu1 16 (bF re), (qf, .inr (1, [.long fa, .long fb]))] (js κ).heap.size))    : ∀ (fu : Nat) (t : Nat) (ht : t ≤ m) (_ : m - t < fu), JJ κ 10 G (va_A [(qu, .inr (6, [.ref qu0, .ref qu1, .int (nI rn)])), kI G qu0 16 (nF mo), kZ G qu1 16 (bF re), (qf, .inr (1, [.long fa, .long fb]))] (js κ).heap.size) 0 0 (jQ κ G [(qu, .inr (6, [.ref qu0, .ref qu1, .int (nI rn)])), kI G qu0 16 (nF mo), kZ G qu1 16 (bF re), (qf, .inr (1, [.long fa, .long fb]))] (fun r w' => r = none ∧ w' = [(qu, .inr (6, [.ref qu0, .ref qu1, .int (nI rn)])), kI G qu0 16 (nF mo), kZ G qu1 16 (bF re), (qf, .inr (1, [.long (lN (shA mo re rn m) / lN (gdl (lN (shA mo re rn m)) (shB mo re rn m))), .long (lN (shB mo re rn m) / lN (gdl (lN (shA mo re rn m)) (shB mo re rn m)))]))]) 0 0) 8 [(0, .ref qu), (1, .int (nI m)), (2, .ref qf), (3, .long (lN (shA mo re rn t))), (5, .long (lN (shB mo re rn t))), (7, .int (nI (t + 1)))] [] [(qu, .inr (6, [.ref qu0, .ref qu1, .int (nI rn)])), kI G qu0 16 (nF mo), kZ G qu1 16 (bF re), (qf, .inr (1, [.long fa, .long fb]))] := by
  have i_X1 : ∀ w ∈ wsX10, w ∈ wsX6_shareBeyond := by decide +kernel
  have i_X6 : ∀ w ∈ wsX60, w ∈ wsX6_shareBeyond := by decide +kernel
  intro fu
  induction fu with
  | zero => intro t ht hms; exact absurd hms (Nat.not_lt_zero _)
  | succ fu ih =>
    intro t ht hms
    refine j_iload (pc := 8) X dX6_shareBeyond_8 5 rfl ?_
    refine j_iload_n (pc := 10) X dX6_shareBeyond_10 rfl 1 rfl ?_
    refine j_icmpN_gt (pc := 11) X (a := (t + 1)) (b := m) (by first | omega | (have h1 := cntR_le mo (t + 1) rn; have h2 := cntE_le mo re (t + 1) rn; omega)) (by first | omega | (have h1 := cntR_le mo (t + 1) rn; have h2 := cntE_le mo re (t + 1) rn; omega)) (tgt := 58) dX6_shareBeyond_11 (by decide) (fun c_11 => ?_) (fun c_11 => ?_)
    · skip
      obtain rfl : m = t := by omega
      refine j_aload_n (pc := 58) X dX6_shareBeyond_58 rfl 2 rfl ?_
      refine j_lload_n (pc := 59) X dX6_shareBeyond_59 rfl 3 rfl ?_
      refine j_lload (pc := 60) X dX6_shareBeyond_60 4 rfl ?_
      refine j_cv (pc := 62) X (ws' := [(qu, .inr (6, [.ref qu0, .ref qu1, .int (nI rn)])), kI G qu0 16 (nF mo), kZ G qu1 16 (bF re), (qf, .inr (1, [.long ((lN (shA mo re rn m)) / lN (gdl (lN (shA mo re rn m)) (shB mo re rn m))), .long (lN (shB mo re rn m) / lN (gdl (lN (shA mo re rn m)) (shB mo re rn m)))]))]) [3] rfl (j_rVN X (b := qf) (As := [.long (lN (shA mo re rn m)), .long (lN (shB mo re rn m))]) (ci := 1) (rest := []) 2 (mX1_become l G qf fa fb (lN (shA mo re rn m)) (shB mo re rn m) (by rw [pk_lT (by omega)]; omega) (by first | assumption | omega | exact ob_s (by omega) | exact ob_n) (by first | assumption | omega | exact ob_s (by omega) | exact ob_n)) gX6_shareBeyond_X1_become_n30 rfl rfl rfl (by decide +kernel) (by decide +kernel) (by decide +kernel) (by decide +kernel) (by decide +kernel) ⟨Nat.le_of_ble_eq_true rfl, Nat.le_of_ble_eq_true rfl⟩ rfl rfl 0 rfl [3] rfl rfl rfl (Nat.le_of_ble_eq_true rfl) dX6_shareBeyond_62 ⟨Nat.le_of_ble_eq_true rfl, Nat.le_of_ble_eq_true rfl⟩) rfl rfl ?_
      exact j_vret (pc := 65) X dX6_shareBeyond_65 ⟨rfl, by simp⟩
    · skip
      refine j_aload_n (pc := 14) X dX6_shareBeyond_14 rfl 0 rfl ?_
      refine j_iload (pc := 15) X dX6_shareBeyond_15 5 rfl ?_
      refine j_ciP (pc := 17) X [0, 1, 2] rfl (j_rV X (b := qu) (As := [.int (nI (t + 1))]) (ci := 6) (rest := []) 1 (mX6_countEnded l G qu qu0 qu1 rn mo re (t + 1) (by first | assumption | omega | exact ob_s (by omega) | exact ob_n) (by first | assumption | omega | exact ob_s (by omega) | exact ob_n) (by first | assumption | omega | exact ob_s (by omega) | exact ob_n)) gX6_shareBeyond_X6_countEnded rfl rfl rfl (by decide +kernel) ⟨Nat.le_of_ble_eq_true rfl, Nat.le_of_ble_eq_true rfl⟩ rfl rfl 0 rfl [0, 1, 2] rfl rfl rfl (Nat.le_of_ble_eq_true rfl) dX6_shareBeyond_17 ⟨Nat.le_of_ble_eq_true rfl, Nat.le_of_ble_eq_true rfl⟩) ?_
      refine j_istore (pc := 20) X (lv' := [(8, .int (nI (cntE mo re (t + 1) rn))), (0, .ref qu), (1, .int (nI m)), (2, .ref qf), (3, .long (lN (shA mo re rn t))), (5, .long (lN (shB mo re rn t))), (7, .int (nI (t + 1)))]) dX6_shareBeyond_20 (by decide) rfl ?_
      refine j_iload (pc := 22) X dX6_shareBeyond_22 0 rfl ?_
      refine j_ifN_le (pc := 24) X (a := (cntE mo re (t + 1) rn)) (by first | omega | (have h1 := cntR_le mo (t + 1) rn; have h2 := cntE_le mo re (t + 1) rn; omega)) (tgt := 52) dX6_shareBeyond_24 (by decide) (fun c_24 => ?_) (fun c_24 => ?_)
      · skip
        refine j_iinc (pc := 52) X (v := nI (t + 1 + 1)) (lv' := [(7, .int (nI (t + 1 + 1))), (8, .int (nI (cntE mo re (t + 1) rn))), (0, .ref qu), (1, .int (nI m)), (2, .ref qf), (3, .long (lN (shA mo re rn t))), (5, .long (lN (shB mo re rn t)))]) dX6_shareBeyond_52 6 rfl (nI_1 _) (by decide) rfl ?_
        refine j_goto (pc := 55) X (tgt := 8) dX6_shareBeyond_55 (by decide) ?_
        refine j_lv [2, 3, 4, 5, 6, 0] (lv' := [(0, .ref qu), (1, .int (nI m)), (2, .ref qf), (3, .long (lN (shA mo re rn t))), (5, .long (lN (shB mo re rn t))), (7, .int (nI (t + 1 + 1)))]) rfl ?_
        refine j_lvq (lv' := [(0, .ref qu), (1, .int (nI m)), (2, .ref qf), (3, .long (lN (shA mo re rn (t + 1)))), (5, .long (lN (shB mo re rn (t + 1)))), (7, .int (nI (t + 1 + 1)))]) ?_ ?_
        · rw [show (lN (shA mo re rn t)) = lN (shA mo re rn (t + 1)) from by (simp only [shA, shB]; split <;> first | rfl | omega), show (lN (shB mo re rn t)) = lN (shB mo re rn (t + 1)) from by (simp only [shA, shB]; split <;> first | rfl | omega)]
        exact ih (t + 1) (by omega) (by omega)
      · skip
        refine j_aload_n (pc := 27) X dX6_shareBeyond_27 rfl 1 rfl ?_
        refine j_iload (pc := 28) X dX6_shareBeyond_28 6 rfl ?_
        refine j_ciP (pc := 30) X [0, 1] rfl (j_rV X (b := qu) (As := [.int (nI (t + 1))]) (ci := 6) (rest := []) 1 (mX6_countAtRisk l G qu qu0 qu1 rn mo (t + 1) (by first | assumption | omega | exact ob_s (by omega) | exact ob_n) (by first | assumption | omega | exact ob_s (by omega) | exact ob_n) (by first | assumption | omega | exact ob_s (by omega) | exact ob_n)) gX6_shareBeyond_X6_countAtRisk rfl rfl rfl (by decide +kernel) ⟨Nat.le_of_ble_eq_true rfl, Nat.le_of_ble_eq_true rfl⟩ rfl rfl 0 rfl [0, 1] rfl rfl rfl (Nat.le_of_ble_eq_true rfl) dX6_shareBeyond_30 ⟨Nat.le_of_ble_eq_true rfl, Nat.le_of_ble_eq_true rfl⟩) ?_
        refine j_istore (pc := 33) X (lv' := [(9, .int (nI (cntR mo (t + 1) rn))), (8, .int (nI (cntE mo re (t + 1) rn))), (0, .ref qu), (1, .int (nI m)), (2, .ref qf), (3, .long (lN (shA mo re rn t))), (5, .long (lN (shB mo re rn t))), (7, .int (nI (t + 1)))]) dX6_shareBeyond_33 (by decide) rfl ?_
        refine j_lload_n (pc := 35) X dX6_shareBeyond_35 rfl 5 rfl ?_
        refine j_iload (pc := 36) X dX6_shareBeyond_36 0 rfl ?_
        refine j_iload (pc := 38) X dX6_shareBeyond_38 1 rfl ?_
        refine j_isub (pc := 40) X dX6_shareBeyond_40 ?_
        refine j_topi (z := nI (cntR mo (t + 1) rn - cntE mo re (t + 1) rn)) (pk_sub (by have h1 := cntR_le mo (t + 1) rn; have h2 := cntE_le mo re (t + 1) rn; omega)) ?_
        refine j_i2l (pc := 41) X (v := lN (cntR mo (t + 1) rn - cntE mo re (t + 1) rn)) dX6_shareBeyond_41 (nI_l (by (have h1 := cntR_le mo (t + 1) rn; have h2 := cntE_le mo re (t + 1) rn; omega))) ?_
        refine j_lmul (pc := 42) X dX6_shareBeyond_42 ?_
        refine j_topl (z := lN (shA mo re rn t * (cntR mo (t + 1) rn - cntE mo re (t + 1) rn))) (lN_mul _ _) ?_
        refine j_lstore_n (pc := 43) X (lv' := [(3, .long (lN (shA mo re rn t * (cntR mo (t + 1) rn - cntE mo re (t + 1) rn)))), (9, .int (nI (cntR mo (t + 1) rn))), (8, .int (nI (cntE mo re (t + 1) rn))), (0, .ref qu), (1, .int (nI m)), (2, .ref qf), (5, .long (lN (shB mo re rn t))), (7, .int (nI (t + 1)))]) dX6_shareBeyond_43 rfl (by decide) rfl ?_
        refine j_lload (pc := 44) X dX6_shareBeyond_44 6 rfl ?_
        refine j_iload (pc := 46) X dX6_shareBeyond_46 1 rfl ?_
        refine j_i2l (pc := 48) X (v := lN (cntR mo (t + 1) rn)) dX6_shareBeyond_48 (nI_l (by (have h1 := cntR_le mo (t + 1) rn; have h2 := cntE_le mo re (t + 1) rn; omega))) ?_
        refine j_lmul (pc := 49) X dX6_shareBeyond_49 ?_
        refine j_topl (z := lN (shB mo re rn t * cntR mo (t + 1) rn)) (lN_mul _ _) ?_
        refine j_lstore (pc := 50) X (lv' := [(5, .long (lN (shB mo re rn t * cntR mo (t + 1) rn))), (3, .long (lN (shA mo re rn t * (cntR mo (t + 1) rn - cntE mo re (t + 1) rn)))), (9, .int (nI (cntR mo (t + 1) rn))), (8, .int (nI (cntE mo re (t + 1) rn))), (0, .ref qu), (1, .int (nI m)), (2, .ref qf), (7, .int (nI (t + 1)))]) dX6_shareBeyond_50 (by decide) rfl ?_
        refine j_iinc (pc := 52) X (v := nI (t + 1 + 1)) (lv' := [(7, .int (nI (t + 1 + 1))), (5, .long (lN (shB mo re rn t * cntR mo (t + 1) rn))), (3, .long (lN (shA mo re rn t * (cntR mo (t + 1) rn - cntE mo re (t + 1) rn)))), (9, .int (nI (cntR mo (t + 1) rn))), (8, .int (nI (cntE mo re (t + 1) rn))), (0, .ref qu), (1, .int (nI m)), (2, .ref qf)]) dX6_shareBeyond_52 7 rfl (nI_1 _) (by decide) rfl ?_
        refine j_goto (pc := 55) X (tgt := 8) dX6_shareBeyond_55 (by decide) ?_
        refine j_lv [5, 6, 7, 2, 1, 0] (lv' := [(0, .ref qu), (1, .int (nI m)), (2, .ref qf), (3, .long (lN (shA mo re rn t * (cntR mo (t + 1) rn - cntE mo re (t + 1) rn)))), (5, .long (lN (shB mo re rn t * cntR mo (t + 1) rn))), (7, .int (nI (t + 1 + 1)))]) rfl ?_
        refine j_lvq (lv' := [(0, .ref qu), (1, .int (nI m)), (2, .ref qf), (3, .long (lN (shA mo re rn (t + 1)))), (5, .long (lN (shB mo re rn (t + 1)))), (7, .int (nI (t + 1 + 1)))]) ?_ ?_
        · rw [show (lN (shA mo re rn t * (cntR mo (t + 1) rn - cntE mo re (t + 1) rn))) = lN (shA mo re rn (t + 1)) from by (simp only [shA, shB]; split <;> first | rfl | omega), show (lN (shB mo re rn t * cntR mo (t + 1) rn)) = lN (shB mo re rn (t + 1)) from by (simp only [shA, shB]; split <;> first | rfl | omega)]
        exact ih (t + 1) (by omega) (by omega)
set_option maxHeartbeats 4000000 in
set_option maxRecDepth 100000 in
theorem mX6_shareBeyond (l : Launch) (G : jG) (qu : Nat) (qu0 : Nat) (qu1 : Nat) (rn : Nat) (mo : Nat → Nat) (re : Nat → Bool) (qf : Nat) (fa : Int64) (fb : Int64) (m : Nat) (hrn : rn ≤ 16) (hmo : ∀ k, mo k ≤ 60) (hm : m ≤ 60) (hA : shA mo re rn m < 2 ^ 49) (hB0 : 0 < shB mo re rn m) (hB : shB mo re rn m < 2 ^ 49) : MV l yX6_shareBeyond wsX6_shareBeyond ({ frames := 2, cells := 0, slots := 0, locals := 56 }) G [.ref qu, .int (nI m), .ref qf] [(qu, .inr (6, [.ref qu0, .ref qu1, .int (nI rn)])), kI G qu0 16 (nF mo), kZ G qu1 16 (bF re), (qf, .inr (1, [.long fa, .long fb]))] (none) [(qu, .inr (6, [.ref qu0, .ref qu1, .int (nI rn)])), kI G qu0 16 (nF mo), kZ G qu1 16 (bF re), (qf, .inr (1, [.long (lN (shA mo re rn m) / lN (gdl (lN (shA mo re rn m)) (shB mo re rn m))), .long (lN (shB mo re rn m) / lN (gdl (lN (shA mo re rn m)) (shB mo re rn m)))]))] := by
  refine MF.ofJ (cc := cX6_shareBeyond) (maxL := 10) (ret := none) (own := RX6) (lv := [(0, .ref qu), (1, .int (nI m)), (2, .ref qf)]) (by decide) rfl rfl (Nat.le_of_ble_eq_true rfl) rfl ?_
  intro κ X
  have i_X1 : ∀ w ∈ wsX10, w ∈ wsX6_shareBeyond := by decide +kernel
  have i_X6 : ∀ w ∈ wsX60, w ∈ wsX6_shareBeyond := by decide +kernel
  refine j_lconst (pc := 0) X (v := 1) dX6_shareBeyond_0 (by decide) ?_
  refine j_lstore_n (pc := 1) X (lv' := [(3, .long 1), (0, .ref qu), (1, .int (nI m)), (2, .ref qf)]) dX6_shareBeyond_1 rfl (by decide) rfl ?_
  refine j_lconst (pc := 2) X (v := 1) dX6_shareBeyond_2 (by decide) ?_
  refine j_lstore (pc := 3) X (lv' := [(5, .long 1), (3, .long 1), (0, .ref qu), (1, .int (nI m)), (2, .ref qf)]) dX6_shareBeyond_3 (by decide) rfl ?_
  refine j_iconst (pc := 5) X (v := nI 1) dX6_shareBeyond_5 (by decide) ?_
  refine j_istore (pc := 6) X (lv' := [(7, .int (nI 1)), (5, .long 1), (3, .long 1), (0, .ref qu), (1, .int (nI m)), (2, .ref qf)]) dX6_shareBeyond_6 (by decide) rfl ?_
  refine j_lv [3, 4, 5, 2, 1, 0] (lv' := [(0, .ref qu), (1, .int (nI m)), (2, .ref qf), (3, .long 1), (5, .long 1), (7, .int (nI 1))]) rfl ?_
  refine j_lvq (lv' := [(0, .ref qu), (1, .int (nI m)), (2, .ref qf), (3, .long (lN (shA mo re rn 0))), (5, .long (lN (shB mo re rn 0))), (7, .int (nI (0 + 1)))]) ?_ ?_
  · first | rfl | (rw [show (1) = lN (shA mo re rn 0) from by (simp only [shA, shB]; split <;> first | rfl | omega), show (1) = lN (shB mo re rn 0) from by (simp only [shA, shB]; split <;> first | rfl | omega), show (1) = 0 + 1 from by (simp only [shA, shB]; split <;> first | rfl | omega)])
  exact mX6_shareBeyond_L8 l G qu qu0 qu1 rn mo re qf fa fb m hrn hmo hm hA hB0 hB κ X    (m - 0 + 1) 0 (by omega) (Nat.lt_succ_self _)
end
section
set_option maxHeartbeats 4000000 in
set_option maxRecDepth 100000 in
theorem mX4_countOf_L4 (l : Launch) (G : jG) (qp : Nat) (qp0 : Nat) (qp1 : Nat) (gv : Bool) (eb : Nat → Option Nat) (e : Nat) (heb : ∀ k, ob 12 (eb k)) (he : e < 12) (κ : jK) (X : CX κ l yX4_countOf cX4_countOf 4 RX4 wsX4_countOf (some .int) ({ frames := 0, cells := 0, slots := 0, locals := 0 }) G (va_A [(qp, .inr (4, [.ref qp0, .ref qp1, .int (b2i gv)])), kI G qp0 16 (oF eb)] (js κ).heap.size))    : ∀ (fu : Nat) (b : Nat) (hb : b ≤ 16) (_ : 16 - b < fu), JJ κ 4 G (va_A [(qp, .inr (4, [.ref qp0, .ref qp1, .int (b2i gv)])), kI G qp0 16 (oF eb)] (js κ).heap.size) 0 0 (jQ κ G [(qp, .inr (4, [.ref qp0, .ref qp1, .int (b2i gv)])), kI G qp0 16 (oF eb)] (fun r w' => r = some (.int (nI (cntO eb e 16))) ∧ w' = [(qp, .inr (4, [.ref qp0, .ref qp1, .int (b2i gv)])), kI G qp0 16 (oF eb)]) 0 0) 4 [(0, .ref qp), (1, .int (nI e)), (2, .int (nI (cntO eb e b))), (3, .int (nI b))] [] [(qp, .inr (4, [.ref qp0, .ref qp1, .int (b2i gv)])), kI G qp0 16 (oF eb)] := by
  have i_X4 : ∀ w ∈ wsX40, w ∈ wsX4_countOf := by decide +kernel
  intro fu
  induction fu with
  | zero => intro b hb hms; exact absurd hms (Nat.not_lt_zero _)
  | succ fu ih =>
    intro b hb hms
    refine j_iload_n (pc := 4) X dX4_countOf_4 rfl 3 rfl ?_
    refine j_bipush (pc := 5) X (v := nI 16) dX4_countOf_5 (by decide) ?_
    refine j_icmpN_ge (pc := 7) X (a := b) (b := 16) (by omega) (by omega) (tgt := 29) dX4_countOf_7 (by decide) (fun c_7 => ?_) (fun c_7 => ?_)
    · skip
      refine j_iload_n (pc := 29) X dX4_countOf_29 rfl 2 rfl ?_
      exact j_iret (pc := 30) X dX4_countOf_30 ⟨by rw [show b = 16 by omega], rfl⟩
    · skip
      refine j_aload_n (pc := 10) X dX4_countOf_10 rfl 0 rfl ?_
      refine j_get (pc := 11) X 4 i_X4 0 rfl rfl 0 (by decide) (by decide +kernel) rfl dX4_countOf_11 ?_
      refine j_iload_n (pc := 14) X dX4_countOf_14 rfl 3 rfl ?_
      refine j_iald (pc := 15) X 1 rfl (vp_in_nI (by omega) (by decide)) (v := oI (eb b)) (congrArg (oF eb) (nI_clamp (by omega))) dX4_countOf_15 ?_
      refine j_iload_n (pc := 16) X dX4_countOf_16 rfl 1 rfl ?_
      refine j_icmpO_ne (pc := 17) X (a := (eb b)) (b := (some e)) (by first | exact ob_n | exact ob_s (by omega) | exact (heb _).big (by decide)) (by first | exact ob_n | exact ob_s (by omega) | exact (heb _).big (by decide)) (tgt := 23) dX4_countOf_17 (by decide) (fun c_17 => ?_) (fun c_17 => ?_)
      · skip
        refine j_iinc (pc := 23) X (v := nI (b + 1)) (lv' := [(3, .int (nI (b + 1))), (0, .ref qp), (1, .int (nI e)), (2, .int (nI (cntO eb e b)))]) dX4_countOf_23 3 rfl (nI_1 _) (by decide) rfl ?_
        refine j_goto (pc := 26) X (tgt := 4) dX4_countOf_26 (by decide) ?_
        refine j_lv [1, 2, 3, 0] (lv' := [(0, .ref qp), (1, .int (nI e)), (2, .int (nI (cntO eb e b))), (3, .int (nI (b + 1)))]) rfl ?_
        refine j_lvq (lv' := [(0, .ref qp), (1, .int (nI e)), (2, .int (nI (cntO eb e (b + 1)))), (3, .int (nI (b + 1)))]) ?_ ?_
        · rw [show (cntO eb e b) = cntO eb e (b + 1) from by (simp [cntO, c_7, c_17])]
        exact ih (b + 1) (by omega) (by omega)
      · skip
        refine j_iinc (pc := 20) X (v := nI (cntO eb e b + 1)) (lv' := [(2, .int (nI (cntO eb e b + 1))), (0, .ref qp), (1, .int (nI e)), (3, .int (nI b))]) dX4_countOf_20 2 rfl (nI_1 _) (by decide) rfl ?_
        refine j_iinc (pc := 23) X (v := nI (b + 1)) (lv' := [(3, .int (nI (b + 1))), (2, .int (nI (cntO eb e b + 1))), (0, .ref qp), (1, .int (nI e))]) dX4_countOf_23 3 rfl (nI_1 _) (by decide) rfl ?_
        refine j_goto (pc := 26) X (tgt := 4) dX4_countOf_26 (by decide) ?_
        refine j_lv [2, 3, 1, 0] (lv' := [(0, .ref qp), (1, .int (nI e)), (2, .int (nI (cntO eb e b + 1))), (3, .int (nI (b + 1)))]) rfl ?_
        refine j_lvq (lv' := [(0, .ref qp), (1, .int (nI e)), (2, .int (nI (cntO eb e (b + 1)))), (3, .int (nI (b + 1)))]) ?_ ?_
        · rw [show (cntO eb e b + 1) = cntO eb e (b + 1) from by (simp [cntO, c_7, c_17])]
        exact ih (b + 1) (by omega) (by omega)
set_option maxHeartbeats 4000000 in
set_option maxRecDepth 100000 in
theorem mX4_countOf (l : Launch) (G : jG) (qp : Nat) (qp0 : Nat) (qp1 : Nat) (gv : Bool) (eb : Nat → Option Nat) (e : Nat) (heb : ∀ k, ob 12 (eb k)) (he : e < 12) : MV l yX4_countOf wsX4_countOf ({ frames := 0, cells := 0, slots := 0, locals := 0 }) G [.ref qp, .int (nI e)] [(qp, .inr (4, [.ref qp0, .ref qp1, .int (b2i gv)])), kI G qp0 16 (oF eb)] (some (.int (nI (cntO eb e 16)))) [(qp, .inr (4, [.ref qp0, .ref qp1, .int (b2i gv)])), kI G qp0 16 (oF eb)] := by
  refine MF.ofJ (cc := cX4_countOf) (maxL := 4) (ret := (some .int)) (own := RX4) (lv := [(0, .ref qp), (1, .int (nI e))]) (by decide) rfl rfl (Nat.le_of_ble_eq_true rfl) rfl ?_
  intro κ X
  have i_X4 : ∀ w ∈ wsX40, w ∈ wsX4_countOf := by decide +kernel
  refine j_iconst (pc := 0) X (v := nI 0) dX4_countOf_0 (by decide) ?_
  refine j_istore_n (pc := 1) X (lv' := [(2, .int (nI 0)), (0, .ref qp), (1, .int (nI e))]) dX4_countOf_1 rfl (by decide) rfl ?_
  refine j_iconst (pc := 2) X (v := nI 0) dX4_countOf_2 (by decide) ?_
  refine j_istore_n (pc := 3) X (lv' := [(3, .int (nI 0)), (2, .int (nI 0)), (0, .ref qp), (1, .int (nI e))]) dX4_countOf_3 rfl (by decide) rfl ?_
  refine j_lv [2, 3, 1, 0] (lv' := [(0, .ref qp), (1, .int (nI e)), (2, .int (nI 0)), (3, .int (nI 0))]) rfl ?_
  refine j_lvq (lv' := [(0, .ref qp), (1, .int (nI e)), (2, .int (nI (cntO eb e 0))), (3, .int (nI 0))]) ?_ ?_
  · first | rfl | (rw [show (0) = cntO eb e 0 from by (simp [cntO, ne_eq])])
  exact mX4_countOf_L4 l G qp qp0 qp1 gv eb e heb he κ X    (16 - 0 + 1) 0 (by omega) (Nat.lt_succ_self _)

set_option maxHeartbeats 4000000 in
set_option maxRecDepth 100000 in
theorem mX4_countPairs_L4 (l : Launch) (G : jG) (qp : Nat) (qp0 : Nat) (qp1 : Nat) (gv : Bool) (eb : Nat → Option Nat) (heb : ∀ k, ob 12 (eb k)) (κ : jK) (X : CX κ l yX4_countPairs cX4_countPairs 3 RX4 wsX4_countPairs (some .int) ({ frames := 0, cells := 0, slots := 0, locals := 0 }) G (va_A [(qp, .inr (4, [.ref qp0, .ref qp1, .int (b2i gv)])), kI G qp0 16 (oF eb)] (js κ).heap.size))    : ∀ (fu : Nat) (b : Nat) (hb : b ≤ 16) (_ : 16 - b < fu), JJ κ 3 G (va_A [(qp, .inr (4, [.ref qp0, .ref qp1, .int (b2i gv)])), kI G qp0 16 (oF eb)] (js κ).heap.size) 0 0 (jQ κ G [(qp, .inr (4, [.ref qp0, .ref qp1, .int (b2i gv)])), kI G qp0 16 (oF eb)] (fun r w' => r = some (.int (nI (cntS eb 16))) ∧ w' = [(qp, .inr (4, [.ref qp0, .ref qp1, .int (b2i gv)])), kI G qp0 16 (oF eb)]) 0 0) 4 [(0, .ref qp), (1, .int (nI (cntS eb b))), (2, .int (nI b))] [] [(qp, .inr (4, [.ref qp0, .ref qp1, .int (b2i gv)])), kI G qp0 16 (oF eb)] := by
  have i_X4 : ∀ w ∈ wsX40, w ∈ wsX4_countPairs := by decide +kernel
  intro fu
  induction fu with
  | zero => intro b hb hms; exact absurd hms (Nat.not_lt_zero _)
  | succ fu ih =>
    intro b hb hms
    refine j_iload_n (pc := 4) X dX4_countPairs_4 rfl 2 rfl ?_
    refine j_bipush (pc := 5) X (v := nI 16) dX4_countPairs_5 (by decide) ?_
    refine j_icmpN_ge (pc := 7) X (a := b) (b := 16) (by omega) (by omega) (tgt := 29) dX4_countPairs_7 (by decide) (fun c_7 => ?_) (fun c_7 => ?_)
    · skip
      refine j_iload_n (pc := 29) X dX4_countPairs_29 rfl 1 rfl ?_
      exact j_iret (pc := 30) X dX4_countPairs_30 ⟨by rw [show b = 16 by omega], rfl⟩
    · skip
      refine j_aload_n (pc := 10) X dX4_countPairs_10 rfl 0 rfl ?_
      refine j_get (pc := 11) X 4 i_X4 0 rfl rfl 0 (by decide) (by decide +kernel) rfl dX4_countPairs_11 ?_
      refine j_iload_n (pc := 14) X dX4_countPairs_14 rfl 2 rfl ?_
      refine j_iald (pc := 15) X 1 rfl (vp_in_nI (by omega) (by decide)) (v := oI (eb b)) (congrArg (oF eb) (nI_clamp (by omega))) dX4_countPairs_15 ?_
      refine j_iconst (pc := 16) X (v := oI none) dX4_countPairs_16 (by decide) ?_
      refine j_icmpZ_eq (pc := 17) X (a := (eb b)) (by first | exact ob_n | exact ob_s (by omega) | exact (heb _).big (by decide)) (tgt := 23) dX4_countPairs_17 (by decide) (fun c_17 => ?_) (fun c_17 => ?_)
      · skip
        refine j_iinc (pc := 23) X (v := nI (b + 1)) (lv' := [(2, .int (nI (b + 1))), (0, .ref qp), (1, .int (nI (cntS eb b)))]) dX4_countPairs_23 2 rfl (nI_1 _) (by decide) rfl ?_
        refine j_goto (pc := 26) X (tgt := 4) dX4_countPairs_26 (by decide) ?_
        refine j_lv [1, 2, 0] (lv' := [(0, .ref qp), (1, .int (nI (cntS eb b))), (2, .int (nI (b + 1)))]) rfl ?_
        refine j_lvq (lv' := [(0, .ref qp), (1, .int (nI (cntS eb (b + 1)))), (2, .int (nI (b + 1)))]) ?_ ?_
        · rw [show (cntS eb b) = cntS eb (b + 1) from by (simp [cntS, c_7, c_17])]
        exact ih (b + 1) (by omega) (by omega)
      · skip
        refine j_iinc (pc := 20) X (v := nI (cntS eb b + 1)) (lv' := [(1, .int (nI (cntS eb b + 1))), (0, .ref qp), (2, .int (nI b))]) dX4_countPairs_20 1 rfl (nI_1 _) (by decide) rfl ?_
        refine j_iinc (pc := 23) X (v := nI (b + 1)) (lv' := [(2, .int (nI (b + 1))), (1, .int (nI (cntS eb b + 1))), (0, .ref qp)]) dX4_countPairs_23 2 rfl (nI_1 _) (by decide) rfl ?_
        refine j_goto (pc := 26) X (tgt := 4) dX4_countPairs_26 (by decide) ?_
        refine j_lv [2, 1, 0] (lv' := [(0, .ref qp), (1, .int (nI (cntS eb b + 1))), (2, .int (nI (b + 1)))]) rfl ?_
        refine j_lvq (lv' := [(0, .ref qp), (1, .int (nI (cntS eb (b + 1)))), (2, .int (nI (b + 1)))]) ?_ ?_
        · rw [show (cntS eb b + 1) = cntS eb (b + 1) from by (simp [cntS, c_7, c_17])]
        exact ih (b + 1) (by omega) (by omega)
set_option maxHeartbeats 4000000 in
set_option maxRecDepth 100000 in
theorem mX4_countPairs (l : Launch) (G : jG) (qp : Nat) (qp0 : Nat) (qp1 : Nat) (gv : Bool) (eb : Nat → Option Nat) (heb : ∀ k, ob 12 (eb k)) : MV l yX4_countPairs wsX4_countPairs ({ frames := 0, cells := 0, slots := 0, locals := 0 }) G [.ref qp] [(qp, .inr (4, [.ref qp0, .ref qp1, .int (b2i gv)])), kI G qp0 16 (oF eb)] (some (.int (nI (cntS eb 16)))) [(qp, .inr (4, [.ref qp0, .ref qp1, .int (b2i gv)])), kI G qp0 16 (oF eb)] := by
  refine MF.ofJ (cc := cX4_countPairs) (maxL := 3) (ret := (some .int)) (own := RX4) (lv := [(0, .ref qp)]) (by decide) rfl rfl (Nat.le_of_ble_eq_true rfl) rfl ?_
  intro κ X
  have i_X4 : ∀ w ∈ wsX40, w ∈ wsX4_countPairs := by decide +kernel
  refine j_iconst (pc := 0) X (v := nI 0) dX4_countPairs_0 (by decide) ?_
  refine j_istore_n (pc := 1) X (lv' := [(1, .int (nI 0)), (0, .ref qp)]) dX4_countPairs_1 rfl (by decide) rfl ?_
  refine j_iconst (pc := 2) X (v := nI 0) dX4_countPairs_2 (by decide) ?_
  refine j_istore_n (pc := 3) X (lv' := [(2, .int (nI 0)), (1, .int (nI 0)), (0, .ref qp)]) dX4_countPairs_3 rfl (by decide) rfl ?_
  refine j_lv [2, 1, 0] (lv' := [(0, .ref qp), (1, .int (nI 0)), (2, .int (nI 0))]) rfl ?_
  refine j_lvq (lv' := [(0, .ref qp), (1, .int (nI (cntS eb 0))), (2, .int (nI 0))]) ?_ ?_
  · first | rfl | (rw [show (0) = cntS eb 0 from by (simp [cntS, ne_eq])])
  exact mX4_countPairs_L4 l G qp qp0 qp1 gv eb heb κ X    (16 - 0 + 1) 0 (by omega) (Nat.lt_succ_self _)

set_option maxHeartbeats 4000000 in
set_option maxRecDepth 100000 in
theorem mX4_hasPlaceLeft (l : Launch) (G : jG) (qp : Nat) (qp0 : Nat) (qp1 : Nat) (gv : Bool) (eb : Nat → Option Nat) (qc : Nat) (qc0 : Nat) (qc1 : Nat) (qc2 : Nat) (qc3 : Nat) (el : Nat) (be : Nat) (pl : Nat → Nat) (e : Nat) (heb : ∀ k, ob 12 (eb k)) (hpl : ∀ k, pl k ≤ 4) (he : e < 12) : MV l yX4_hasPlaceLeft wsX4_hasPlaceLeft ({ frames := 1, cells := 0, slots := 0, locals := 23 }) G [.ref qp, .ref qc, .int (nI e)] [(qp, .inr (4, [.ref qp0, .ref qp1, .int (b2i gv)])), kI G qp0 16 (oF eb), (qc, .inr (0, [.ref qc0, .ref qc1, .ref qc2, .ref qc3, .int (nI el), .int (nI be)])), kI G qc0 12 (nF pl)] (some (.int (b2i (decide (cntO eb e 16 < pl e))))) [(qp, .inr (4, [.ref qp0, .ref qp1, .int (b2i gv)])), kI G qp0 16 (oF eb), (qc, .inr (0, [.ref qc0, .ref qc1, .ref qc2, .ref qc3, .int (nI el), .int (nI be)])), kI G qc0 12 (nF pl)] := by
  refine MF.ofJ (cc := cX4_hasPlaceLeft) (maxL := 3) (ret := (some .boolean)) (own := RX4) (lv := [(0, .ref qp), (1, .ref qc), (2, .int (nI e))]) (by decide) rfl rfl (Nat.le_of_ble_eq_true rfl) rfl ?_
  intro κ X
  have i_X0 : ∀ w ∈ wsX00, w ∈ wsX4_hasPlaceLeft := by decide +kernel
  have i_X4 : ∀ w ∈ wsX40, w ∈ wsX4_hasPlaceLeft := by decide +kernel
  refine j_aload_n (pc := 0) X dX4_hasPlaceLeft_0 rfl 0 rfl ?_
  refine j_iload_n (pc := 1) X dX4_hasPlaceLeft_1 rfl 2 rfl ?_
  refine j_ciP (pc := 2) X [0, 1] rfl (j_rV X (b := qp) (As := [.int (nI e)]) (ci := 4) (rest := []) 1 (mX4_countOf l G qp qp0 qp1 gv eb e (by first | assumption | omega | exact ob_s (by omega) | exact ob_n) (by first | assumption | omega | exact ob_s (by omega) | exact ob_n)) gX4_hasPlaceLeft_X4_countOf rfl rfl rfl (by decide +kernel) ⟨Nat.le_of_ble_eq_true rfl, Nat.le_of_ble_eq_true rfl⟩ rfl rfl 0 rfl [0, 1] rfl rfl rfl (Nat.le_of_ble_eq_true rfl) dX4_hasPlaceLeft_2 ⟨Nat.le_of_ble_eq_true rfl, Nat.le_of_ble_eq_true rfl⟩) ?_
  refine j_aload_n (pc := 5) X dX4_hasPlaceLeft_5 rfl 1 rfl ?_
  refine j_getN (pc := 6) X 0 i_X0 2 rfl rfl 0 (by decide) (by decide +kernel) rfl dX4_hasPlaceLeft_6 ?_
  refine j_iload_n (pc := 9) X dX4_hasPlaceLeft_9 rfl 2 rfl ?_
  refine j_iald (pc := 10) X 3 rfl (vp_in_nI (by omega) (by decide)) (v := nI (pl e)) (congrArg (nF pl) (nI_clamp (by omega))) dX4_hasPlaceLeft_10 ?_
  refine j_icmpN_ge (pc := 11) X (a := (cntO eb e 16)) (b := (pl e)) (by first | omega | (have h1 := cntO_le eb e 16; omega) | exact Nat.lt_of_le_of_lt (hpl _) (by decide)) (by first | omega | (have h1 := cntO_le eb e 16; omega) | exact Nat.lt_of_le_of_lt (hpl _) (by decide)) (tgt := 18) dX4_hasPlaceLeft_11 (by decide) (fun c_11 => ?_) (fun c_11 => ?_)
  · skip
    refine j_iconst (pc := 18) X (v := nI 0) dX4_hasPlaceLeft_18 (by decide) ?_
    exact j_zret (pc := 19) X (rfl) dX4_hasPlaceLeft_19 ⟨r0 (by first | (simp [c_11]; done) | (simp [c_11]; omega)), rfl⟩
  · skip
    refine j_iconst (pc := 14) X (v := nI 1) dX4_hasPlaceLeft_14 (by decide) ?_
    refine j_goto (pc := 15) X (tgt := 19) dX4_hasPlaceLeft_15 (by decide) ?_
    exact j_zret (pc := 19) X (rfl) dX4_hasPlaceLeft_19 ⟨r1 (by first | (simp [c_11]; done) | (simp [c_11]; omega)), rfl⟩

set_option maxHeartbeats 4000000 in
set_option maxRecDepth 100000 in
theorem mX4_leastOf_L5 (l : Launch) (G : jG) (qp : Nat) (qp0 : Nat) (qp1 : Nat) (gv : Bool) (eb : Nat → Option Nat) (qc : Nat) (qc0 : Nat) (qc1 : Nat) (qc2 : Nat) (qc3 : Nat) (el : Nat) (be : Nat) (le : Nat → Nat) (e : Nat) (heb : ∀ k, ob 12 (eb k)) (hbe : be ≤ 16) (hle : ∀ k, le k ≤ 100) (he : e < 12) (κ : jK) (X : CX κ l yX4_leastOf cX4_leastOf 5 RX4 wsX4_leastOf (some .int) ({ frames := 2, cells := 0, slots := 0, locals := 46 }) G (va_A [(qp, .inr (4, [.ref qp0, .ref qp1, .int (b2i gv)])), kI G qp0 16 (oF eb), (qc, .inr (0, [.ref qc0, .ref qc1, .ref qc2, .ref qc3, .int (nI el), .int (nI be)])), kI G qc1 192 (nF le)] (js κ).heap.size))    : ∀ (fu : Nat) (b : Nat) (w : Option Nat) (hb : b ≤ be) (hw : w = lst le eb e b) (hwo : ob 16 w) (_ : be - b < fu), JJ κ 5 G (va_A [(qp, .inr (4, [.ref qp0, .ref qp1, .int (b2i gv)])), kI G qp0 16 (oF eb), (qc, .inr (0, [.ref qc0, .ref qc1, .ref qc2, .ref qc3, .int (nI el), .int (nI be)])), kI G qc1 192 (nF le)] (js κ).heap.size) 0 0 (jQ κ G [(qp, .inr (4, [.ref qp0, .ref qp1, .int (b2i gv)])), kI G qp0 16 (oF eb), (qc, .inr (0, [.ref qc0, .ref qc1, .ref qc2, .ref qc3, .int (nI el), .int (nI be)])), kI G qc1 192 (nF le)] (fun r w' => r = some (.int (oI (lst le eb e be))) ∧ w' = [(qp, .inr (4, [.ref qp0, .ref qp1, .int (b2i gv)])), kI G qp0 16 (oF eb), (qc, .inr (0, [.ref qc0, .ref qc1, .ref qc2, .ref qc3, .int (nI el), .int (nI be)])), kI G qc1 192 (nF le)]) 0 0) 5 [(0, .ref qp), (1, .ref qc), (2, .int (nI e)), (3, .int (oI w)), (4, .int (nI b))] [] [(qp, .inr (4, [.ref qp0, .ref qp1, .int (b2i gv)])), kI G qp0 16 (oF eb), (qc, .inr (0, [.ref qc0, .ref qc1, .ref qc2, .ref qc3, .int (nI el), .int (nI be)])), kI G qc1 192 (nF le)] := by
  have i_X0 : ∀ w ∈ wsX00, w ∈ wsX4_leastOf := by decide +kernel
  have i_X4 : ∀ w ∈ wsX40, w ∈ wsX4_leastOf := by decide +kernel
  intro fu
  induction fu with
  | zero => intro b w hb hw hwo hms; exact absurd hms (Nat.not_lt_zero _)
  | succ fu ih =>
    intro b w hb hw hwo hms
    refine j_iload (pc := 5) X dX4_leastOf_5 4 rfl ?_
    refine j_aload_n (pc := 7) X dX4_leastOf_7 rfl 1 rfl ?_
    refine j_getN (pc := 8) X 0 i_X0 2 rfl rfl 5 (by decide) (by decide +kernel) rfl dX4_leastOf_8 ?_
    refine j_icmpN_ge (pc := 11) X (a := b) (b := be) (by omega) (by omega) (tgt := 50) dX4_leastOf_11 (by decide) (fun c_11 => ?_) (fun c_11 => ?_)
    · skip
      refine j_iload_n (pc := 50) X dX4_leastOf_50 rfl 3 rfl ?_
      exact j_iret (pc := 51) X dX4_leastOf_51 ⟨by rw [show be = b by omega, hw], rfl⟩
    · skip
      refine j_aload_n (pc := 14) X dX4_leastOf_14 rfl 0 rfl ?_
      refine j_get (pc := 15) X 4 i_X4 0 rfl rfl 0 (by decide) (by decide +kernel) rfl dX4_leastOf_15 ?_
      refine j_iload (pc := 18) X dX4_leastOf_18 4 rfl ?_
      refine j_iald (pc := 20) X 1 rfl (vp_in_nI (by omega) (by decide)) (v := oI (eb b)) (congrArg (oF eb) (nI_clamp (by omega))) dX4_leastOf_20 ?_
      refine j_iload_n (pc := 21) X dX4_leastOf_21 rfl 2 rfl ?_
      refine j_icmpO_ne (pc := 22) X (a := (eb b)) (b := (some e)) (by first | exact ob_n | exact ob_s (by omega) | exact (heb _).big (by decide) | exact hwo.big (by decide)) (by first | exact ob_n | exact ob_s (by omega) | exact (heb _).big (by decide) | exact hwo.big (by decide)) (tgt := 44) dX4_leastOf_22 (by decide) (fun c_22 => ?_) (fun c_22 => ?_)
      · skip
        refine j_iinc (pc := 44) X (v := nI (b + 1)) (lv' := [(4, .int (nI (b + 1))), (0, .ref qp), (1, .ref qc), (2, .int (nI e)), (3, .int (oI w))]) dX4_leastOf_44 4 rfl (nI_1 _) (by decide) rfl ?_
        refine j_goto (pc := 47) X (tgt := 5) dX4_leastOf_47 (by decide) ?_
        refine j_lv [1, 2, 3, 4, 0] (lv' := [(0, .ref qp), (1, .ref qc), (2, .int (nI e)), (3, .int (oI w)), (4, .int (nI (b + 1)))]) rfl ?_
        exact ih (b + 1) w (by omega) (by simp [lst, prEO, ← hw, c_11, c_22]) (by first | exact hwo | exact ob_s (by omega) | exact ob_n) (by omega)
      · skip
        refine j_iload_n (pc := 25) X dX4_leastOf_25 rfl 3 rfl ?_
        refine j_iconst (pc := 26) X (v := oI none) dX4_leastOf_26 (by decide) ?_
        refine j_icmpZ_eq (pc := 27) X (a := w) (by first | exact ob_n | exact ob_s (by omega) | exact (heb _).big (by decide) | exact hwo.big (by decide)) (tgt := 41) dX4_leastOf_27 (by decide) (fun c_27 => ?_) (fun c_27 => ?_)
        · skip
          refine j_iload (pc := 41) X dX4_leastOf_41 4 rfl ?_
          refine j_istore_n (pc := 43) X (lv' := [(3, .int (nI b)), (0, .ref qp), (1, .ref qc), (2, .int (nI e)), (4, .int (nI b))]) dX4_leastOf_43 rfl (by decide) rfl ?_
          refine j_iinc (pc := 44) X (v := nI (b + 1)) (lv' := [(4, .int (nI (b + 1))), (3, .int (nI b)), (0, .ref qp), (1, .ref qc), (2, .int (nI e))]) dX4_leastOf_44 4 rfl (nI_1 _) (by decide) rfl ?_
          refine j_goto (pc := 47) X (tgt := 5) dX4_leastOf_47 (by decide) ?_
          refine j_lv [2, 3, 4, 1, 0] (lv' := [(0, .ref qp), (1, .ref qc), (2, .int (nI e)), (3, .int (nI b)), (4, .int (nI (b + 1)))]) rfl ?_
          refine j_lvq (lv' := [(0, .ref qp), (1, .ref qc), (2, .int (nI e)), (3, .int (oI (some b))), (4, .int (nI (b + 1)))]) rfl ?_
          exact ih (b + 1) (some b) (by omega) (by simp [lst, prEO, ← hw, c_11, c_22, c_27]) (by first | exact hwo | exact ob_s (by omega) | exact ob_n) (by omega)
        · skip
          obtain ⟨w, rfl⟩ := Option.ne_none_iff_exists'.mp c_27; have hw16 := hwo w rfl
          refine j_aload_n (pc := 30) X dX4_leastOf_30 rfl 1 rfl ?_
          refine j_iload_n (pc := 31) X dX4_leastOf_31 rfl 2 rfl ?_
          refine j_iload_n (pc := 32) X dX4_leastOf_32 rfl 3 rfl ?_
          refine j_iload (pc := 33) X dX4_leastOf_33 4 rfl ?_
          refine j_ciP (pc := 35) X [2, 3] rfl (j_rVN X (b := qc) (As := [.int (nI e), .int (nI w), .int (nI b)]) (ci := 0) (rest := []) 3 (mX0_elderPrefers l G qc qc0 qc1 qc2 qc3 el be le e w b (by first | assumption | omega | exact ob_s (by omega) | exact ob_n) (by first | assumption | omega | exact ob_s (by omega) | exact ob_n) (by first | assumption | omega | exact ob_s (by omega) | exact ob_n) (by first | assumption | omega | exact ob_s (by omega) | exact ob_n)) gX4_leastOf_X0_elderPrefers_n41 rfl rfl rfl (by decide +kernel) (by decide +kernel) (by decide +kernel) (by decide +kernel) (by decide +kernel) ⟨Nat.le_of_ble_eq_true rfl, Nat.le_of_ble_eq_true rfl⟩ rfl rfl 0 rfl [2, 3] rfl rfl rfl (Nat.le_of_ble_eq_true rfl) dX4_leastOf_35 ⟨Nat.le_of_ble_eq_true rfl, Nat.le_of_ble_eq_true rfl⟩) ?_
          refine j_ifb_eq (pc := 38) X (B := prE le e w b) (tgt := 44) dX4_leastOf_38 (by decide) (fun c_38 => ?_) (fun c_38 => ?_)
          · skip
            refine j_iinc (pc := 44) X (v := nI (b + 1)) (lv' := [(4, .int (nI (b + 1))), (0, .ref qp), (1, .ref qc), (2, .int (nI e)), (3, .int (nI w))]) dX4_leastOf_44 4 rfl (nI_1 _) (by decide) rfl ?_
            refine j_goto (pc := 47) X (tgt := 5) dX4_leastOf_47 (by decide) ?_
            refine j_lv [1, 2, 3, 4, 0] (lv' := [(0, .ref qp), (1, .ref qc), (2, .int (nI e)), (3, .int (nI w)), (4, .int (nI (b + 1)))]) rfl ?_
            refine j_lvq (lv' := [(0, .ref qp), (1, .ref qc), (2, .int (nI e)), (3, .int (oI (some w))), (4, .int (nI (b + 1)))]) rfl ?_
            exact ih (b + 1) (some w) (by omega) (by simp [lst, prEO, ← hw, c_11, c_22, c_27, c_38]) (by first | exact hwo | exact ob_s (by omega) | exact ob_n) (by omega)
          · skip
            refine j_iload (pc := 41) X dX4_leastOf_41 4 rfl ?_
            refine j_istore_n (pc := 43) X (lv' := [(3, .int (nI b)), (0, .ref qp), (1, .ref qc), (2, .int (nI e)), (4, .int (nI b))]) dX4_leastOf_43 rfl (by decide) rfl ?_
            refine j_iinc (pc := 44) X (v := nI (b + 1)) (lv' := [(4, .int (nI (b + 1))), (3, .int (nI b)), (0, .ref qp), (1, .ref qc), (2, .int (nI e))]) dX4_leastOf_44 4 rfl (nI_1 _) (by decide) rfl ?_
            refine j_goto (pc := 47) X (tgt := 5) dX4_leastOf_47 (by decide) ?_
            refine j_lv [2, 3, 4, 1, 0] (lv' := [(0, .ref qp), (1, .ref qc), (2, .int (nI e)), (3, .int (nI b)), (4, .int (nI (b + 1)))]) rfl ?_
            refine j_lvq (lv' := [(0, .ref qp), (1, .ref qc), (2, .int (nI e)), (3, .int (oI (some b))), (4, .int (nI (b + 1)))]) rfl ?_
            exact ih (b + 1) (some b) (by omega) (by simp [lst, prEO, ← hw, c_11, c_22, c_27, c_38]) (by first | exact hwo | exact ob_s (by omega) | exact ob_n) (by omega)
set_option maxHeartbeats 4000000 in
set_option maxRecDepth 100000 in
theorem mX4_leastOf (l : Launch) (G : jG) (qp : Nat) (qp0 : Nat) (qp1 : Nat) (gv : Bool) (eb : Nat → Option Nat) (qc : Nat) (qc0 : Nat) (qc1 : Nat) (qc2 : Nat) (qc3 : Nat) (el : Nat) (be : Nat) (le : Nat → Nat) (e : Nat) (heb : ∀ k, ob 12 (eb k)) (hbe : be ≤ 16) (hle : ∀ k, le k ≤ 100) (he : e < 12) : MV l yX4_leastOf wsX4_leastOf ({ frames := 2, cells := 0, slots := 0, locals := 46 }) G [.ref qp, .ref qc, .int (nI e)] [(qp, .inr (4, [.ref qp0, .ref qp1, .int (b2i gv)])), kI G qp0 16 (oF eb), (qc, .inr (0, [.ref qc0, .ref qc1, .ref qc2, .ref qc3, .int (nI el), .int (nI be)])), kI G qc1 192 (nF le)] (some (.int (oI (lst le eb e be)))) [(qp, .inr (4, [.ref qp0, .ref qp1, .int (b2i gv)])), kI G qp0 16 (oF eb), (qc, .inr (0, [.ref qc0, .ref qc1, .ref qc2, .ref qc3, .int (nI el), .int (nI be)])), kI G qc1 192 (nF le)] := by
  refine MF.ofJ (cc := cX4_leastOf) (maxL := 5) (ret := (some .int)) (own := RX4) (lv := [(0, .ref qp), (1, .ref qc), (2, .int (nI e))]) (by decide) rfl rfl (Nat.le_of_ble_eq_true rfl) rfl ?_
  intro κ X
  have i_X0 : ∀ w ∈ wsX00, w ∈ wsX4_leastOf := by decide +kernel
  have i_X4 : ∀ w ∈ wsX40, w ∈ wsX4_leastOf := by decide +kernel
  refine j_iconst (pc := 0) X (v := oI none) dX4_leastOf_0 (by decide) ?_
  refine j_istore_n (pc := 1) X (lv' := [(3, .int (oI none)), (0, .ref qp), (1, .ref qc), (2, .int (nI e))]) dX4_leastOf_1 rfl (by decide) rfl ?_
  refine j_iconst (pc := 2) X (v := nI 0) dX4_leastOf_2 (by decide) ?_
  refine j_istore (pc := 3) X (lv' := [(4, .int (nI 0)), (3, .int (oI none)), (0, .ref qp), (1, .ref qc), (2, .int (nI e))]) dX4_leastOf_3 (by decide) rfl ?_
  refine j_lv [2, 3, 4, 1, 0] (lv' := [(0, .ref qp), (1, .ref qc), (2, .int (nI e)), (3, .int (oI none)), (4, .int (nI 0))]) rfl ?_
  exact mX4_leastOf_L5 l G qp qp0 qp1 gv eb qc qc0 qc1 qc2 qc3 el be le e heb hbe hle he κ X    (be - 0 + 1) 0 none (by omega) (by rfl) (ob_n) (Nat.lt_succ_self _)

set_option maxHeartbeats 4000000 in
set_option maxRecDepth 100000 in
theorem mX4_nextChoice_L13 (l : Launch) (G : jG) (qp : Nat) (qp0 : Nat) (qp1 : Nat) (gv : Bool) (la : Nat → Option Nat) (qc : Nat) (qc0 : Nat) (qc1 : Nat) (qc2 : Nat) (qc3 : Nat) (el : Nat) (be : Nat) (le : Nat → Nat) (lb : Nat → Nat) (br : Nat → Bool) (b : Nat) (hel : el ≤ 12) (hbe : be ≤ 16) (hle : ∀ k, le k ≤ 100) (hlb : ∀ k, lb k ≤ 100) (hla : ∀ k, ob 12 (la k)) (hb : b < 16) (κ : jK) (X : CX κ l yX4_nextChoice cX4_nextChoice 7 RX4 wsX4_nextChoice (some .int) ({ frames := 2, cells := 0, slots := 0, locals := 46 }) G (va_A [(qp, .inr (4, [.ref qp0, .ref qp1, .int (b2i gv)])), kI G qp1 16 (oF la), (qc, .inr (0, [.ref qc0, .ref qc1, .ref qc2, .ref qc3, .int (nI el), .int (nI be)])), kI G qc1 192 (nF le), kI G qc2 192 (nF lb), kZ G qc3 192 (bF br)] (js κ).heap.size))    : ∀ (fu : Nat) (e : Nat) (w : Option Nat) (he : e ≤ el) (hw : w = nxt le lb br b (la b) e) (hwo : ob 12 w) (_ : el - e < fu), JJ κ 7 G (va_A [(qp, .inr (4, [.ref qp0, .ref qp1, .int (b2i gv)])), kI G qp1 16 (oF la), (qc, .inr (0, [.ref qc0, .ref qc1, .ref qc2, .ref qc3, .int (nI el), .int (nI be)])), kI G qc1 192 (nF le), kI G qc2 192 (nF lb), kZ G qc3 192 (bF br)] (js κ).heap.size) 0 0 (jQ κ G [(qp, .inr (4, [.ref qp0, .ref qp1, .int (b2i gv)])), kI G qp1 16 (oF la), (qc, .inr (0, [.ref qc0, .ref qc1, .ref qc2, .ref qc3, .int (nI el), .int (nI be)])), kI G qc1 192 (nF le), kI G qc2 192 (nF lb), kZ G qc3 192 (bF br)] (fun r w' => r = some (.int (oI (nxt le lb br b (la b) el))) ∧ w' = [(qp, .inr (4, [.ref qp0, .ref qp1, .int (b2i gv)])), kI G qp1 16 (oF la), (qc, .inr (0, [.ref qc0, .ref qc1, .ref qc2, .ref qc3, .int (nI el), .int (nI be)])), kI G qc1 192 (nF le), kI G qc2 192 (nF lb), kZ G qc3 192 (bF br)]) 0 0) 13 [(0, .ref qp), (1, .ref qc), (2, .int (nI b)), (3, .int (oI (la b))), (4, .int (oI w)), (5, .int (nI e))] [] [(qp, .inr (4, [.ref qp0, .ref qp1, .int (b2i gv)])), kI G qp1 16 (oF la), (qc, .inr (0, [.ref qc0, .ref qc1, .ref qc2, .ref qc3, .int (nI el), .int (nI be)])), kI G qc1 192 (nF le), kI G qc2 192 (nF lb), kZ G qc3 192 (bF br)] := by
  have i_X0 : ∀ w ∈ wsX00, w ∈ wsX4_nextChoice := by decide +kernel
  have i_X4 : ∀ w ∈ wsX40, w ∈ wsX4_nextChoice := by decide +kernel
  intro fu
  induction fu with
  | zero => intro e w he hw hwo hms; exact absurd hms (Nat.not_lt_zero _)
  | succ fu ih =>
    intro e w he hw hwo hms
    refine j_iload (pc := 13) X dX4_nextChoice_13 5 rfl ?_
    refine j_aload_n (pc := 15) X dX4_nextChoice_15 rfl 1 rfl ?_
    refine j_getN (pc := 16) X 0 i_X0 2 rfl rfl 4 (by decide) (by decide +kernel) rfl dX4_nextChoice_16 ?_
    refine j_icmpN_ge (pc := 19) X (a := e) (b := el) (by omega) (by omega) (tgt := 82) dX4_nextChoice_19 (by decide) (fun c_19 => ?_) (fun c_19 => ?_)
    · skip
      refine j_iload (pc := 82) X dX4_nextChoice_82 4 rfl ?_
      exact j_iret (pc := 84) X dX4_nextChoice_84 ⟨by rw [show el = e by omega, hw], rfl⟩
    · skip
      refine j_aload_n (pc := 22) X dX4_nextChoice_22 rfl 1 rfl ?_
      refine j_iload (pc := 23) X dX4_nextChoice_23 5 rfl ?_
      refine j_iload_n (pc := 25) X dX4_nextChoice_25 rfl 2 rfl ?_
      refine j_ciP (pc := 26) X [2, 3, 4, 5] rfl (j_rVN X (b := qc) (As := [.int (nI e), .int (nI b)]) (ci := 0) (rest := []) 2 (mX0_canPair l G qc qc0 qc1 qc2 qc3 el be le lb br e b (by first | assumption | omega | exact ob_s (by omega) | exact ob_n) (by first | assumption | omega | exact ob_s (by omega) | exact ob_n) (by first | assumption | omega | exact ob_s (by omega) | exact ob_n) (by first | assumption | omega | exact ob_s (by omega) | exact ob_n)) gX4_nextChoice_X0_canPair_n64 rfl rfl rfl (by decide +kernel) (by decide +kernel) (by decide +kernel) (by decide +kernel) (by decide +kernel) ⟨Nat.le_of_ble_eq_true rfl, Nat.le_of_ble_eq_true rfl⟩ rfl rfl 0 rfl [2, 3, 4, 5] rfl rfl rfl (Nat.le_of_ble_eq_true rfl) dX4_nextChoice_26 ⟨Nat.le_of_ble_eq_true rfl, Nat.le_of_ble_eq_true rfl⟩) ?_
      refine j_ifb_eq (pc := 29) X (B := canB le lb br e b) (tgt := 52) dX4_nextChoice_29 (by decide) (fun c_29 => ?_) (fun c_29 => ?_)
      · skip
        refine j_iconst (pc := 52) X (v := nI 0) dX4_nextChoice_52 (by decide) ?_
        refine j_istore (pc := 53) X (lv' := [(6, .int (nI 0)), (0, .ref qp), (1, .ref qc), (2, .int (nI b)), (3, .int (oI (la b))), (4, .int (oI w)), (5, .int (nI e))]) dX4_nextChoice_53 (by decide) rfl ?_
        refine j_iload (pc := 55) X dX4_nextChoice_55 0 rfl ?_
        refine j_ifN_eq (pc := 57) X (a := 0) (by omega) (tgt := 76) dX4_nextChoice_57 (by decide) (fun c_57 => ?_) (fun c_57 => ?_)
        · skip
          refine j_iinc (pc := 76) X (v := nI (e + 1)) (lv' := [(5, .int (nI (e + 1))), (6, .int (nI 0)), (0, .ref qp), (1, .ref qc), (2, .int (nI b)), (3, .int (oI (la b))), (4, .int (oI w))]) dX4_nextChoice_76 6 rfl (nI_1 _) (by decide) rfl ?_
          refine j_goto (pc := 79) X (tgt := 13) dX4_nextChoice_79 (by decide) ?_
          refine j_lv [2, 3, 4, 5, 6, 0] (lv' := [(0, .ref qp), (1, .ref qc), (2, .int (nI b)), (3, .int (oI (la b))), (4, .int (oI w)), (5, .int (nI (e + 1)))]) rfl ?_
          exact ih (e + 1) w (by omega) (by first | (simp only [nxt]; rw [← hw]; simp [laO, c_19, c_29, c_57]; done) | (simp only [nxt]; rw [← hw]; simp [laO, hj, c_19, c_29, c_57]; done)) (by first | exact hwo | exact ob_s (by omega)) (by omega)
        · skip
          exact absurd c_57 (by decide)
      · skip
        refine j_iload_n (pc := 32) X dX4_nextChoice_32 rfl 3 rfl ?_
        refine j_iconst (pc := 33) X (v := oI none) dX4_nextChoice_33 (by decide) ?_
        refine j_icmpZ_eq (pc := 34) X (a := (la b)) (by first | exact ob_n | exact (hla _).big (by decide) | exact hwo.big (by decide)) (tgt := 48) dX4_nextChoice_34 (by decide) (fun c_34 => ?_) (fun c_34 => ?_)
        · skip
          refine j_iconst (pc := 48) X (v := nI 1) dX4_nextChoice_48 (by decide) ?_
          refine j_goto (pc := 49) X (tgt := 53) dX4_nextChoice_49 (by decide) ?_
          refine j_istore (pc := 53) X (lv' := [(6, .int (nI 1)), (0, .ref qp), (1, .ref qc), (2, .int (nI b)), (3, .int (oI (la b))), (4, .int (oI w)), (5, .int (nI e))]) dX4_nextChoice_53 (by decide) rfl ?_
          refine j_iload (pc := 55) X dX4_nextChoice_55 0 rfl ?_
          refine j_ifN_eq (pc := 57) X (a := 1) (by omega) (tgt := 76) dX4_nextChoice_57 (by decide) (fun c_57 => ?_) (fun c_57 => ?_)
          · skip
            exact absurd c_57 (by decide)
          · skip
            refine j_aload_n (pc := 60) X dX4_nextChoice_60 rfl 2 rfl ?_
            refine j_iload_n (pc := 61) X dX4_nextChoice_61 rfl 3 rfl ?_
            refine j_iload (pc := 62) X dX4_nextChoice_62 6 rfl ?_
            refine j_iload (pc := 64) X dX4_nextChoice_64 5 rfl ?_
            refine j_ciP (pc := 66) X [2, 4] rfl (j_rVN X (b := qc) (As := [.int (nI b), .int (nI e), .int (oI w)]) (ci := 0) (rest := []) 3 (mX0_beginnerPrefers l G qc qc0 qc1 qc2 qc3 el be lb b e w (by first | assumption | omega | exact ob_s (by omega) | exact ob_n) (by first | assumption | omega | exact ob_s (by omega) | exact ob_n) (by first | assumption | omega | exact ob_s (by omega) | exact ob_n) (by first | assumption | omega | exact ob_s (by omega) | exact ob_n)) gX4_nextChoice_X0_beginnerPrefers_n68 rfl rfl rfl (by decide +kernel) (by decide +kernel) (by decide +kernel) (by decide +kernel) (by decide +kernel) ⟨Nat.le_of_ble_eq_true rfl, Nat.le_of_ble_eq_true rfl⟩ rfl rfl 0 rfl [2, 4] rfl rfl rfl (Nat.le_of_ble_eq_true rfl) dX4_nextChoice_66 ⟨Nat.le_of_ble_eq_true rfl, Nat.le_of_ble_eq_true rfl⟩) ?_
            refine j_ifb_eq (pc := 69) X (B := prBO lb b e w) (tgt := 76) dX4_nextChoice_69 (by decide) (fun c_69 => ?_) (fun c_69 => ?_)
            · skip
              refine j_iinc (pc := 76) X (v := nI (e + 1)) (lv' := [(5, .int (nI (e + 1))), (6, .int (nI 1)), (0, .ref qp), (1, .ref qc), (2, .int (nI b)), (3, .int (oI (la b))), (4, .int (oI w))]) dX4_nextChoice_76 6 rfl (nI_1 _) (by decide) rfl ?_
              refine j_goto (pc := 79) X (tgt := 13) dX4_nextChoice_79 (by decide) ?_
              refine j_lv [2, 3, 4, 5, 6, 0] (lv' := [(0, .ref qp), (1, .ref qc), (2, .int (nI b)), (3, .int (oI (la b))), (4, .int (oI w)), (5, .int (nI (e + 1)))]) rfl ?_
              exact ih (e + 1) w (by omega) (by first | (simp only [nxt]; rw [← hw]; simp [laO, c_19, c_29, c_34, c_57, c_69]; done) | (simp only [nxt]; rw [← hw]; simp [laO, hj, c_19, c_29, c_34, c_57, c_69]; done)) (by first | exact hwo | exact ob_s (by omega)) (by omega)
            · skip
              refine j_iload (pc := 72) X dX4_nextChoice_72 6 rfl ?_
              refine j_istore (pc := 74) X (lv' := [(4, .int (nI e)), (6, .int (nI 1)), (0, .ref qp), (1, .ref qc), (2, .int (nI b)), (3, .int (oI (la b))), (5, .int (nI e))]) dX4_nextChoice_74 (by decide) rfl ?_
              refine j_iinc (pc := 76) X (v := nI (e + 1)) (lv' := [(5, .int (nI (e + 1))), (4, .int (nI e)), (6, .int (nI 1)), (0, .ref qp), (1, .ref qc), (2, .int (nI b)), (3, .int (oI (la b)))]) dX4_nextChoice_76 6 rfl (nI_1 _) (by decide) rfl ?_
              refine j_goto (pc := 79) X (tgt := 13) dX4_nextChoice_79 (by decide) ?_
              refine j_lv [3, 4, 5, 6, 1, 0] (lv' := [(0, .ref qp), (1, .ref qc), (2, .int (nI b)), (3, .int (oI (la b))), (4, .int (nI e)), (5, .int (nI (e + 1)))]) rfl ?_
              refine j_lvq (lv' := [(0, .ref qp), (1, .ref qc), (2, .int (nI b)), (3, .int (oI (la b))), (4, .int (oI (some e))), (5, .int (nI (e + 1)))]) rfl ?_
              exact ih (e + 1) (some e) (by omega) (by first | (simp only [nxt]; rw [← hw]; simp [laO, c_19, c_29, c_34, c_57, c_69]; done) | (simp only [nxt]; rw [← hw]; simp [laO, hj, c_19, c_29, c_34, c_57, c_69]; done)) (by first | exact hwo | exact ob_s (by omega)) (by omega)
        · skip
          obtain ⟨j, hj⟩ := Option.ne_none_iff_exists'.mp c_34; have hj12 := hla _ _ hj
          refine j_lvq (lv' := [(0, .ref qp), (1, .ref qc), (2, .int (nI b)), (3, .int (nI j)), (4, .int (oI w)), (5, .int (nI e))]) (by rw [hj] <;> rfl) ?_
          refine j_aload_n (pc := 37) X dX4_nextChoice_37 rfl 1 rfl ?_
          refine j_iload_n (pc := 38) X dX4_nextChoice_38 rfl 2 rfl ?_
          refine j_iload_n (pc := 39) X dX4_nextChoice_39 rfl 3 rfl ?_
          refine j_iload (pc := 40) X dX4_nextChoice_40 5 rfl ?_
          refine j_ciP (pc := 42) X [2, 4] rfl (j_rVN X (b := qc) (As := [.int (nI b), .int (nI j), .int (nI e)]) (ci := 0) (rest := []) 3 (mX0_beginnerPrefers l G qc qc0 qc1 qc2 qc3 el be lb b j (some e) (by first | assumption | omega | exact ob_s (by omega) | exact ob_n) (by first | assumption | omega | exact ob_s (by omega) | exact ob_n) (by first | assumption | omega | exact ob_s (by omega) | exact ob_n) (by first | assumption | omega | exact ob_s (by omega) | exact ob_n)) gX4_nextChoice_X0_beginnerPrefers_n68 rfl rfl rfl (by decide +kernel) (by decide +kernel) (by decide +kernel) (by decide +kernel) (by decide +kernel) ⟨Nat.le_of_ble_eq_true rfl, Nat.le_of_ble_eq_true rfl⟩ rfl rfl 0 rfl [2, 4] rfl rfl rfl (Nat.le_of_ble_eq_true rfl) dX4_nextChoice_42 ⟨Nat.le_of_ble_eq_true rfl, Nat.le_of_ble_eq_true rfl⟩) ?_
          refine j_ifb_eq (pc := 45) X (B := prBO lb b j (some e)) (tgt := 52) dX4_nextChoice_45 (by decide) (fun c_45 => ?_) (fun c_45 => ?_)
          · skip
            refine j_iconst (pc := 52) X (v := nI 0) dX4_nextChoice_52 (by decide) ?_
            refine j_istore (pc := 53) X (lv' := [(6, .int (nI 0)), (0, .ref qp), (1, .ref qc), (2, .int (nI b)), (3, .int (nI j)), (4, .int (oI w)), (5, .int (nI e))]) dX4_nextChoice_53 (by decide) rfl ?_
            refine j_iload (pc := 55) X dX4_nextChoice_55 0 rfl ?_
            refine j_ifN_eq (pc := 57) X (a := 0) (by omega) (tgt := 76) dX4_nextChoice_57 (by decide) (fun c_57 => ?_) (fun c_57 => ?_)
            · skip
              refine j_iinc (pc := 76) X (v := nI (e + 1)) (lv' := [(5, .int (nI (e + 1))), (6, .int (nI 0)), (0, .ref qp), (1, .ref qc), (2, .int (nI b)), (3, .int (nI j)), (4, .int (oI w))]) dX4_nextChoice_76 6 rfl (nI_1 _) (by decide) rfl ?_
              refine j_goto (pc := 79) X (tgt := 13) dX4_nextChoice_79 (by decide) ?_
              refine j_lv [2, 3, 4, 5, 6, 0] (lv' := [(0, .ref qp), (1, .ref qc), (2, .int (nI b)), (3, .int (nI j)), (4, .int (oI w)), (5, .int (nI (e + 1)))]) rfl ?_
              refine j_lvq (lv' := [(0, .ref qp), (1, .ref qc), (2, .int (nI b)), (3, .int (oI (la b))), (4, .int (oI w)), (5, .int (nI (e + 1)))]) ?_ ?_
              · (first | rfl | (rw [hj]; rfl))
              exact ih (e + 1) w (by omega) (by first | (simp only [nxt]; rw [← hw]; simp [laO, c_19, c_29, c_34, c_45, c_57]; done) | (simp only [nxt]; rw [← hw]; simp [laO, hj, c_19, c_29, c_34, c_45, c_57]; done)) (by first | exact hwo | exact ob_s (by omega)) (by omega)
            · skip
              exact absurd c_57 (by decide)
          · skip
            refine j_iconst (pc := 48) X (v := nI 1) dX4_nextChoice_48 (by decide) ?_
            refine j_goto (pc := 49) X (tgt := 53) dX4_nextChoice_49 (by decide) ?_
            refine j_istore (pc := 53) X (lv' := [(6, .int (nI 1)), (0, .ref qp), (1, .ref qc), (2, .int (nI b)), (3, .int (nI j)), (4, .int (oI w)), (5, .int (nI e))]) dX4_nextChoice_53 (by decide) rfl ?_
            refine j_iload (pc := 55) X dX4_nextChoice_55 0 rfl ?_
            refine j_ifN_eq (pc := 57) X (a := 1) (by omega) (tgt := 76) dX4_nextChoice_57 (by decide) (fun c_57 => ?_) (fun c_57 => ?_)
            · skip
              exact absurd c_57 (by decide)
            · skip
              refine j_aload_n (pc := 60) X dX4_nextChoice_60 rfl 2 rfl ?_
              refine j_iload_n (pc := 61) X dX4_nextChoice_61 rfl 3 rfl ?_
              refine j_iload (pc := 62) X dX4_nextChoice_62 6 rfl ?_
              refine j_iload (pc := 64) X dX4_nextChoice_64 5 rfl ?_
              refine j_ciP (pc := 66) X [2, 4] rfl (j_rVN X (b := qc) (As := [.int (nI b), .int (nI e), .int (oI w)]) (ci := 0) (rest := []) 3 (mX0_beginnerPrefers l G qc qc0 qc1 qc2 qc3 el be lb b e w (by first | assumption | omega | exact ob_s (by omega) | exact ob_n) (by first | assumption | omega | exact ob_s (by omega) | exact ob_n) (by first | assumption | omega | exact ob_s (by omega) | exact ob_n) (by first | assumption | omega | exact ob_s (by omega) | exact ob_n)) gX4_nextChoice_X0_beginnerPrefers_n68 rfl rfl rfl (by decide +kernel) (by decide +kernel) (by decide +kernel) (by decide +kernel) (by decide +kernel) ⟨Nat.le_of_ble_eq_true rfl, Nat.le_of_ble_eq_true rfl⟩ rfl rfl 0 rfl [2, 4] rfl rfl rfl (Nat.le_of_ble_eq_true rfl) dX4_nextChoice_66 ⟨Nat.le_of_ble_eq_true rfl, Nat.le_of_ble_eq_true rfl⟩) ?_
              refine j_ifb_eq (pc := 69) X (B := prBO lb b e w) (tgt := 76) dX4_nextChoice_69 (by decide) (fun c_69 => ?_) (fun c_69 => ?_)
              · skip
                refine j_iinc (pc := 76) X (v := nI (e + 1)) (lv' := [(5, .int (nI (e + 1))), (6, .int (nI 1)), (0, .ref qp), (1, .ref qc), (2, .int (nI b)), (3, .int (nI j)), (4, .int (oI w))]) dX4_nextChoice_76 6 rfl (nI_1 _) (by decide) rfl ?_
                refine j_goto (pc := 79) X (tgt := 13) dX4_nextChoice_79 (by decide) ?_
                refine j_lv [2, 3, 4, 5, 6, 0] (lv' := [(0, .ref qp), (1, .ref qc), (2, .int (nI b)), (3, .int (nI j)), (4, .int (oI w)), (5, .int (nI (e + 1)))]) rfl ?_
                refine j_lvq (lv' := [(0, .ref qp), (1, .ref qc), (2, .int (nI b)), (3, .int (oI (la b))), (4, .int (oI w)), (5, .int (nI (e + 1)))]) ?_ ?_
                · (first | rfl | (rw [hj]; rfl))
                exact ih (e + 1) w (by omega) (by first | (simp only [nxt]; rw [← hw]; simp [laO, c_19, c_29, c_34, c_45, c_57, c_69]; done) | (simp only [nxt]; rw [← hw]; simp [laO, hj, c_19, c_29, c_34, c_45, c_57, c_69]; done)) (by first | exact hwo | exact ob_s (by omega)) (by omega)
              · skip
                refine j_iload (pc := 72) X dX4_nextChoice_72 6 rfl ?_
                refine j_istore (pc := 74) X (lv' := [(4, .int (nI e)), (6, .int (nI 1)), (0, .ref qp), (1, .ref qc), (2, .int (nI b)), (3, .int (nI j)), (5, .int (nI e))]) dX4_nextChoice_74 (by decide) rfl ?_
                refine j_iinc (pc := 76) X (v := nI (e + 1)) (lv' := [(5, .int (nI (e + 1))), (4, .int (nI e)), (6, .int (nI 1)), (0, .ref qp), (1, .ref qc), (2, .int (nI b)), (3, .int (nI j))]) dX4_nextChoice_76 6 rfl (nI_1 _) (by decide) rfl ?_
                refine j_goto (pc := 79) X (tgt := 13) dX4_nextChoice_79 (by decide) ?_
                refine j_lv [3, 4, 5, 6, 1, 0] (lv' := [(0, .ref qp), (1, .ref qc), (2, .int (nI b)), (3, .int (nI j)), (4, .int (nI e)), (5, .int (nI (e + 1)))]) rfl ?_
                refine j_lvq (lv' := [(0, .ref qp), (1, .ref qc), (2, .int (nI b)), (3, .int (nI j)), (4, .int (oI (some e))), (5, .int (nI (e + 1)))]) rfl ?_
                refine j_lvq (lv' := [(0, .ref qp), (1, .ref qc), (2, .int (nI b)), (3, .int (oI (la b))), (4, .int (oI (some e))), (5, .int (nI (e + 1)))]) ?_ ?_
                · (first | rfl | (rw [hj]; rfl))
                exact ih (e + 1) (some e) (by omega) (by first | (simp only [nxt]; rw [← hw]; simp [laO, c_19, c_29, c_34, c_45, c_57, c_69]; done) | (simp only [nxt]; rw [← hw]; simp [laO, hj, c_19, c_29, c_34, c_45, c_57, c_69]; done)) (by first | exact hwo | exact ob_s (by omega)) (by omega)
set_option maxHeartbeats 4000000 in
set_option maxRecDepth 100000 in
theorem mX4_nextChoice (l : Launch) (G : jG) (qp : Nat) (qp0 : Nat) (qp1 : Nat) (gv : Bool) (la : Nat → Option Nat) (qc : Nat) (qc0 : Nat) (qc1 : Nat) (qc2 : Nat) (qc3 : Nat) (el : Nat) (be : Nat) (le : Nat → Nat) (lb : Nat → Nat) (br : Nat → Bool) (b : Nat) (hel : el ≤ 12) (hbe : be ≤ 16) (hle : ∀ k, le k ≤ 100) (hlb : ∀ k, lb k ≤ 100) (hla : ∀ k, ob 12 (la k)) (hb : b < 16) : MV l yX4_nextChoice wsX4_nextChoice ({ frames := 2, cells := 0, slots := 0, locals := 46 }) G [.ref qp, .ref qc, .int (nI b)] [(qp, .inr (4, [.ref qp0, .ref qp1, .int (b2i gv)])), kI G qp1 16 (oF la), (qc, .inr (0, [.ref qc0, .ref qc1, .ref qc2, .ref qc3, .int (nI el), .int (nI be)])), kI G qc1 192 (nF le), kI G qc2 192 (nF lb), kZ G qc3 192 (bF br)] (some (.int (oI (nxt le lb br b (la b) el)))) [(qp, .inr (4, [.ref qp0, .ref qp1, .int (b2i gv)])), kI G qp1 16 (oF la), (qc, .inr (0, [.ref qc0, .ref qc1, .ref qc2, .ref qc3, .int (nI el), .int (nI be)])), kI G qc1 192 (nF le), kI G qc2 192 (nF lb), kZ G qc3 192 (bF br)] := by
  refine MF.ofJ (cc := cX4_nextChoice) (maxL := 7) (ret := (some .int)) (own := RX4) (lv := [(0, .ref qp), (1, .ref qc), (2, .int (nI b))]) (by decide) rfl rfl (Nat.le_of_ble_eq_true rfl) rfl ?_
  intro κ X
  have i_X0 : ∀ w ∈ wsX00, w ∈ wsX4_nextChoice := by decide +kernel
  have i_X4 : ∀ w ∈ wsX40, w ∈ wsX4_nextChoice := by decide +kernel
  refine j_aload_n (pc := 0) X dX4_nextChoice_0 rfl 0 rfl ?_
  refine j_get (pc := 1) X 4 i_X4 0 rfl rfl 1 (by decide) (by decide +kernel) rfl dX4_nextChoice_1 ?_
  refine j_iload_n (pc := 4) X dX4_nextChoice_4 rfl 2 rfl ?_
  refine j_iald (pc := 5) X 1 rfl (vp_in_nI (by omega) (by decide)) (v := oI (la b)) (congrArg (oF la) (nI_clamp (by omega))) dX4_nextChoice_5 ?_
  refine j_istore_n (pc := 6) X (lv' := [(3, .int (oI (la b))), (0, .ref qp), (1, .ref qc), (2, .int (nI b))]) dX4_nextChoice_6 rfl (by decide) rfl ?_
  refine j_iconst (pc := 7) X (v := oI none) dX4_nextChoice_7 (by decide) ?_
  refine j_istore (pc := 8) X (lv' := [(4, .int (oI none)), (3, .int (oI (la b))), (0, .ref qp), (1, .ref qc), (2, .int (nI b))]) dX4_nextChoice_8 (by decide) rfl ?_
  refine j_iconst (pc := 10) X (v := nI 0) dX4_nextChoice_10 (by decide) ?_
  refine j_istore (pc := 11) X (lv' := [(5, .int (nI 0)), (4, .int (oI none)), (3, .int (oI (la b))), (0, .ref qp), (1, .ref qc), (2, .int (nI b))]) dX4_nextChoice_11 (by decide) rfl ?_
  refine j_lv [3, 4, 5, 2, 1, 0] (lv' := [(0, .ref qp), (1, .ref qc), (2, .int (nI b)), (3, .int (oI (la b))), (4, .int (oI none)), (5, .int (nI 0))]) rfl ?_
  exact mX4_nextChoice_L13 l G qp qp0 qp1 gv la qc qc0 qc1 qc2 qc3 el be le lb br b hel hbe hle hlb hla hb κ X    (el - 0 + 1) 0 none (by omega) (by rfl) (ob_n) (Nat.lt_succ_self _)

set_option maxHeartbeats 4000000 in
set_option maxRecDepth 100000 in
theorem mX4_askFor (l : Launch) (G : jG) (qp : Nat) (qp0 : Nat) (qp1 : Nat) (gv : Bool) (eb : Nat → Option Nat) (qc : Nat) (qc0 : Nat) (qc1 : Nat) (qc2 : Nat) (qc3 : Nat) (el : Nat) (be : Nat) (pl : Nat → Nat) (le : Nat → Nat) (e : Nat) (a : Nat) (heb : ∀ k, ob 12 (eb k)) (hbe : be ≤ 16) (hle : ∀ k, le k ≤ 100) (hpl : ∀ k, pl k ≤ 4) (he : e < 12) (ha : a < 16) : MV l yX4_askFor wsX4_askFor ({ frames := 3, cells := 0, slots := 0, locals := 70 }) G [.ref qp, .ref qc, .int (nI e), .int (nI a)] [(qp, .inr (4, [.ref qp0, .ref qp1, .int (b2i gv)])), kI G qp0 16 (oF eb), (qc, .inr (0, [.ref qc0, .ref qc1, .ref qc2, .ref qc3, .int (nI el), .int (nI be)])), kI G qc0 12 (nF pl), kI G qc1 192 (nF le)] (some (.int (oI ((askF pl le eb be e a).2)))) [(qp, .inr (4, [.ref qp0, .ref qp1, .int (b2i gv)])), kI G qp0 16 (oF ((askF pl le eb be e a).1)), (qc, .inr (0, [.ref qc0, .ref qc1, .ref qc2, .ref qc3, .int (nI el), .int (nI be)])), kI G qc0 12 (nF pl), kI G qc1 192 (nF le)] := by
  refine MF.ofJ (cc := cX4_askFor) (maxL := 5) (ret := (some .int)) (own := RX4) (lv := [(0, .ref qp), (1, .ref qc), (2, .int (nI e)), (3, .int (nI a))]) (by decide) rfl rfl (Nat.le_of_ble_eq_true rfl) rfl ?_
  intro κ X
  have i_X0 : ∀ w ∈ wsX00, w ∈ wsX4_askFor := by decide +kernel
  have i_X4 : ∀ w ∈ wsX40, w ∈ wsX4_askFor := by decide +kernel
  refine j_iconst (pc := 0) X (v := oI none) dX4_askFor_0 (by decide) ?_
  refine j_istore (pc := 1) X (lv' := [(4, .int (oI none)), (0, .ref qp), (1, .ref qc), (2, .int (nI e)), (3, .int (nI a))]) dX4_askFor_1 (by decide) rfl ?_
  refine j_aload_n (pc := 3) X dX4_askFor_3 rfl 1 rfl ?_
  refine j_aload_n (pc := 4) X dX4_askFor_4 rfl 2 rfl ?_
  refine j_iload_n (pc := 5) X dX4_askFor_5 rfl 3 rfl ?_
  refine j_ciP (pc := 6) X [0, 1, 2, 3] rfl (j_rV X (b := qp) (As := [.ref qc, .int (nI e)]) (ci := 4) (rest := []) 2 (mX4_hasPlaceLeft l G qp qp0 qp1 gv eb qc qc0 qc1 qc2 qc3 el be pl e (by first | assumption | omega | exact ob_s (by omega) | exact ob_n) (by first | assumption | omega | exact ob_s (by omega) | exact ob_n) (by first | assumption | omega | exact ob_s (by omega) | exact ob_n)) gX4_askFor_X4_hasPlaceLeft rfl rfl rfl (by decide +kernel) ⟨Nat.le_of_ble_eq_true rfl, Nat.le_of_ble_eq_true rfl⟩ rfl rfl 0 rfl [0, 1, 2, 3] rfl rfl rfl (Nat.le_of_ble_eq_true rfl) dX4_askFor_6 ⟨Nat.le_of_ble_eq_true rfl, Nat.le_of_ble_eq_true rfl⟩) ?_
  refine j_ifd_ne (pc := 9) X (P := cntO eb e 16 < pl e) (tgt := 47) dX4_askFor_9 (by decide) (fun c_9 => ?_) (fun c_9 => ?_)
  · skip
    refine j_aload_n (pc := 47) X dX4_askFor_47 rfl 1 rfl ?_
    refine j_get (pc := 48) X 4 i_X4 0 rfl rfl 0 (by decide) (by decide +kernel) rfl dX4_askFor_48 ?_
    refine j_iload_n (pc := 51) X dX4_askFor_51 rfl 4 rfl ?_
    refine j_iload_n (pc := 52) X dX4_askFor_52 rfl 3 rfl ?_
    refine j_iast (pc := 53) X (f2 := (oF (va_up eb a (some e)))) (ws' := [(qp, .inr (4, [.ref qp0, .ref qp1, .int (b2i gv)])), kI G qp0 16 (oF (va_up eb a (some e))), (qc, .inr (0, [.ref qc0, .ref qc1, .ref qc2, .ref qc3, .int (nI el), .int (nI be)])), kI G qc0 12 (nF pl), kI G qc1 192 (nF le)]) 1 rfl (vp_in_nI (by omega) (by decide)) dX4_askFor_53 (by rw [nI_clamp (by omega)]; exact oF_up eb a (some e)) rfl ?_
    refine j_iload (pc := 54) X dX4_askFor_54 0 rfl ?_
    have hs : askF pl le eb be e a = (va_up eb a (some e), none) := by first | (simp [askF, c_9]; done) | (simp [askF, hw, c_9]; done)
    refine j_iret (pc := 56) X dX4_askFor_56 ?_
    rw [hs]; exact ⟨rfl, rfl⟩
  · skip
    refine j_aload_n (pc := 12) X dX4_askFor_12 rfl 1 rfl ?_
    refine j_aload_n (pc := 13) X dX4_askFor_13 rfl 2 rfl ?_
    refine j_iload_n (pc := 14) X dX4_askFor_14 rfl 3 rfl ?_
    refine j_ciP (pc := 15) X [0, 1, 2, 4] rfl (j_rV X (b := qp) (As := [.ref qc, .int (nI e)]) (ci := 4) (rest := []) 2 (mX4_leastOf l G qp qp0 qp1 gv eb qc qc0 qc1 qc2 qc3 el be le e (by first | assumption | omega | exact ob_s (by omega) | exact ob_n) (by first | assumption | omega | exact ob_s (by omega) | exact ob_n) (by first | assumption | omega | exact ob_s (by omega) | exact ob_n) (by first | assumption | omega | exact ob_s (by omega) | exact ob_n)) gX4_askFor_X4_leastOf rfl rfl rfl (by decide +kernel) ⟨Nat.le_of_ble_eq_true rfl, Nat.le_of_ble_eq_true rfl⟩ rfl rfl 0 rfl [0, 1, 2, 4] rfl rfl rfl (Nat.le_of_ble_eq_true rfl) dX4_askFor_15 ⟨Nat.le_of_ble_eq_true rfl, Nat.le_of_ble_eq_true rfl⟩) ?_
    refine j_istore (pc := 18) X (lv' := [(4, .int (oI (lst le eb e be))), (0, .ref qp), (1, .ref qc), (2, .int (nI e)), (3, .int (nI a))]) dX4_askFor_18 (by decide) rfl ?_
    refine j_iload (pc := 20) X dX4_askFor_20 0 rfl ?_
    refine j_iconst (pc := 22) X (v := oI none) dX4_askFor_22 (by decide) ?_
    refine j_icmpZ_eq (pc := 23) X (a := (lst le eb e be)) (by first | exact ob_n | exact (lst_ob _ _ _ _).big (by omega)) (tgt := 37) dX4_askFor_23 (by decide) (fun c_23 => ?_) (fun c_23 => ?_)
    · skip
      refine j_iload_n (pc := 37) X dX4_askFor_37 rfl 4 rfl ?_
      have hs : askF pl le eb be e a = (eb, some a) := by first | (simp [askF, c_9, c_23]; done) | (simp [askF, hw, c_9, c_23]; done)
      refine j_iret (pc := 38) X dX4_askFor_38 ?_
      rw [hs]; exact ⟨rfl, rfl⟩
    · skip
      obtain ⟨w, hw⟩ := Option.ne_none_iff_exists'.mp c_23; have hw16 := lst_ob le eb e be w hw
      refine j_lvq (lv' := [(4, .int (nI w)), (0, .ref qp), (1, .ref qc), (2, .int (nI e)), (3, .int (nI a))]) (by rw [hw] <;> rfl) ?_
      refine j_aload_n (pc := 26) X dX4_askFor_26 rfl 2 rfl ?_
      refine j_iload_n (pc := 27) X dX4_askFor_27 rfl 3 rfl ?_
      refine j_iload_n (pc := 28) X dX4_askFor_28 rfl 4 rfl ?_
      refine j_iload (pc := 29) X dX4_askFor_29 0 rfl ?_
      refine j_ciP (pc := 31) X [2, 4] rfl (j_rVN X (b := qc) (As := [.int (nI e), .int (nI a), .int (nI w)]) (ci := 0) (rest := []) 3 (mX0_elderPrefers l G qc qc0 qc1 qc2 qc3 el be le e a w (by first | assumption | omega | exact ob_s (by omega) | exact ob_n) (by first | assumption | omega | exact ob_s (by omega) | exact ob_n) (by first | assumption | omega | exact ob_s (by omega) | exact ob_n) (by first | assumption | omega | exact ob_s (by omega) | exact ob_n)) gX4_askFor_X0_elderPrefers_n41 rfl rfl rfl (by decide +kernel) (by decide +kernel) (by decide +kernel) (by decide +kernel) (by decide +kernel) ⟨Nat.le_of_ble_eq_true rfl, Nat.le_of_ble_eq_true rfl⟩ rfl rfl 0 rfl [2, 4] rfl rfl rfl (Nat.le_of_ble_eq_true rfl) dX4_askFor_31 ⟨Nat.le_of_ble_eq_true rfl, Nat.le_of_ble_eq_true rfl⟩) ?_
      refine j_ifb_ne (pc := 34) X (B := prE le e a w) (tgt := 39) dX4_askFor_34 (by decide) (fun c_34 => ?_) (fun c_34 => ?_)
      · skip
        refine j_aload_n (pc := 39) X dX4_askFor_39 rfl 1 rfl ?_
        refine j_get (pc := 40) X 4 i_X4 0 rfl rfl 0 (by decide) (by decide +kernel) rfl dX4_askFor_40 ?_
        refine j_iload (pc := 43) X dX4_askFor_43 0 rfl ?_
        refine j_iconst (pc := 45) X (v := oI none) dX4_askFor_45 (by decide) ?_
        refine j_iast (pc := 46) X (f2 := (oF (va_up eb w none))) (ws' := [(qp, .inr (4, [.ref qp0, .ref qp1, .int (b2i gv)])), kI G qp0 16 (oF (va_up eb w none)), (qc, .inr (0, [.ref qc0, .ref qc1, .ref qc2, .ref qc3, .int (nI el), .int (nI be)])), kI G qc0 12 (nF pl), kI G qc1 192 (nF le)]) 1 rfl (vp_in_nI (by omega) (by decide)) dX4_askFor_46 (by rw [nI_clamp (by omega)]; exact oF_up eb w none) rfl ?_
        refine j_aload_n (pc := 47) X dX4_askFor_47 rfl 1 rfl ?_
        refine j_get (pc := 48) X 4 i_X4 0 rfl rfl 0 (by decide) (by decide +kernel) rfl dX4_askFor_48 ?_
        refine j_iload_n (pc := 51) X dX4_askFor_51 rfl 4 rfl ?_
        refine j_iload_n (pc := 52) X dX4_askFor_52 rfl 3 rfl ?_
        refine j_iast (pc := 53) X (f2 := (oF (va_up (va_up eb w none) a (some e)))) (ws' := [(qp, .inr (4, [.ref qp0, .ref qp1, .int (b2i gv)])), kI G qp0 16 (oF (va_up (va_up eb w none) a (some e))), (qc, .inr (0, [.ref qc0, .ref qc1, .ref qc2, .ref qc3, .int (nI el), .int (nI be)])), kI G qc0 12 (nF pl), kI G qc1 192 (nF le)]) 1 rfl (vp_in_nI (by omega) (by decide)) dX4_askFor_53 (by rw [nI_clamp (by omega)]; exact oF_up (va_up eb w none) a (some e)) rfl ?_
        refine j_iload (pc := 54) X dX4_askFor_54 0 rfl ?_
        have hs : askF pl le eb be e a = (va_up (va_up eb w none) a (some e), some w) := by first | (simp [askF, c_9, c_23, c_34]; done) | (simp [askF, hw, c_9, c_23, c_34]; done)
        refine j_iret (pc := 56) X dX4_askFor_56 ?_
        rw [hs]; exact ⟨rfl, rfl⟩
      · skip
        refine j_iload_n (pc := 37) X dX4_askFor_37 rfl 4 rfl ?_
        have hs : askF pl le eb be e a = (eb, some a) := by first | (simp [askF, c_9, c_23, c_34]; done) | (simp [askF, hw, c_9, c_23, c_34]; done)
        refine j_iret (pc := 38) X dX4_askFor_38 ?_
        rw [hs]; exact ⟨rfl, rfl⟩

set_option maxHeartbeats 4000000 in
set_option maxRecDepth 100000 in
theorem mX4_seat_L5 (l : Launch) (G : jG) (qp : Nat) (qp0 : Nat) (qp1 : Nat) (gv : Bool) (eb : Nat → Option Nat) (la : Nat → Option Nat) (qc : Nat) (qc0 : Nat) (qc1 : Nat) (qc2 : Nat) (qc3 : Nat) (el : Nat) (be : Nat) (pl : Nat → Nat) (le : Nat → Nat) (lb : Nat → Nat) (br : Nat → Bool) (b : Nat) (hel : el ≤ 12) (hbe : be ≤ 16) (hle : ∀ k, le k ≤ 100) (hlb : ∀ k, lb k ≤ 100) (hpl : ∀ k, pl k ≤ 4) (heb : ∀ k, ob 12 (eb k)) (hla : ∀ k, ob 12 (la k)) (hb : b < 16) (κ : jK) (X : CX κ l yX4_seat cX4_seat 6 RX4 wsX4_seat none ({ frames := 4, cells := 0, slots := 0, locals := 94 }) G (va_A [(qp, .inr (4, [.ref qp0, .ref qp1, .int (b2i gv)])), kI G qp0 16 (oF eb), kI G qp1 16 (oF la), (qc, .inr (0, [.ref qc0, .ref qc1, .ref qc2, .ref qc3, .int (nI el), .int (nI be)])), kI G qc0 12 (nF pl), kI G qc1 192 (nF le), kI G qc2 192 (nF lb), kZ G qc3 192 (bF br)] (js κ).heap.size))    : ∀ (fu : Nat) (st : Nat) (e2 : Nat → Option Nat) (l2 : Nat → Option Nat) (sk : Option Nat) (hs : st ≤ 192) (he2 : ∀ k, ob 12 (e2 k)) (hl2 : ∀ k, ob 12 (l2 k)) (hsk : ob 16 sk) (hq : seatF pl le lb br el be (192 - st) e2 l2 sk = seatF pl le lb br el be 192 eb la (some b)) (_ : 192 - st < fu), JJ κ 6 G (va_A [(qp, .inr (4, [.ref qp0, .ref qp1, .int (b2i gv)])), kI G qp0 16 (oF eb), kI G qp1 16 (oF la), (qc, .inr (0, [.ref qc0, .ref qc1, .ref qc2, .ref qc3, .int (nI el), .int (nI be)])), kI G qc0 12 (nF pl), kI G qc1 192 (nF le), kI G qc2 192 (nF lb), kZ G qc3 192 (bF br)] (js κ).heap.size) 0 0 (jQ κ G [(qp, .inr (4, [.ref qp0, .ref qp1, .int (b2i gv)])), kI G qp0 16 (oF eb), kI G qp1 16 (oF la), (qc, .inr (0, [.ref qc0, .ref qc1, .ref qc2, .ref qc3, .int (nI el), .int (nI be)])), kI G qc0 12 (nF pl), kI G qc1 192 (nF le), kI G qc2 192 (nF lb), kZ G qc3 192 (bF br)] (fun r w' => r = none ∧ w' = [(qp, .inr (4, [.ref qp0, .ref qp1, .int (b2i gv)])), kI G qp0 16 (oF ((seatF pl le lb br el be 192 eb la (some b)).1)), kI G qp1 16 (oF ((seatF pl le lb br el be 192 eb la (some b)).2)), (qc, .inr (0, [.ref qc0, .ref qc1, .ref qc2, .ref qc3, .int (nI el), .int (nI be)])), kI G qc0 12 (nF pl), kI G qc1 192 (nF le), kI G qc2 192 (nF lb), kZ G qc3 192 (bF br)]) 0 0) 5 [(0, .ref qp), (1, .ref qc), (3, .int (oI sk)), (4, .int (nI st))] [] [(qp, .inr (4, [.ref qp0, .ref qp1, .int (b2i gv)])), kI G qp0 16 (oF e2), kI G qp1 16 (oF l2), (qc, .inr (0, [.ref qc0, .ref qc1, .ref qc2, .ref qc3, .int (nI el), .int (nI be)])), kI G qc0 12 (nF pl), kI G qc1 192 (nF le), kI G qc2 192 (nF lb), kZ G qc3 192 (bF br)] := by
  have i_X0 : ∀ w ∈ wsX00, w ∈ wsX4_seat := by decide +kernel
  have i_X4 : ∀ w ∈ wsX40, w ∈ wsX4_seat := by decide +kernel
  intro fu
  induction fu with
  | zero => intro st e2 l2 sk hs he2 hl2 hsk hq hms; exact absurd hms (Nat.not_lt_zero _)
  | succ fu ih =>
    intro st e2 l2 sk hs he2 hl2 hsk hq hms
    refine j_iload (pc := 5) X dX4_seat_5 3 rfl ?_
    refine j_sipush (pc := 7) X (v := nI 192) dX4_seat_7 (by decide) ?_
    refine j_icmpN_ge (pc := 10) X (a := st) (b := 192) (by omega) (by omega) (tgt := 56) dX4_seat_10 (by decide) (fun c_10 => ?_) (fun c_10 => ?_)
    · skip
      exact j_vret (pc := 56) X dX4_seat_56 ⟨rfl, by rw [← hq, show 192 - st = 0 by omega]; rfl⟩
    · skip
      refine j_iload_n (pc := 13) X dX4_seat_13 rfl 2 rfl ?_
      refine j_iconst (pc := 14) X (v := oI none) dX4_seat_14 (by decide) ?_
      refine j_icmpZ_eq (pc := 15) X (a := sk) (by first | exact hsk.big (by decide) | exact (nxt_ob _ _ _ _ _ _).big (by omega)) (tgt := 56) dX4_seat_15 (by decide) (fun c_15 => ?_) (fun c_15 => ?_)
      · skip
        exact j_vret (pc := 56) X dX4_seat_56 ⟨rfl, by rw [← hq, c_15]; cases 192 - st <;> rfl⟩
      · skip
        obtain ⟨s, rfl⟩ := Option.ne_none_iff_exists'.mp c_15; have hs16 := hsk s rfl
        refine j_aload_n (pc := 18) X dX4_seat_18 rfl 0 rfl ?_
        refine j_aload_n (pc := 19) X dX4_seat_19 rfl 1 rfl ?_
        refine j_iload_n (pc := 20) X dX4_seat_20 rfl 2 rfl ?_
        refine j_ciP (pc := 21) X [0, 2, 3, 5, 6, 7] rfl (j_rV X (b := qp) (As := [.ref qc, .int (nI s)]) (ci := 4) (rest := []) 2 (mX4_nextChoice l G qp qp0 qp1 gv l2 qc qc0 qc1 qc2 qc3 el be le lb br s (by first | assumption | omega | exact ob_s (by omega) | exact ob_n) (by first | assumption | omega | exact ob_s (by omega) | exact ob_n) (by first | assumption | omega | exact ob_s (by omega) | exact ob_n) (by first | assumption | omega | exact ob_s (by omega) | exact ob_n) (by first | assumption | omega | exact ob_s (by omega) | exact ob_n) (by first | assumption | omega | exact ob_s (by omega) | exact ob_n)) gX4_seat_X4_nextChoice rfl rfl rfl (by decide +kernel) ⟨Nat.le_of_ble_eq_true rfl, Nat.le_of_ble_eq_true rfl⟩ rfl rfl 0 rfl [0, 2, 3, 5, 6, 7] rfl rfl rfl (Nat.le_of_ble_eq_true rfl) dX4_seat_21 ⟨Nat.le_of_ble_eq_true rfl, Nat.le_of_ble_eq_true rfl⟩) ?_
        refine j_istore (pc := 24) X (lv' := [(5, .int (oI (nxt le lb br s (l2 s) el))), (0, .ref qp), (1, .ref qc), (3, .int (nI s)), (4, .int (nI st))]) dX4_seat_24 (by decide) rfl ?_
        refine j_iload (pc := 26) X dX4_seat_26 0 rfl ?_
        refine j_iconst (pc := 28) X (v := oI none) dX4_seat_28 (by decide) ?_
        refine j_icmpZ_ne (pc := 29) X (a := (nxt le lb br s (l2 s) el)) (by first | exact hsk.big (by decide) | exact (nxt_ob _ _ _ _ _ _).big (by omega)) (tgt := 33) dX4_seat_29 (by decide) (fun c_29 => ?_) (fun c_29 => ?_)
        · skip
          obtain ⟨ee, hel2⟩ := Option.ne_none_iff_exists'.mp c_29; have hel12 : ee < 12 := (by have := nxt_ob le lb br s (l2 s) el ee hel2; omega)
          refine j_lvq (lv' := [(5, .int (nI ee)), (0, .ref qp), (1, .ref qc), (3, .int (nI s)), (4, .int (nI st))]) (by rw [hel2] <;> rfl) ?_
          refine j_aload_n (pc := 33) X dX4_seat_33 rfl 1 rfl ?_
          refine j_get (pc := 34) X 4 i_X4 0 rfl rfl 1 (by decide) (by decide +kernel) rfl dX4_seat_34 ?_
          refine j_iload_n (pc := 37) X dX4_seat_37 rfl 3 rfl ?_
          refine j_iload (pc := 38) X dX4_seat_38 0 rfl ?_
          refine j_iast (pc := 40) X (f2 := (oF (va_up l2 s (some ee)))) (ws' := [(qp, .inr (4, [.ref qp0, .ref qp1, .int (b2i gv)])), kI G qp0 16 (oF e2), kI G qp1 16 (oF (va_up l2 s (some ee))), (qc, .inr (0, [.ref qc0, .ref qc1, .ref qc2, .ref qc3, .int (nI el), .int (nI be)])), kI G qc0 12 (nF pl), kI G qc1 192 (nF le), kI G qc2 192 (nF lb), kZ G qc3 192 (bF br)]) 2 rfl (vp_in_nI (by omega) (by decide)) dX4_seat_40 (by rw [nI_clamp (by omega)]; exact oF_up l2 s (some ee)) rfl ?_
          refine j_aload_n (pc := 41) X dX4_seat_41 rfl 1 rfl ?_
          refine j_aload_n (pc := 42) X dX4_seat_42 rfl 2 rfl ?_
          refine j_iload (pc := 43) X dX4_seat_43 0 rfl ?_
          refine j_iload_n (pc := 45) X dX4_seat_45 rfl 3 rfl ?_
          refine j_ci (pc := 46) X (ws' := [(qp, .inr (4, [.ref qp0, .ref qp1, .int (b2i gv)])), kI G qp0 16 (oF ((askF pl le e2 be ee s).1)), kI G qp1 16 (oF (va_up l2 s (some ee))), (qc, .inr (0, [.ref qc0, .ref qc1, .ref qc2, .ref qc3, .int (nI el), .int (nI be)])), kI G qc0 12 (nF pl), kI G qc1 192 (nF le), kI G qc2 192 (nF lb), kZ G qc3 192 (bF br)]) [0, 1, 3, 4, 5] rfl (j_rV X (b := qp) (As := [.ref qc, .int (nI ee), .int (nI s)]) (ci := 4) (rest := []) 3 (mX4_askFor l G qp qp0 qp1 gv e2 qc qc0 qc1 qc2 qc3 el be pl le ee s (by first | assumption | omega | exact ob_s (by omega) | exact ob_n) (by first | assumption | omega | exact ob_s (by omega) | exact ob_n) (by first | assumption | omega | exact ob_s (by omega) | exact ob_n) (by first | assumption | omega | exact ob_s (by omega) | exact ob_n) (by first | assumption | omega | exact ob_s (by omega) | exact ob_n) (by first | assumption | omega | exact ob_s (by omega) | exact ob_n)) gX4_seat_X4_askFor rfl rfl rfl (by decide +kernel) ⟨Nat.le_of_ble_eq_true rfl, Nat.le_of_ble_eq_true rfl⟩ rfl rfl 0 rfl [0, 1, 3, 4, 5] rfl rfl rfl (Nat.le_of_ble_eq_true rfl) dX4_seat_46 ⟨Nat.le_of_ble_eq_true rfl, Nat.le_of_ble_eq_true rfl⟩) rfl rfl ?_
          refine j_istore_n (pc := 49) X (lv' := [(3, .int (oI ((askF pl le e2 be ee s).2))), (5, .int (nI ee)), (0, .ref qp), (1, .ref qc), (4, .int (nI st))]) dX4_seat_49 rfl (by decide) rfl ?_
          refine j_iinc (pc := 50) X (v := nI (st + 1)) (lv' := [(4, .int (nI (st + 1))), (3, .int (oI ((askF pl le e2 be ee s).2))), (5, .int (nI ee)), (0, .ref qp), (1, .ref qc)]) dX4_seat_50 4 rfl (nI_1 _) (by decide) rfl ?_
          refine j_goto (pc := 53) X (tgt := 5) dX4_seat_53 (by decide) ?_
          refine j_lv [3, 4, 1, 0] (lv' := [(0, .ref qp), (1, .ref qc), (3, .int (oI ((askF pl le e2 be ee s).2))), (4, .int (nI (st + 1)))]) rfl ?_
          exact ih (st + 1) ((askF pl le e2 be ee s).1) (va_up l2 s (some ee)) ((askF pl le e2 be ee s).2) (by omega) ((askF_ob he2 hel12 hs16 hbe).1) (ob_up hl2 (ob_s hel12)) ((askF_ob he2 hel12 hs16 hbe).2) (by rw [← hq, show 192 - st = (192 - (st + 1)) + 1 by omega]; simp [seatF, hel2]) (by omega)
        · skip
          exact j_vret (pc := 32) X dX4_seat_32 ⟨rfl, by rw [← hq, show 192 - st = (191 - st) + 1 by omega]; simp [seatF, c_29]⟩
set_option maxHeartbeats 4000000 in
set_option maxRecDepth 100000 in
theorem mX4_seat (l : Launch) (G : jG) (qp : Nat) (qp0 : Nat) (qp1 : Nat) (gv : Bool) (eb : Nat → Option Nat) (la : Nat → Option Nat) (qc : Nat) (qc0 : Nat) (qc1 : Nat) (qc2 : Nat) (qc3 : Nat) (el : Nat) (be : Nat) (pl : Nat → Nat) (le : Nat → Nat) (lb : Nat → Nat) (br : Nat → Bool) (b : Nat) (hel : el ≤ 12) (hbe : be ≤ 16) (hle : ∀ k, le k ≤ 100) (hlb : ∀ k, lb k ≤ 100) (hpl : ∀ k, pl k ≤ 4) (heb : ∀ k, ob 12 (eb k)) (hla : ∀ k, ob 12 (la k)) (hb : b < 16) : MV l yX4_seat wsX4_seat ({ frames := 4, cells := 0, slots := 0, locals := 94 }) G [.ref qp, .ref qc, .int (nI b)] [(qp, .inr (4, [.ref qp0, .ref qp1, .int (b2i gv)])), kI G qp0 16 (oF eb), kI G qp1 16 (oF la), (qc, .inr (0, [.ref qc0, .ref qc1, .ref qc2, .ref qc3, .int (nI el), .int (nI be)])), kI G qc0 12 (nF pl), kI G qc1 192 (nF le), kI G qc2 192 (nF lb), kZ G qc3 192 (bF br)] (none) [(qp, .inr (4, [.ref qp0, .ref qp1, .int (b2i gv)])), kI G qp0 16 (oF ((seatF pl le lb br el be 192 eb la (some b)).1)), kI G qp1 16 (oF ((seatF pl le lb br el be 192 eb la (some b)).2)), (qc, .inr (0, [.ref qc0, .ref qc1, .ref qc2, .ref qc3, .int (nI el), .int (nI be)])), kI G qc0 12 (nF pl), kI G qc1 192 (nF le), kI G qc2 192 (nF lb), kZ G qc3 192 (bF br)] := by
  refine MF.ofJ (cc := cX4_seat) (maxL := 6) (ret := none) (own := RX4) (lv := [(0, .ref qp), (1, .ref qc), (2, .int (nI b))]) (by decide) rfl rfl (Nat.le_of_ble_eq_true rfl) rfl ?_
  intro κ X
  have i_X0 : ∀ w ∈ wsX00, w ∈ wsX4_seat := by decide +kernel
  have i_X4 : ∀ w ∈ wsX40, w ∈ wsX4_seat := by decide +kernel
  refine j_iload_n (pc := 0) X dX4_seat_0 rfl 2 rfl ?_
  refine j_istore_n (pc := 1) X (lv' := [(3, .int (nI b)), (0, .ref qp), (1, .ref qc), (2, .int (nI b))]) dX4_seat_1 rfl (by decide) rfl ?_
  refine j_iconst (pc := 2) X (v := nI 0) dX4_seat_2 (by decide) ?_
  refine j_istore (pc := 3) X (lv' := [(4, .int (nI 0)), (3, .int (nI b)), (0, .ref qp), (1, .ref qc), (2, .int (nI b))]) dX4_seat_3 (by decide) rfl ?_
  refine j_lv [2, 3, 1, 0] (lv' := [(0, .ref qp), (1, .ref qc), (3, .int (nI b)), (4, .int (nI 0))]) rfl ?_
  refine j_lvq (lv' := [(0, .ref qp), (1, .ref qc), (3, .int (oI (some b))), (4, .int (nI 0))]) rfl ?_
  exact mX4_seat_L5 l G qp qp0 qp1 gv eb la qc qc0 qc1 qc2 qc3 el be pl le lb br b hel hbe hle hlb hpl heb hla hb κ X    (192 - 0 + 1) 0 eb la (some b) (by omega) (heb) (hla) (ob_s hb) (by rfl) (Nat.lt_succ_self _)

set_option maxHeartbeats 4000000 in
set_option maxRecDepth 100000 in
theorem mX4_makeBest_L23 (l : Launch) (G : jG) (qp : Nat) (qp0 : Nat) (qp1 : Nat) (gv : Bool) (eb : Nat → Option Nat) (la : Nat → Option Nat) (qc : Nat) (qc0 : Nat) (qc1 : Nat) (qc2 : Nat) (qc3 : Nat) (el : Nat) (be : Nat) (pl : Nat → Nat) (le : Nat → Nat) (lb : Nat → Nat) (br : Nat → Bool) (hel : el ≤ 12) (hbe : be ≤ 16) (hle : ∀ k, le k ≤ 100) (hlb : ∀ k, lb k ≤ 100) (hpl : ∀ k, pl k ≤ 4) (heb : ∀ k, ob 12 (eb k)) (hla : ∀ k, ob 12 (la k)) (hz : ∀ k, 16 ≤ k → eb k = none) (hlz : ∀ k, 16 ≤ k → la k = none) (κ : jK) (X : CX κ l yX4_makeBest cX4_makeBest 3 RX4 wsX4_makeBest (some .int) ({ frames := 5, cells := 0, slots := 0, locals := 119 }) G (va_A [(qp, .inr (4, [.ref qp0, .ref qp1, .int (b2i gv)])), kI G qp0 16 (oF eb), kI G qp1 16 (oF la), (qc, .inr (0, [.ref qc0, .ref qc1, .ref qc2, .ref qc3, .int (nI el), .int (nI be)])), kI G qc0 12 (nF pl), kI G qc1 192 (nF le), kI G qc2 192 (nF lb), kZ G qc3 192 (bF br)] (js κ).heap.size))    : ∀ (fu : Nat) (b : Nat) (hb : b ≤ be) (_ : be - b < fu), JJ κ 3 G (va_A [(qp, .inr (4, [.ref qp0, .ref qp1, .int (b2i gv)])), kI G qp0 16 (oF eb), kI G qp1 16 (oF la), (qc, .inr (0, [.ref qc0, .ref qc1, .ref qc2, .ref qc3, .int (nI el), .int (nI be)])), kI G qc0 12 (nF pl), kI G qc1 192 (nF le), kI G qc2 192 (nF lb), kZ G qc3 192 (bF br)] (js κ).heap.size) 0 0 (jQ κ G [(qp, .inr (4, [.ref qp0, .ref qp1, .int (b2i gv)])), kI G qp0 16 (oF eb), kI G qp1 16 (oF la), (qc, .inr (0, [.ref qc0, .ref qc1, .ref qc2, .ref qc3, .int (nI el), .int (nI be)])), kI G qc0 12 (nF pl), kI G qc1 192 (nF le), kI G qc2 192 (nF lb), kZ G qc3 192 (bF br)] (fun r w' => r = some (.int (nI (cntS (bestF pl le lb br el be be).1 16))) ∧ w' = [(qp, .inr (4, [.ref qp0, .ref qp1, .int (b2i true)])), kI G qp0 16 (oF ((bestF pl le lb br el be be).1)), kI G qp1 16 (oF ((bestF pl le lb br el be be).2)), (qc, .inr (0, [.ref qc0, .ref qc1, .ref qc2, .ref qc3, .int (nI el), .int (nI be)])), kI G qc0 12 (nF pl), kI G qc1 192 (nF le), kI G qc2 192 (nF lb), kZ G qc3 192 (bF br)]) 0 0) 23 [(0, .ref qp), (1, .ref qc), (2, .int (nI b))] [] [(qp, .inr (4, [.ref qp0, .ref qp1, .int (b2i true)])), kI G qp0 16 (oF ((bestF pl le lb br el be b).1)), kI G qp1 16 (oF ((bestF pl le lb br el be b).2)), (qc, .inr (0, [.ref qc0, .ref qc1, .ref qc2, .ref qc3, .int (nI el), .int (nI be)])), kI G qc0 12 (nF pl), kI G qc1 192 (nF le), kI G qc2 192 (nF lb), kZ G qc3 192 (bF br)] := by
  have i_X0 : ∀ w ∈ wsX00, w ∈ wsX4_makeBest := by decide +kernel
  have i_X4 : ∀ w ∈ wsX40, w ∈ wsX4_makeBest := by decide +kernel
  intro fu
  induction fu with
  | zero => intro b hb hms; exact absurd hms (Nat.not_lt_zero _)
  | succ fu ih =>
    intro b hb hms
    refine j_iload_n (pc := 23) X dX4_makeBest_23 rfl 2 rfl ?_
    refine j_aload_n (pc := 24) X dX4_makeBest_24 rfl 1 rfl ?_
    refine j_getN (pc := 25) X 0 i_X0 3 rfl rfl 5 (by decide) (by decide +kernel) rfl dX4_makeBest_25 ?_
    refine j_icmpN_ge (pc := 28) X (a := b) (b := be) (by omega) (by omega) (tgt := 43) dX4_makeBest_28 (by decide) (fun c_28 => ?_) (fun c_28 => ?_)
    · skip
      obtain rfl : be = b := by omega
      refine j_aload_n (pc := 43) X dX4_makeBest_43 rfl 0 rfl ?_
      refine j_ciP (pc := 44) X [0, 1] rfl (j_rV X (b := qp) (As := []) (ci := 4) (rest := []) 0 (mX4_countPairs l G qp qp0 qp1 true ((bestF pl le lb br el be be).1) (by exact (bestF_ob hel hbe be (Nat.le_refl _)).1.1)) gX4_makeBest_X4_countPairs rfl rfl rfl (by decide +kernel) ⟨Nat.le_of_ble_eq_true rfl, Nat.le_of_ble_eq_true rfl⟩ rfl rfl 0 rfl [0, 1] rfl rfl rfl (Nat.le_of_ble_eq_true rfl) dX4_makeBest_44 ⟨Nat.le_of_ble_eq_true rfl, Nat.le_of_ble_eq_true rfl⟩) ?_
      exact j_iret (pc := 47) X dX4_makeBest_47 ⟨by simp, rfl⟩
    · skip
      refine j_aload_n (pc := 31) X dX4_makeBest_31 rfl 0 rfl ?_
      refine j_aload_n (pc := 32) X dX4_makeBest_32 rfl 1 rfl ?_
      refine j_iload_n (pc := 33) X dX4_makeBest_33 rfl 2 rfl ?_
      refine j_cv (pc := 34) X (ws' := [(qp, .inr (4, [.ref qp0, .ref qp1, .int (b2i true)])), kI G qp0 16 (oF ((seatF pl le lb br el be 192 ((bestF pl le lb br el be b).1) ((bestF pl le lb br el be b).2) (some b)).1)), kI G qp1 16 (oF ((seatF pl le lb br el be 192 ((bestF pl le lb br el be b).1) ((bestF pl le lb br el be b).2) (some b)).2)), (qc, .inr (0, [.ref qc0, .ref qc1, .ref qc2, .ref qc3, .int (nI el), .int (nI be)])), kI G qc0 12 (nF pl), kI G qc1 192 (nF le), kI G qc2 192 (nF lb), kZ G qc3 192 (bF br)]) [0, 1, 2, 3, 4, 5, 6, 7] rfl (j_rV X (b := qp) (As := [.ref qc, .int (nI b)]) (ci := 4) (rest := []) 2 (mX4_seat l G qp qp0 qp1 true ((bestF pl le lb br el be b).1) ((bestF pl le lb br el be b).2) qc qc0 qc1 qc2 qc3 el be pl le lb br b (by first | assumption | omega | exact ob_s (by omega) | exact ob_n) (by first | assumption | omega | exact ob_s (by omega) | exact ob_n) (by first | assumption | omega | exact ob_s (by omega) | exact ob_n) (by first | assumption | omega | exact ob_s (by omega) | exact ob_n) (by first | assumption | omega | exact ob_s (by omega) | exact ob_n) (by exact (bestF_ob hel hbe b hb).1.1) (by exact (bestF_ob hel hbe b hb).1.2) (by first | assumption | omega | exact ob_s (by omega) | exact ob_n)) gX4_makeBest_X4_seat rfl rfl rfl (by decide +kernel) ⟨Nat.le_of_ble_eq_true rfl, Nat.le_of_ble_eq_true rfl⟩ rfl rfl 0 rfl [0, 1, 2, 3, 4, 5, 6, 7] rfl rfl rfl (Nat.le_of_ble_eq_true rfl) dX4_makeBest_34 ⟨Nat.le_of_ble_eq_true rfl, Nat.le_of_ble_eq_true rfl⟩) rfl rfl ?_
      refine j_iinc (pc := 37) X (v := nI (b + 1)) (lv' := [(2, .int (nI (b + 1))), (0, .ref qp), (1, .ref qc)]) dX4_makeBest_37 2 rfl (nI_1 _) (by decide) rfl ?_
      refine j_goto (pc := 40) X (tgt := 23) dX4_makeBest_40 (by decide) ?_
      refine j_lv [1, 2, 0] (lv' := [(0, .ref qp), (1, .ref qc), (2, .int (nI (b + 1)))]) rfl ?_
      refine j_ws (ws' := [(qp, .inr (4, [.ref qp0, .ref qp1, .int (b2i true)])), kI G qp0 16 (oF ((bestF pl le lb br el be (b + 1)).1)), kI G qp1 16 (oF ((bestF pl le lb br el be (b + 1)).2)), (qc, .inr (0, [.ref qc0, .ref qc1, .ref qc2, .ref qc3, .int (nI el), .int (nI be)])), kI G qc0 12 (nF pl), kI G qc1 192 (nF le), kI G qc2 192 (nF lb), kZ G qc3 192 (bF br)]) ?_ ?_
      · (rfl)
      exact ih (b + 1) (by omega) (by omega)
set_option maxHeartbeats 4000000 in
set_option maxRecDepth 100000 in
theorem mX4_makeBest (l : Launch) (G : jG) (qp : Nat) (qp0 : Nat) (qp1 : Nat) (gv : Bool) (eb : Nat → Option Nat) (la : Nat → Option Nat) (qc : Nat) (qc0 : Nat) (qc1 : Nat) (qc2 : Nat) (qc3 : Nat) (el : Nat) (be : Nat) (pl : Nat → Nat) (le : Nat → Nat) (lb : Nat → Nat) (br : Nat → Bool) (hel : el ≤ 12) (hbe : be ≤ 16) (hle : ∀ k, le k ≤ 100) (hlb : ∀ k, lb k ≤ 100) (hpl : ∀ k, pl k ≤ 4) (heb : ∀ k, ob 12 (eb k)) (hla : ∀ k, ob 12 (la k)) (hz : ∀ k, 16 ≤ k → eb k = none) (hlz : ∀ k, 16 ≤ k → la k = none) : MV l yX4_makeBest wsX4_makeBest ({ frames := 5, cells := 0, slots := 0, locals := 119 }) G [.ref qp, .ref qc] [(qp, .inr (4, [.ref qp0, .ref qp1, .int (b2i gv)])), kI G qp0 16 (oF eb), kI G qp1 16 (oF la), (qc, .inr (0, [.ref qc0, .ref qc1, .ref qc2, .ref qc3, .int (nI el), .int (nI be)])), kI G qc0 12 (nF pl), kI G qc1 192 (nF le), kI G qc2 192 (nF lb), kZ G qc3 192 (bF br)] (some (.int (nI (cntS (bestF pl le lb br el be be).1 16)))) [(qp, .inr (4, [.ref qp0, .ref qp1, .int (b2i true)])), kI G qp0 16 (oF ((bestF pl le lb br el be be).1)), kI G qp1 16 (oF ((bestF pl le lb br el be be).2)), (qc, .inr (0, [.ref qc0, .ref qc1, .ref qc2, .ref qc3, .int (nI el), .int (nI be)])), kI G qc0 12 (nF pl), kI G qc1 192 (nF le), kI G qc2 192 (nF lb), kZ G qc3 192 (bF br)] := by
  refine MF.ofJ (cc := cX4_makeBest) (maxL := 3) (ret := (some .int)) (own := RX4) (lv := [(0, .ref qp), (1, .ref qc)]) (by decide) rfl rfl (Nat.le_of_ble_eq_true rfl) rfl ?_
  intro κ X
  have i_X0 : ∀ w ∈ wsX00, w ∈ wsX4_makeBest := by decide +kernel
  have i_X4 : ∀ w ∈ wsX40, w ∈ wsX4_makeBest := by decide +kernel
  refine j_aload_n (pc := 0) X dX4_makeBest_0 rfl 0 rfl ?_
  refine j_iconst (pc := 1) X (v := nI 1) dX4_makeBest_1 (by decide) ?_
  refine j_put (pc := 2) X (v := .int (nI 1)) (ws' := [(qp, .inr (4, [.ref qp0, .ref qp1, .int (b2i true)])), kI G qp0 16 (oF eb), kI G qp1 16 (oF la), (qc, .inr (0, [.ref qc0, .ref qc1, .ref qc2, .ref qc3, .int (nI el), .int (nI be)])), kI G qc0 12 (nF pl), kI G qc1 192 (nF le), kI G qc2 192 (nF lb), kZ G qc3 192 (bF br)]) 4 i_X4 tyX4 tyX4_ok nmX4 0 rfl rfl 2 (by decide) (by decide +kernel) (by decide) (rfl) (rfl) (Nat.le_of_ble_eq_true rfl) dX4_makeBest_2 rfl ?_
  refine j_aload_n (pc := 5) X dX4_makeBest_5 rfl 0 rfl ?_
  refine j_get (pc := 6) X 4 i_X4 0 rfl rfl 0 (by decide) (by decide +kernel) rfl dX4_makeBest_6 ?_
  refine j_iconst (pc := 9) X (v := oI none) dX4_makeBest_9 (by decide) ?_
  refine j_cv (pc := 10) X (ws' := [(qp, .inr (4, [.ref qp0, .ref qp1, .int (b2i true)])), kI G qp0 16 (oF (fil none eb 16)), kI G qp1 16 (oF la), (qc, .inr (0, [.ref qc0, .ref qc1, .ref qc2, .ref qc3, .int (nI el), .int (nI be)])), kI G qc0 12 (nF pl), kI G qc1 192 (nF le), kI G qc2 192 (nF lb), kZ G qc3 192 (bF br)]) [1] rfl (j_rS X (As := [.ref qp0, .int (oI none)]) (rest := []) 2 (mJ7_fill_53178 l G qp0 16 eb none (by first | assumption | omega | exact ob_s (by omega) | exact ob_n)) gX4_makeBest_J7_fill_53178 rfl rfl rfl (by decide +kernel) ⟨Nat.le_of_ble_eq_true rfl, Nat.le_of_ble_eq_true rfl⟩ rfl [1] rfl rfl rfl (Nat.le_of_ble_eq_true rfl) dX4_makeBest_10 ⟨Nat.le_of_ble_eq_true rfl, Nat.le_of_ble_eq_true rfl⟩) rfl rfl ?_
  refine j_aload_n (pc := 13) X dX4_makeBest_13 rfl 0 rfl ?_
  refine j_get (pc := 14) X 4 i_X4 0 rfl rfl 1 (by decide) (by decide +kernel) rfl dX4_makeBest_14 ?_
  refine j_iconst (pc := 17) X (v := oI none) dX4_makeBest_17 (by decide) ?_
  refine j_cv (pc := 18) X (ws' := [(qp, .inr (4, [.ref qp0, .ref qp1, .int (b2i true)])), kI G qp0 16 (oF (fil none eb 16)), kI G qp1 16 (oF (fil none la 16)), (qc, .inr (0, [.ref qc0, .ref qc1, .ref qc2, .ref qc3, .int (nI el), .int (nI be)])), kI G qc0 12 (nF pl), kI G qc1 192 (nF le), kI G qc2 192 (nF lb), kZ G qc3 192 (bF br)]) [2] rfl (j_rS X (As := [.ref qp1, .int (oI none)]) (rest := []) 2 (mJ7_fill_53178 l G qp1 16 la none (by first | assumption | omega | exact ob_s (by omega) | exact ob_n)) gX4_makeBest_J7_fill_53178 rfl rfl rfl (by decide +kernel) ⟨Nat.le_of_ble_eq_true rfl, Nat.le_of_ble_eq_true rfl⟩ rfl [2] rfl rfl rfl (Nat.le_of_ble_eq_true rfl) dX4_makeBest_18 ⟨Nat.le_of_ble_eq_true rfl, Nat.le_of_ble_eq_true rfl⟩) rfl rfl ?_
  refine j_iconst (pc := 21) X (v := nI 0) dX4_makeBest_21 (by decide) ?_
  refine j_istore_n (pc := 22) X (lv' := [(2, .int (nI 0)), (0, .ref qp), (1, .ref qc)]) dX4_makeBest_22 rfl (by decide) rfl ?_
  refine j_lv [1, 2, 0] (lv' := [(0, .ref qp), (1, .ref qc), (2, .int (nI 0))]) rfl ?_
  refine j_ws (ws' := [(qp, .inr (4, [.ref qp0, .ref qp1, .int (b2i true)])), kI G qp0 16 (oF ((bestF pl le lb br el be 0).1)), kI G qp1 16 (oF ((bestF pl le lb br el be 0).2)), (qc, .inr (0, [.ref qc0, .ref qc1, .ref qc2, .ref qc3, .int (nI el), .int (nI be)])), kI G qc0 12 (nF pl), kI G qc1 192 (nF le), kI G qc2 192 (nF lb), kZ G qc3 192 (bF br)]) ?_ ?_
  · (rw [fil_none hz, fil_none hlz]; rfl)
  exact mX4_makeBest_L23 l G qp qp0 qp1 gv eb la qc qc0 qc1 qc2 qc3 el be pl le lb br hel hbe hle hlb hpl heb hla hz hlz κ X    (be - 0 + 1) 0 (by omega) (Nat.lt_succ_self _)

set_option maxHeartbeats 4000000 in
set_option maxRecDepth 100000 in
theorem mX4_isBlockedBy (l : Launch) (G : jG) (qp : Nat) (qp0 : Nat) (qp1 : Nat) (gv : Bool) (eb : Nat → Option Nat) (qc : Nat) (qc0 : Nat) (qc1 : Nat) (qc2 : Nat) (qc3 : Nat) (el : Nat) (be : Nat) (pl : Nat → Nat) (le : Nat → Nat) (lb : Nat → Nat) (br : Nat → Bool) (e : Nat) (b : Nat) (hel : el ≤ 12) (hbe : be ≤ 16) (hle : ∀ k, le k ≤ 100) (hlb : ∀ k, lb k ≤ 100) (hpl : ∀ k, pl k ≤ 4) (heb : ∀ k, ob 12 (eb k)) (he : e < 12) (hb : b < 16) : MV l yX4_isBlockedBy wsX4_isBlockedBy ({ frames := 3, cells := 0, slots := 0, locals := 70 }) G [.ref qp, .ref qc, .int (nI e), .int (nI b)] [(qp, .inr (4, [.ref qp0, .ref qp1, .int (b2i gv)])), kI G qp0 16 (oF eb), (qc, .inr (0, [.ref qc0, .ref qc1, .ref qc2, .ref qc3, .int (nI el), .int (nI be)])), kI G qc0 12 (nF pl), kI G qc1 192 (nF le), kI G qc2 192 (nF lb), kZ G qc3 192 (bF br)] (some (.int (b2i (blk pl le lb br eb be e b)))) [(qp, .inr (4, [.ref qp0, .ref qp1, .int (b2i gv)])), kI G qp0 16 (oF eb), (qc, .inr (0, [.ref qc0, .ref qc1, .ref qc2, .ref qc3, .int (nI el), .int (nI be)])), kI G qc0 12 (nF pl), kI G qc1 192 (nF le), kI G qc2 192 (nF lb), kZ G qc3 192 (bF br)] := by
  refine MF.ofJ (cc := cX4_isBlockedBy) (maxL := 6) (ret := (some .boolean)) (own := RX4) (lv := [(0, .ref qp), (1, .ref qc), (2, .int (nI e)), (3, .int (nI b))]) (by decide) rfl rfl (Nat.le_of_ble_eq_true rfl) rfl ?_
  intro κ X
  have i_X0 : ∀ w ∈ wsX00, w ∈ wsX4_isBlockedBy := by decide +kernel
  have i_X4 : ∀ w ∈ wsX40, w ∈ wsX4_isBlockedBy := by decide +kernel
  refine j_aload_n (pc := 0) X dX4_isBlockedBy_0 rfl 0 rfl ?_
  refine j_get (pc := 1) X 4 i_X4 0 rfl rfl 0 (by decide) (by decide +kernel) rfl dX4_isBlockedBy_1 ?_
  refine j_iload_n (pc := 4) X dX4_isBlockedBy_4 rfl 3 rfl ?_
  refine j_iald (pc := 5) X 1 rfl (vp_in_nI (by omega) (by decide)) (v := oI (eb b)) (congrArg (oF eb) (nI_clamp (by omega))) dX4_isBlockedBy_5 ?_
  refine j_istore (pc := 6) X (lv' := [(4, .int (oI (eb b))), (0, .ref qp), (1, .ref qc), (2, .int (nI e)), (3, .int (nI b))]) dX4_isBlockedBy_6 (by decide) rfl ?_
  refine j_iload (pc := 8) X dX4_isBlockedBy_8 0 rfl ?_
  refine j_iload_n (pc := 10) X dX4_isBlockedBy_10 rfl 3 rfl ?_
  refine j_icmpO_eq (pc := 11) X (a := (eb b)) (b := (some e)) (by first | exact ob_n | exact ob_s (by omega) | exact (heb _).big (by decide) | exact (lst_ob _ _ _ _).big (by omega)) (by first | exact ob_n | exact ob_s (by omega) | exact (heb _).big (by decide) | exact (lst_ob _ _ _ _).big (by omega)) (tgt := 34) dX4_isBlockedBy_11 (by decide) (fun c_11 => ?_) (fun c_11 => ?_)
  · skip
    refine j_iconst (pc := 34) X (v := nI 0) dX4_isBlockedBy_34 (by decide) ?_
    exact j_zret (pc := 35) X (rfl) dX4_isBlockedBy_35 ⟨r0 (by first | (simp [blk, c_11]; done) | (simp [blk, hw, c_11]; done)), rfl⟩
  · skip
    refine j_aload_n (pc := 14) X dX4_isBlockedBy_14 rfl 2 rfl ?_
    refine j_iload_n (pc := 15) X dX4_isBlockedBy_15 rfl 3 rfl ?_
    refine j_iload_n (pc := 16) X dX4_isBlockedBy_16 rfl 4 rfl ?_
    refine j_ciP (pc := 17) X [2, 4, 5, 6] rfl (j_rVN X (b := qc) (As := [.int (nI e), .int (nI b)]) (ci := 0) (rest := []) 2 (mX0_canPair l G qc qc0 qc1 qc2 qc3 el be le lb br e b (by first | assumption | omega | exact ob_s (by omega) | exact ob_n) (by first | assumption | omega | exact ob_s (by omega) | exact ob_n) (by first | assumption | omega | exact ob_s (by omega) | exact ob_n) (by first | assumption | omega | exact ob_s (by omega) | exact ob_n)) gX4_isBlockedBy_X0_canPair_n64 rfl rfl rfl (by decide +kernel) (by decide +kernel) (by decide +kernel) (by decide +kernel) (by decide +kernel) ⟨Nat.le_of_ble_eq_true rfl, Nat.le_of_ble_eq_true rfl⟩ rfl rfl 0 rfl [2, 4, 5, 6] rfl rfl rfl (Nat.le_of_ble_eq_true rfl) dX4_isBlockedBy_17 ⟨Nat.le_of_ble_eq_true rfl, Nat.le_of_ble_eq_true rfl⟩) ?_
    refine j_ifb_eq (pc := 20) X (B := canB le lb br e b) (tgt := 34) dX4_isBlockedBy_20 (by decide) (fun c_20 => ?_) (fun c_20 => ?_)
    · skip
      refine j_iconst (pc := 34) X (v := nI 0) dX4_isBlockedBy_34 (by decide) ?_
      exact j_zret (pc := 35) X (rfl) dX4_isBlockedBy_35 ⟨r0 (by first | (simp [blk, c_11, c_20]; done) | (simp [blk, hw, c_11, c_20]; done)), rfl⟩
    · skip
      refine j_aload_n (pc := 23) X dX4_isBlockedBy_23 rfl 2 rfl ?_
      refine j_iload_n (pc := 24) X dX4_isBlockedBy_24 rfl 4 rfl ?_
      refine j_iload_n (pc := 25) X dX4_isBlockedBy_25 rfl 3 rfl ?_
      refine j_iload (pc := 26) X dX4_isBlockedBy_26 0 rfl ?_
      refine j_ciP (pc := 28) X [2, 5] rfl (j_rVN X (b := qc) (As := [.int (nI b), .int (nI e), .int (oI (eb b))]) (ci := 0) (rest := []) 3 (mX0_beginnerPrefers l G qc qc0 qc1 qc2 qc3 el be lb b e (eb b) (by first | assumption | omega | exact ob_s (by omega) | exact ob_n) (by first | assumption | omega | exact ob_s (by omega) | exact ob_n) (by exact heb _) (by first | assumption | omega | exact ob_s (by omega) | exact ob_n)) gX4_isBlockedBy_X0_beginnerPrefers_n68 rfl rfl rfl (by decide +kernel) (by decide +kernel) (by decide +kernel) (by decide +kernel) (by decide +kernel) ⟨Nat.le_of_ble_eq_true rfl, Nat.le_of_ble_eq_true rfl⟩ rfl rfl 0 rfl [2, 5] rfl rfl rfl (Nat.le_of_ble_eq_true rfl) dX4_isBlockedBy_28 ⟨Nat.le_of_ble_eq_true rfl, Nat.le_of_ble_eq_true rfl⟩) ?_
      refine j_ifb_ne (pc := 31) X (B := prBO lb b e (eb b)) (tgt := 36) dX4_isBlockedBy_31 (by decide) (fun c_31 => ?_) (fun c_31 => ?_)
      · skip
        refine j_aload_n (pc := 36) X dX4_isBlockedBy_36 rfl 1 rfl ?_
        refine j_aload_n (pc := 37) X dX4_isBlockedBy_37 rfl 2 rfl ?_
        refine j_iload_n (pc := 38) X dX4_isBlockedBy_38 rfl 3 rfl ?_
        refine j_ciP (pc := 39) X [0, 1, 2, 3] rfl (j_rV X (b := qp) (As := [.ref qc, .int (nI e)]) (ci := 4) (rest := []) 2 (mX4_hasPlaceLeft l G qp qp0 qp1 gv eb qc qc0 qc1 qc2 qc3 el be pl e (by first | assumption | omega | exact ob_s (by omega) | exact ob_n) (by first | assumption | omega | exact ob_s (by omega) | exact ob_n) (by first | assumption | omega | exact ob_s (by omega) | exact ob_n)) gX4_isBlockedBy_X4_hasPlaceLeft rfl rfl rfl (by decide +kernel) ⟨Nat.le_of_ble_eq_true rfl, Nat.le_of_ble_eq_true rfl⟩ rfl rfl 0 rfl [0, 1, 2, 3] rfl rfl rfl (Nat.le_of_ble_eq_true rfl) dX4_isBlockedBy_39 ⟨Nat.le_of_ble_eq_true rfl, Nat.le_of_ble_eq_true rfl⟩) ?_
        refine j_ifd_eq (pc := 42) X (P := cntO eb e 16 < pl e) (tgt := 47) dX4_isBlockedBy_42 (by decide) (fun c_42 => ?_) (fun c_42 => ?_)
        · skip
          refine j_aload_n (pc := 47) X dX4_isBlockedBy_47 rfl 1 rfl ?_
          refine j_aload_n (pc := 48) X dX4_isBlockedBy_48 rfl 2 rfl ?_
          refine j_iload_n (pc := 49) X dX4_isBlockedBy_49 rfl 3 rfl ?_
          refine j_ciP (pc := 50) X [0, 1, 2, 4] rfl (j_rV X (b := qp) (As := [.ref qc, .int (nI e)]) (ci := 4) (rest := []) 2 (mX4_leastOf l G qp qp0 qp1 gv eb qc qc0 qc1 qc2 qc3 el be le e (by first | assumption | omega | exact ob_s (by omega) | exact ob_n) (by first | assumption | omega | exact ob_s (by omega) | exact ob_n) (by first | assumption | omega | exact ob_s (by omega) | exact ob_n) (by first | assumption | omega | exact ob_s (by omega) | exact ob_n)) gX4_isBlockedBy_X4_leastOf rfl rfl rfl (by decide +kernel) ⟨Nat.le_of_ble_eq_true rfl, Nat.le_of_ble_eq_true rfl⟩ rfl rfl 0 rfl [0, 1, 2, 4] rfl rfl rfl (Nat.le_of_ble_eq_true rfl) dX4_isBlockedBy_50 ⟨Nat.le_of_ble_eq_true rfl, Nat.le_of_ble_eq_true rfl⟩) ?_
          refine j_istore (pc := 53) X (lv' := [(5, .int (oI (lst le eb e be))), (4, .int (oI (eb b))), (0, .ref qp), (1, .ref qc), (2, .int (nI e)), (3, .int (nI b))]) dX4_isBlockedBy_53 (by decide) rfl ?_
          refine j_iload (pc := 55) X dX4_isBlockedBy_55 0 rfl ?_
          refine j_iconst (pc := 57) X (v := oI none) dX4_isBlockedBy_57 (by decide) ?_
          refine j_icmpZ_eq (pc := 58) X (a := (lst le eb e be)) (by first | exact ob_n | exact ob_s (by omega) | exact (heb _).big (by decide) | exact (lst_ob _ _ _ _).big (by omega)) (tgt := 76) dX4_isBlockedBy_58 (by decide) (fun c_58 => ?_) (fun c_58 => ?_)
          · skip
            refine j_iconst (pc := 76) X (v := nI 0) dX4_isBlockedBy_76 (by decide) ?_
            exact j_zret (pc := 77) X (rfl) dX4_isBlockedBy_77 ⟨r0 (by first | (simp [blk, c_11, c_20, c_31, c_42, c_58]; done) | (simp [blk, hw, c_11, c_20, c_31, c_42, c_58]; done)), rfl⟩
          · skip
            obtain ⟨w, hw⟩ := Option.ne_none_iff_exists'.mp c_58; have hw16 := lst_ob le eb e be w hw
            refine j_lvq (lv' := [(5, .int (nI w)), (4, .int (oI (eb b))), (0, .ref qp), (1, .ref qc), (2, .int (nI e)), (3, .int (nI b))]) (by rw [hw] <;> rfl) ?_
            refine j_aload_n (pc := 61) X dX4_isBlockedBy_61 rfl 3 rfl ?_
            refine j_iload_n (pc := 62) X dX4_isBlockedBy_62 rfl 4 rfl ?_
            refine j_iload_n (pc := 63) X dX4_isBlockedBy_63 rfl 5 rfl ?_
            refine j_iload (pc := 64) X dX4_isBlockedBy_64 0 rfl ?_
            refine j_ciP (pc := 66) X [2, 4] rfl (j_rVN X (b := qc) (As := [.int (nI e), .int (nI b), .int (nI w)]) (ci := 0) (rest := []) 3 (mX0_elderPrefers l G qc qc0 qc1 qc2 qc3 el be le e b w (by first | assumption | omega | exact ob_s (by omega) | exact ob_n) (by first | assumption | omega | exact ob_s (by omega) | exact ob_n) (by first | assumption | omega | exact ob_s (by omega) | exact ob_n) (by first | assumption | omega | exact ob_s (by omega) | exact ob_n)) gX4_isBlockedBy_X0_elderPrefers_n41 rfl rfl rfl (by decide +kernel) (by decide +kernel) (by decide +kernel) (by decide +kernel) (by decide +kernel) ⟨Nat.le_of_ble_eq_true rfl, Nat.le_of_ble_eq_true rfl⟩ rfl rfl 0 rfl [2, 4] rfl rfl rfl (Nat.le_of_ble_eq_true rfl) dX4_isBlockedBy_66 ⟨Nat.le_of_ble_eq_true rfl, Nat.le_of_ble_eq_true rfl⟩) ?_
            refine j_ifb_eq (pc := 69) X (B := prE le e b w) (tgt := 76) dX4_isBlockedBy_69 (by decide) (fun c_69 => ?_) (fun c_69 => ?_)
            · skip
              refine j_iconst (pc := 76) X (v := nI 0) dX4_isBlockedBy_76 (by decide) ?_
              exact j_zret (pc := 77) X (rfl) dX4_isBlockedBy_77 ⟨r0 (by first | (simp [blk, c_11, c_20, c_31, c_42, c_58, c_69]; done) | (simp [blk, hw, c_11, c_20, c_31, c_42, c_58, c_69]; done)), rfl⟩
            · skip
              refine j_iconst (pc := 72) X (v := nI 1) dX4_isBlockedBy_72 (by decide) ?_
              refine j_goto (pc := 73) X (tgt := 77) dX4_isBlockedBy_73 (by decide) ?_
              exact j_zret (pc := 77) X (rfl) dX4_isBlockedBy_77 ⟨r1 (by first | (simp [blk, c_11, c_20, c_31, c_42, c_58, c_69]; done) | (simp [blk, hw, c_11, c_20, c_31, c_42, c_58, c_69]; done)), rfl⟩
        · skip
          refine j_iconst (pc := 45) X (v := nI 1) dX4_isBlockedBy_45 (by decide) ?_
          exact j_zret (pc := 46) X (rfl) dX4_isBlockedBy_46 ⟨r1 (by first | (simp [blk, c_11, c_20, c_31, c_42]; done) | (simp [blk, hw, c_11, c_20, c_31, c_42]; done)), rfl⟩
      · skip
        refine j_iconst (pc := 34) X (v := nI 0) dX4_isBlockedBy_34 (by decide) ?_
        exact j_zret (pc := 35) X (rfl) dX4_isBlockedBy_35 ⟨r0 (by first | (simp [blk, c_11, c_20, c_31]; done) | (simp [blk, hw, c_11, c_20, c_31]; done)), rfl⟩

set_option maxHeartbeats 4000000 in
set_option maxRecDepth 100000 in
theorem mX4_countBlocking_L15 (l : Launch) (G : jG) (qp : Nat) (qp0 : Nat) (qp1 : Nat) (gv : Bool) (eb : Nat → Option Nat) (qc : Nat) (qc0 : Nat) (qc1 : Nat) (qc2 : Nat) (qc3 : Nat) (el : Nat) (be : Nat) (pl : Nat → Nat) (le : Nat → Nat) (lb : Nat → Nat) (br : Nat → Bool) (hel : el ≤ 12) (hbe : be ≤ 16) (hle : ∀ k, le k ≤ 100) (hlb : ∀ k, lb k ≤ 100) (hpl : ∀ k, pl k ≤ 4) (heb : ∀ k, ob 12 (eb k)) (κ : jK) (X : CX κ l yX4_countBlocking cX4_countBlocking 5 RX4 wsX4_countBlocking (some .int) ({ frames := 4, cells := 0, slots := 0, locals := 95 }) G (va_A [(qp, .inr (4, [.ref qp0, .ref qp1, .int (b2i gv)])), kI G qp0 16 (oF eb), (qc, .inr (0, [.ref qc0, .ref qc1, .ref qc2, .ref qc3, .int (nI el), .int (nI be)])), kI G qc0 12 (nF pl), kI G qc1 192 (nF le), kI G qc2 192 (nF lb), kZ G qc3 192 (bF br)] (js κ).heap.size)) (no4 : Nat) (hK4 : ∀ (e : Nat) (he : e ≤ el) (_ : el - e < no4), JJ κ 5 G (va_A [(qp, .inr (4, [.ref qp0, .ref qp1, .int (b2i gv)])), kI G qp0 16 (oF eb), (qc, .inr (0, [.ref qc0, .ref qc1, .ref qc2, .ref qc3, .int (nI el), .int (nI be)])), kI G qc0 12 (nF pl), kI G qc1 192 (nF le), kI G qc2 192 (nF lb), kZ G qc3 192 (bF br)] (js κ).heap.size) 0 0 (jQ κ G [(qp, .inr (4, [.ref qp0, .ref qp1, .int (b2i gv)])), kI G qp0 16 (oF eb), (qc, .inr (0, [.ref qc0, .ref qc1, .ref qc2, .ref qc3, .int (nI el), .int (nI be)])), kI G qc0 12 (nF pl), kI G qc1 192 (nF le), kI G qc2 192 (nF lb), kZ G qc3 192 (bF br)] (fun r w' => r = some (.int (nI (cbO pl le lb br eb be el))) ∧ w' = [(qp, .inr (4, [.ref qp0, .ref qp1, .int (b2i gv)])), kI G qp0 16 (oF eb), (qc, .inr (0, [.ref qc0, .ref qc1, .ref qc2, .ref qc3, .int (nI el), .int (nI be)])), kI G qc0 12 (nF pl), kI G qc1 192 (nF le), kI G qc2 192 (nF lb), kZ G qc3 192 (bF br)]) 0 0) 4 [(0, .ref qp), (1, .ref qc), (2, .int (nI (cbO pl le lb br eb be e))), (3, .int (nI e))] [] [(qp, .inr (4, [.ref qp0, .ref qp1, .int (b2i gv)])), kI G qp0 16 (oF eb), (qc, .inr (0, [.ref qc0, .ref qc1, .ref qc2, .ref qc3, .int (nI el), .int (nI be)])), kI G qc0 12 (nF pl), kI G qc1 192 (nF le), kI G qc2 192 (nF lb), kZ G qc3 192 (bF br)])  (e : Nat) (he : e ≤ el) (hm4 : el - e < no4 + 1) : ∀ (fu : Nat) (b : Nat) (hb : b ≤ be) (hee : e < el) (_ : be - b < fu), JJ κ 5 G (va_A [(qp, .inr (4, [.ref qp0, .ref qp1, .int (b2i gv)])), kI G qp0 16 (oF eb), (qc, .inr (0, [.ref qc0, .ref qc1, .ref qc2, .ref qc3, .int (nI el), .int (nI be)])), kI G qc0 12 (nF pl), kI G qc1 192 (nF le), kI G qc2 192 (nF lb), kZ G qc3 192 (bF br)] (js κ).heap.size) 0 0 (jQ κ G [(qp, .inr (4, [.ref qp0, .ref qp1, .int (b2i gv)])), kI G qp0 16 (oF eb), (qc, .inr (0, [.ref qc0, .ref qc1, .ref qc2, .ref qc3, .int (nI el), .int (nI be)])), kI G qc0 12 (nF pl), kI G qc1 192 (nF le), kI G qc2 192 (nF lb), kZ G qc3 192 (bF br)] (fun r w' => r = some (.int (nI (cbO pl le lb br eb be el))) ∧ w' = [(qp, .inr (4, [.ref qp0, .ref qp1, .int (b2i gv)])), kI G qp0 16 (oF eb), (qc, .inr (0, [.ref qc0, .ref qc1, .ref qc2, .ref qc3, .int (nI el), .int (nI be)])), kI G qc0 12 (nF pl), kI G qc1 192 (nF le), kI G qc2 192 (nF lb), kZ G qc3 192 (bF br)]) 0 0) 15 [(0, .ref qp), (1, .ref qc), (2, .int (nI (cbO pl le lb br eb be e + cbI pl le lb br eb be e b))), (3, .int (nI e)), (4, .int (nI b))] [] [(qp, .inr (4, [.ref qp0, .ref qp1, .int (b2i gv)])), kI G qp0 16 (oF eb), (qc, .inr (0, [.ref qc0, .ref qc1, .ref qc2, .ref qc3, .int (nI el), .int (nI be)])), kI G qc0 12 (nF pl), kI G qc1 192 (nF le), kI G qc2 192 (nF lb), kZ G qc3 192 (bF br)] := by
  have i_X0 : ∀ w ∈ wsX00, w ∈ wsX4_countBlocking := by decide +kernel
  have i_X4 : ∀ w ∈ wsX40, w ∈ wsX4_countBlocking := by decide +kernel
  intro fu
  induction fu with
  | zero => intro b hb hee hms; exact absurd hms (Nat.not_lt_zero _)
  | succ fu ih =>
    intro b hb hee hms
    refine j_iload (pc := 15) X dX4_countBlocking_15 4 rfl ?_
    refine j_aload_n (pc := 17) X dX4_countBlocking_17 rfl 1 rfl ?_
    refine j_getN (pc := 18) X 0 i_X0 2 rfl rfl 5 (by decide) (by decide +kernel) rfl dX4_countBlocking_18 ?_
    refine j_icmpN_ge (pc := 21) X (a := b) (b := be) (by omega) (by omega) (tgt := 44) dX4_countBlocking_21 (by decide) (fun c_21 => ?_) (fun c_21 => ?_)
    · skip
      refine j_iinc (pc := 44) X (v := nI (e + 1)) (lv' := [(3, .int (nI (e + 1))), (0, .ref qp), (1, .ref qc), (2, .int (nI (cbO pl le lb br eb be e + cbI pl le lb br eb be e b))), (4, .int (nI b))]) dX4_countBlocking_44 3 rfl (nI_1 _) (by decide) rfl ?_
      refine j_goto (pc := 47) X (tgt := 4) dX4_countBlocking_47 (by decide) ?_
      refine j_lv [1, 2, 3, 0] (lv' := [(0, .ref qp), (1, .ref qc), (2, .int (nI (cbO pl le lb br eb be e + cbI pl le lb br eb be e b))), (3, .int (nI (e + 1)))]) rfl ?_
      refine j_lvq (lv' := [(0, .ref qp), (1, .ref qc), (2, .int (nI (cbO pl le lb br eb be (e + 1)))), (3, .int (nI (e + 1)))]) ?_ ?_
      · first | rfl | (rw [show (cbO pl le lb br eb be e + cbI pl le lb br eb be e b) = cbO pl le lb br eb be (e + 1) from by (rw [show b = be by omega]; rfl)])
      exact hK4 (e + 1) (by omega) (by omega)
    · skip
      refine j_aload_n (pc := 24) X dX4_countBlocking_24 rfl 0 rfl ?_
      refine j_aload_n (pc := 25) X dX4_countBlocking_25 rfl 1 rfl ?_
      refine j_iload_n (pc := 26) X dX4_countBlocking_26 rfl 3 rfl ?_
      refine j_iload (pc := 27) X dX4_countBlocking_27 4 rfl ?_
      refine j_ciP (pc := 29) X [0, 1, 2, 3, 4, 5, 6] rfl (j_rV X (b := qp) (As := [.ref qc, .int (nI e), .int (nI b)]) (ci := 4) (rest := []) 3 (mX4_isBlockedBy l G qp qp0 qp1 gv eb qc qc0 qc1 qc2 qc3 el be pl le lb br e b (by first | assumption | omega | exact ob_s (by omega) | exact ob_n) (by first | assumption | omega | exact ob_s (by omega) | exact ob_n) (by first | assumption | omega | exact ob_s (by omega) | exact ob_n) (by first | assumption | omega | exact ob_s (by omega) | exact ob_n) (by first | assumption | omega | exact ob_s (by omega) | exact ob_n) (by first | assumption | omega | exact ob_s (by omega) | exact ob_n) (by first | assumption | omega | exact ob_s (by omega) | exact ob_n) (by first | assumption | omega | exact ob_s (by omega) | exact ob_n)) gX4_countBlocking_X4_isBlockedBy rfl rfl rfl (by decide +kernel) ⟨Nat.le_of_ble_eq_true rfl, Nat.le_of_ble_eq_true rfl⟩ rfl rfl 0 rfl [0, 1, 2, 3, 4, 5, 6] rfl rfl rfl (Nat.le_of_ble_eq_true rfl) dX4_countBlocking_29 ⟨Nat.le_of_ble_eq_true rfl, Nat.le_of_ble_eq_true rfl⟩) ?_
      refine j_ifb_eq (pc := 32) X (B := blk pl le lb br eb be e b) (tgt := 38) dX4_countBlocking_32 (by decide) (fun c_32 => ?_) (fun c_32 => ?_)
      · skip
        refine j_iinc (pc := 38) X (v := nI (b + 1)) (lv' := [(4, .int (nI (b + 1))), (0, .ref qp), (1, .ref qc), (2, .int (nI (cbO pl le lb br eb be e + cbI pl le lb br eb be e b))), (3, .int (nI e))]) dX4_countBlocking_38 4 rfl (nI_1 _) (by decide) rfl ?_
        refine j_goto (pc := 41) X (tgt := 15) dX4_countBlocking_41 (by decide) ?_
        refine j_lv [1, 2, 3, 4, 0] (lv' := [(0, .ref qp), (1, .ref qc), (2, .int (nI (cbO pl le lb br eb be e + cbI pl le lb br eb be e b))), (3, .int (nI e)), (4, .int (nI (b + 1)))]) rfl ?_
        refine j_lvq (lv' := [(0, .ref qp), (1, .ref qc), (2, .int (nI (cbO pl le lb br eb be e + cbI pl le lb br eb be e (b + 1)))), (3, .int (nI e)), (4, .int (nI (b + 1)))]) ?_ ?_
        · rw [show (cbO pl le lb br eb be e + cbI pl le lb br eb be e b) = cbO pl le lb br eb be e + cbI pl le lb br eb be e (b + 1) from by (simp only [cbI]; simp [c_21, c_32]; try omega)]
        exact ih (b + 1) (by omega) (by omega) (by omega)
      · skip
        refine j_iinc (pc := 35) X (v := nI (cbO pl le lb br eb be e + cbI pl le lb br eb be e b + 1)) (lv' := [(2, .int (nI (cbO pl le lb br eb be e + cbI pl le lb br eb be e b + 1))), (0, .ref qp), (1, .ref qc), (3, .int (nI e)), (4, .int (nI b))]) dX4_countBlocking_35 2 rfl (nI_1 _) (by decide) rfl ?_
        refine j_iinc (pc := 38) X (v := nI (b + 1)) (lv' := [(4, .int (nI (b + 1))), (2, .int (nI (cbO pl le lb br eb be e + cbI pl le lb br eb be e b + 1))), (0, .ref qp), (1, .ref qc), (3, .int (nI e))]) dX4_countBlocking_38 4 rfl (nI_1 _) (by decide) rfl ?_
        refine j_goto (pc := 41) X (tgt := 15) dX4_countBlocking_41 (by decide) ?_
        refine j_lv [2, 3, 1, 4, 0] (lv' := [(0, .ref qp), (1, .ref qc), (2, .int (nI (cbO pl le lb br eb be e + cbI pl le lb br eb be e b + 1))), (3, .int (nI e)), (4, .int (nI (b + 1)))]) rfl ?_
        refine j_lvq (lv' := [(0, .ref qp), (1, .ref qc), (2, .int (nI (cbO pl le lb br eb be e + cbI pl le lb br eb be e (b + 1)))), (3, .int (nI e)), (4, .int (nI (b + 1)))]) ?_ ?_
        · rw [show (cbO pl le lb br eb be e + cbI pl le lb br eb be e b + 1) = cbO pl le lb br eb be e + cbI pl le lb br eb be e (b + 1) from by (simp only [cbI]; simp [c_21, c_32]; try omega)]
        exact ih (b + 1) (by omega) (by omega) (by omega)
set_option maxHeartbeats 4000000 in
set_option maxRecDepth 100000 in
theorem mX4_countBlocking_L4 (l : Launch) (G : jG) (qp : Nat) (qp0 : Nat) (qp1 : Nat) (gv : Bool) (eb : Nat → Option Nat) (qc : Nat) (qc0 : Nat) (qc1 : Nat) (qc2 : Nat) (qc3 : Nat) (el : Nat) (be : Nat) (pl : Nat → Nat) (le : Nat → Nat) (lb : Nat → Nat) (br : Nat → Bool) (hel : el ≤ 12) (hbe : be ≤ 16) (hle : ∀ k, le k ≤ 100) (hlb : ∀ k, lb k ≤ 100) (hpl : ∀ k, pl k ≤ 4) (heb : ∀ k, ob 12 (eb k)) (κ : jK) (X : CX κ l yX4_countBlocking cX4_countBlocking 5 RX4 wsX4_countBlocking (some .int) ({ frames := 4, cells := 0, slots := 0, locals := 95 }) G (va_A [(qp, .inr (4, [.ref qp0, .ref qp1, .int (b2i gv)])), kI G qp0 16 (oF eb), (qc, .inr (0, [.ref qc0, .ref qc1, .ref qc2, .ref qc3, .int (nI el), .int (nI be)])), kI G qc0 12 (nF pl), kI G qc1 192 (nF le), kI G qc2 192 (nF lb), kZ G qc3 192 (bF br)] (js κ).heap.size))    : ∀ (fu : Nat) (e : Nat) (he : e ≤ el) (_ : el - e < fu), JJ κ 5 G (va_A [(qp, .inr (4, [.ref qp0, .ref qp1, .int (b2i gv)])), kI G qp0 16 (oF eb), (qc, .inr (0, [.ref qc0, .ref qc1, .ref qc2, .ref qc3, .int (nI el), .int (nI be)])), kI G qc0 12 (nF pl), kI G qc1 192 (nF le), kI G qc2 192 (nF lb), kZ G qc3 192 (bF br)] (js κ).heap.size) 0 0 (jQ κ G [(qp, .inr (4, [.ref qp0, .ref qp1, .int (b2i gv)])), kI G qp0 16 (oF eb), (qc, .inr (0, [.ref qc0, .ref qc1, .ref qc2, .ref qc3, .int (nI el), .int (nI be)])), kI G qc0 12 (nF pl), kI G qc1 192 (nF le), kI G qc2 192 (nF lb), kZ G qc3 192 (bF br)] (fun r w' => r = some (.int (nI (cbO pl le lb br eb be el))) ∧ w' = [(qp, .inr (4, [.ref qp0, .ref qp1, .int (b2i gv)])), kI G qp0 16 (oF eb), (qc, .inr (0, [.ref qc0, .ref qc1, .ref qc2, .ref qc3, .int (nI el), .int (nI be)])), kI G qc0 12 (nF pl), kI G qc1 192 (nF le), kI G qc2 192 (nF lb), kZ G qc3 192 (bF br)]) 0 0) 4 [(0, .ref qp), (1, .ref qc), (2, .int (nI (cbO pl le lb br eb be e))), (3, .int (nI e))] [] [(qp, .inr (4, [.ref qp0, .ref qp1, .int (b2i gv)])), kI G qp0 16 (oF eb), (qc, .inr (0, [.ref qc0, .ref qc1, .ref qc2, .ref qc3, .int (nI el), .int (nI be)])), kI G qc0 12 (nF pl), kI G qc1 192 (nF le), kI G qc2 192 (nF lb), kZ G qc3 192 (bF br)] := by
  have i_X0 : ∀ w ∈ wsX00, w ∈ wsX4_countBlocking := by decide +kernel
  have i_X4 : ∀ w ∈ wsX40, w ∈ wsX4_countBlocking := by decide +kernel
  intro fu
  induction fu with
  | zero => intro e he hms; exact absurd hms (Nat.not_lt_zero _)
  | succ fu ih =>
    intro e he hms
    refine j_iload_n (pc := 4) X dX4_countBlocking_4 rfl 3 rfl ?_
    refine j_aload_n (pc := 5) X dX4_countBlocking_5 rfl 1 rfl ?_
    refine j_getN (pc := 6) X 0 i_X0 2 rfl rfl 4 (by decide) (by decide +kernel) rfl dX4_countBlocking_6 ?_
    refine j_icmpN_ge (pc := 9) X (a := e) (b := el) (by omega) (by omega) (tgt := 50) dX4_countBlocking_9 (by decide) (fun c_9 => ?_) (fun c_9 => ?_)
    · skip
      refine j_iload_n (pc := 50) X dX4_countBlocking_50 rfl 2 rfl ?_
      exact j_iret (pc := 51) X dX4_countBlocking_51 ⟨by rw [show e = el by omega], rfl⟩
    · skip
      refine j_iconst (pc := 12) X (v := nI 0) dX4_countBlocking_12 (by decide) ?_
      refine j_istore (pc := 13) X (lv' := [(4, .int (nI 0)), (0, .ref qp), (1, .ref qc), (2, .int (nI (cbO pl le lb br eb be e))), (3, .int (nI e))]) dX4_countBlocking_13 (by decide) rfl ?_
      refine j_lv [1, 2, 3, 4, 0] (lv' := [(0, .ref qp), (1, .ref qc), (2, .int (nI (cbO pl le lb br eb be e))), (3, .int (nI e)), (4, .int (nI 0))]) rfl ?_
      refine j_lvq (lv' := [(0, .ref qp), (1, .ref qc), (2, .int (nI (cbO pl le lb br eb be e + cbI pl le lb br eb be e 0))), (3, .int (nI e)), (4, .int (nI 0))]) ?_ ?_
      · first | rfl | (rw [show (cbO pl le lb br eb be e) = cbO pl le lb br eb be e + cbI pl le lb br eb be e 0 from by (simp only [cbI]; simp [c_9]; try omega)])
      exact mX4_countBlocking_L15 l G qp qp0 qp1 gv eb qc qc0 qc1 qc2 qc3 el be pl le lb br hel hbe hle hlb hpl heb κ X fu ih e he hms (be - 0 + 1) 0 (by omega) (by omega) (Nat.lt_succ_self _)
set_option maxHeartbeats 4000000 in
set_option maxRecDepth 100000 in
theorem mX4_countBlocking (l : Launch) (G : jG) (qp : Nat) (qp0 : Nat) (qp1 : Nat) (gv : Bool) (eb : Nat → Option Nat) (qc : Nat) (qc0 : Nat) (qc1 : Nat) (qc2 : Nat) (qc3 : Nat) (el : Nat) (be : Nat) (pl : Nat → Nat) (le : Nat → Nat) (lb : Nat → Nat) (br : Nat → Bool) (hel : el ≤ 12) (hbe : be ≤ 16) (hle : ∀ k, le k ≤ 100) (hlb : ∀ k, lb k ≤ 100) (hpl : ∀ k, pl k ≤ 4) (heb : ∀ k, ob 12 (eb k)) : MV l yX4_countBlocking wsX4_countBlocking ({ frames := 4, cells := 0, slots := 0, locals := 95 }) G [.ref qp, .ref qc] [(qp, .inr (4, [.ref qp0, .ref qp1, .int (b2i gv)])), kI G qp0 16 (oF eb), (qc, .inr (0, [.ref qc0, .ref qc1, .ref qc2, .ref qc3, .int (nI el), .int (nI be)])), kI G qc0 12 (nF pl), kI G qc1 192 (nF le), kI G qc2 192 (nF lb), kZ G qc3 192 (bF br)] (some (.int (nI (cbO pl le lb br eb be el)))) [(qp, .inr (4, [.ref qp0, .ref qp1, .int (b2i gv)])), kI G qp0 16 (oF eb), (qc, .inr (0, [.ref qc0, .ref qc1, .ref qc2, .ref qc3, .int (nI el), .int (nI be)])), kI G qc0 12 (nF pl), kI G qc1 192 (nF le), kI G qc2 192 (nF lb), kZ G qc3 192 (bF br)] := by
  refine MF.ofJ (cc := cX4_countBlocking) (maxL := 5) (ret := (some .int)) (own := RX4) (lv := [(0, .ref qp), (1, .ref qc)]) (by decide) rfl rfl (Nat.le_of_ble_eq_true rfl) rfl ?_
  intro κ X
  have i_X0 : ∀ w ∈ wsX00, w ∈ wsX4_countBlocking := by decide +kernel
  have i_X4 : ∀ w ∈ wsX40, w ∈ wsX4_countBlocking := by decide +kernel
  refine j_iconst (pc := 0) X (v := nI 0) dX4_countBlocking_0 (by decide) ?_
  refine j_istore_n (pc := 1) X (lv' := [(2, .int (nI 0)), (0, .ref qp), (1, .ref qc)]) dX4_countBlocking_1 rfl (by decide) rfl ?_
  refine j_iconst (pc := 2) X (v := nI 0) dX4_countBlocking_2 (by decide) ?_
  refine j_istore_n (pc := 3) X (lv' := [(3, .int (nI 0)), (2, .int (nI 0)), (0, .ref qp), (1, .ref qc)]) dX4_countBlocking_3 rfl (by decide) rfl ?_
  refine j_lv [2, 3, 1, 0] (lv' := [(0, .ref qp), (1, .ref qc), (2, .int (nI 0)), (3, .int (nI 0))]) rfl ?_
  refine j_lvq (lv' := [(0, .ref qp), (1, .ref qc), (2, .int (nI (cbO pl le lb br eb be 0))), (3, .int (nI 0))]) ?_ ?_
  · first | rfl | (rw [show (0) = cbO pl le lb br eb be 0 from by (rw [show b = be by omega]; rfl)])
  exact mX4_countBlocking_L4 l G qp qp0 qp1 gv eb qc qc0 qc1 qc2 qc3 el be pl le lb br hel hbe hle hlb hpl heb κ X    (el - 0 + 1) 0 (by omega) (Nat.lt_succ_self _)
end
section
set_option maxHeartbeats 4000000 in
set_option maxRecDepth 100000 in
theorem mX5_mayMove (l : Launch) (G : jG) (qp : Nat) (qp0 : Nat) (qp1 : Nat) (gv : Bool) (eb : Nat → Option Nat) (qc : Nat) (qc0 : Nat) (qc1 : Nat) (qc2 : Nat) (qc3 : Nat) (el : Nat) (be : Nat) (le : Nat → Nat) (lb : Nat → Nat) (br : Nat → Bool) (m : Nat) (e : Nat) (hle : ∀ k, le k ≤ 100) (hlb : ∀ k, lb k ≤ 100) (heb : ∀ k, ob 12 (eb k)) (hm : m < 16) (he : e < 12) : MV l yX5_mayMove wsX5_mayMove ({ frames := 2, cells := 0, slots := 0, locals := 44 }) G [.ref qc, .ref qp, .int (nI m), .int (nI e)] [(qp, .inr (4, [.ref qp0, .ref qp1, .int (b2i gv)])), kI G qp0 16 (oF eb), (qc, .inr (0, [.ref qc0, .ref qc1, .ref qc2, .ref qc3, .int (nI el), .int (nI be)])), kI G qc1 192 (nF le), kI G qc2 192 (nF lb), kZ G qc3 192 (bF br)] (some (.int (b2i (mayM le lb br eb m e)))) [(qp, .inr (4, [.ref qp0, .ref qp1, .int (b2i gv)])), kI G qp0 16 (oF eb), (qc, .inr (0, [.ref qc0, .ref qc1, .ref qc2, .ref qc3, .int (nI el), .int (nI be)])), kI G qc1 192 (nF le), kI G qc2 192 (nF lb), kZ G qc3 192 (bF br)] := by
  refine MF.ofJ (cc := cX5_mayMove) (maxL := 4) (ret := (some .boolean)) (own := RX5) (lv := [(0, .ref qc), (1, .ref qp), (2, .int (nI m)), (3, .int (nI e))]) (by decide) rfl rfl (Nat.le_of_ble_eq_true rfl) rfl ?_
  intro κ X
  have i_X0 : ∀ w ∈ wsX00, w ∈ wsX5_mayMove := by decide +kernel
  have i_X4 : ∀ w ∈ wsX40, w ∈ wsX5_mayMove := by decide +kernel
  refine j_iload_n (pc := 0) X dX5_mayMove_0 rfl 3 rfl ?_
  refine j_aload_n (pc := 1) X dX5_mayMove_1 rfl 1 rfl ?_
  refine j_getN (pc := 2) X 4 i_X4 0 rfl rfl 0 (by decide) (by decide +kernel) rfl dX5_mayMove_2 ?_
  refine j_iload_n (pc := 5) X dX5_mayMove_5 rfl 2 rfl ?_
  refine j_iald (pc := 6) X 1 rfl (vp_in_nI (by omega) (by decide)) (v := oI (eb m)) (congrArg (oF eb) (nI_clamp (by omega))) dX5_mayMove_6 ?_
  refine j_icmpO_eq (pc := 7) X (a := (some e)) (b := (eb m)) (by first | exact ob_n | exact ob_s (by omega) | exact (heb _).big (by decide)) (by first | exact ob_n | exact ob_s (by omega) | exact (heb _).big (by decide)) (tgt := 23) dX5_mayMove_7 (by decide) (fun c_7 => ?_) (fun c_7 => ?_)
  · skip
    refine j_iconst (pc := 23) X (v := nI 0) dX5_mayMove_23 (by decide) ?_
    exact j_zret (pc := 24) X (rfl) dX5_mayMove_24 ⟨r0 (by simp [mayM, c_7]), rfl⟩
  · skip
    refine j_aload_n (pc := 10) X dX5_mayMove_10 rfl 0 rfl ?_
    refine j_iload_n (pc := 11) X dX5_mayMove_11 rfl 3 rfl ?_
    refine j_iload_n (pc := 12) X dX5_mayMove_12 rfl 2 rfl ?_
    refine j_ciP (pc := 13) X [2, 3, 4, 5] rfl (j_rVN X (b := qc) (As := [.int (nI e), .int (nI m)]) (ci := 0) (rest := []) 2 (mX0_canPair l G qc qc0 qc1 qc2 qc3 el be le lb br e m (by first | assumption | omega | exact ob_s (by omega) | exact ob_n) (by first | assumption | omega | exact ob_s (by omega) | exact ob_n) (by first | assumption | omega | exact ob_s (by omega) | exact ob_n) (by first | assumption | omega | exact ob_s (by omega) | exact ob_n)) gX5_mayMove_X0_canPair_n47 rfl rfl rfl (by decide +kernel) (by decide +kernel) (by decide +kernel) (by decide +kernel) (by decide +kernel) ⟨Nat.le_of_ble_eq_true rfl, Nat.le_of_ble_eq_true rfl⟩ rfl rfl 0 rfl [2, 3, 4, 5] rfl rfl rfl (Nat.le_of_ble_eq_true rfl) dX5_mayMove_13 ⟨Nat.le_of_ble_eq_true rfl, Nat.le_of_ble_eq_true rfl⟩) ?_
    refine j_ifb_eq (pc := 16) X (B := canB le lb br e m) (tgt := 23) dX5_mayMove_16 (by decide) (fun c_16 => ?_) (fun c_16 => ?_)
    · skip
      refine j_iconst (pc := 23) X (v := nI 0) dX5_mayMove_23 (by decide) ?_
      exact j_zret (pc := 24) X (rfl) dX5_mayMove_24 ⟨r0 (by simp [mayM, c_7, c_16]), rfl⟩
    · skip
      refine j_iconst (pc := 19) X (v := nI 1) dX5_mayMove_19 (by decide) ?_
      refine j_goto (pc := 20) X (tgt := 24) dX5_mayMove_20 (by decide) ?_
      exact j_zret (pc := 24) X (rfl) dX5_mayMove_24 ⟨r1 (by simp [mayM, c_7, c_16]), rfl⟩

set_option maxHeartbeats 4000000 in
set_option maxRecDepth 100000 in
theorem mX5_isFree (l : Launch) (G : jG) (qr : Nat) (qr0 : Nat) (qr1 : Nat) (qd : Nat) (f0 : Nat) (fe : Option Nat) (qp : Nat) (qp0 : Nat) (qp1 : Nat) (gv : Bool) (eb : Nat → Option Nat) (qc : Nat) (qc0 : Nat) (qc1 : Nat) (qc2 : Nat) (qc3 : Nat) (el : Nat) (be : Nat) (pl : Nat → Nat) (e : Nat) (heb : ∀ k, ob 12 (eb k)) (hpl : ∀ k, pl k ≤ 4) (hf : f0 < 16) (he : e < 12) : MV l yX5_isFree wsX5_isFree ({ frames := 1, cells := 0, slots := 0, locals := 23 }) G [.ref qr, .ref qc, .ref qp, .int (nI e)] [(qr, .inr (5, [.ref qr0, .ref qr1, .int (nI qd), .int (oI (some f0)), .int (oI fe)])), (qp, .inr (4, [.ref qp0, .ref qp1, .int (b2i gv)])), kI G qp0 16 (oF eb), (qc, .inr (0, [.ref qc0, .ref qc1, .ref qc2, .ref qc3, .int (nI el), .int (nI be)])), kI G qc0 12 (nF pl)] (some (.int (b2i (frB pl eb f0 e)))) [(qr, .inr (5, [.ref qr0, .ref qr1, .int (nI qd), .int (oI (some f0)), .int (oI fe)])), (qp, .inr (4, [.ref qp0, .ref qp1, .int (b2i gv)])), kI G qp0 16 (oF eb), (qc, .inr (0, [.ref qc0, .ref qc1, .ref qc2, .ref qc3, .int (nI el), .int (nI be)])), kI G qc0 12 (nF pl)] := by
  refine MF.ofJ (cc := cX5_isFree) (maxL := 5) (ret := (some .boolean)) (own := RX5) (lv := [(0, .ref qr), (1, .ref qc), (2, .ref qp), (3, .int (nI e))]) (by decide) rfl rfl (Nat.le_of_ble_eq_true rfl) rfl ?_
  intro κ X
  have i_X0 : ∀ w ∈ wsX00, w ∈ wsX5_isFree := by decide +kernel
  have i_X4 : ∀ w ∈ wsX40, w ∈ wsX5_isFree := by decide +kernel
  have i_X5 : ∀ w ∈ wsX50, w ∈ wsX5_isFree := by decide +kernel
  refine j_aload_n (pc := 0) X dX5_isFree_0 rfl 2 rfl ?_
  refine j_getN (pc := 1) X 4 i_X4 1 rfl rfl 0 (by decide) (by decide +kernel) rfl dX5_isFree_1 ?_
  refine j_aload_n (pc := 4) X dX5_isFree_4 rfl 0 rfl ?_
  refine j_get (pc := 5) X 5 i_X5 0 rfl rfl 3 (by decide) (by decide +kernel) rfl dX5_isFree_5 ?_
  refine j_iald (pc := 8) X 2 rfl (vp_in_nI (by omega) (by decide)) (v := oI (eb f0)) (congrArg (oF eb) (nI_clamp (by omega))) dX5_isFree_8 ?_
  refine j_iload_n (pc := 9) X dX5_isFree_9 rfl 3 rfl ?_
  refine j_icmpO_ne (pc := 10) X (a := (eb f0)) (b := (some e)) (by first | exact ob_n | exact ob_s (by omega) | exact (heb _).big (by decide)) (by first | exact ob_n | exact ob_s (by omega) | exact (heb _).big (by decide)) (tgt := 17) dX5_isFree_10 (by decide) (fun c_10 => ?_) (fun c_10 => ?_)
  · skip
    refine j_iconst (pc := 17) X (v := nI 0) dX5_isFree_17 (by decide) ?_
    refine j_istore (pc := 18) X (lv' := [(4, .int (nI 0)), (0, .ref qr), (1, .ref qc), (2, .ref qp), (3, .int (nI e))]) dX5_isFree_18 (by decide) rfl ?_
    refine j_aload_n (pc := 20) X dX5_isFree_20 rfl 3 rfl ?_
    refine j_iload_n (pc := 21) X dX5_isFree_21 rfl 4 rfl ?_
    refine j_ciP (pc := 22) X [1, 2] rfl (j_rVN X (b := qp) (As := [.int (nI e)]) (ci := 4) (rest := []) 1 (mX4_countOf l G qp qp0 qp1 gv eb e (by first | assumption | omega | exact ob_s (by omega) | exact ob_n) (by first | assumption | omega | exact ob_s (by omega) | exact ob_n)) gX5_isFree_X4_countOf_n64 rfl rfl rfl (by decide +kernel) (by decide +kernel) (by decide +kernel) (by decide +kernel) (by decide +kernel) ⟨Nat.le_of_ble_eq_true rfl, Nat.le_of_ble_eq_true rfl⟩ rfl rfl 0 rfl [1, 2] rfl rfl rfl (Nat.le_of_ble_eq_true rfl) dX5_isFree_22 ⟨Nat.le_of_ble_eq_true rfl, Nat.le_of_ble_eq_true rfl⟩) ?_
    refine j_iload (pc := 25) X dX5_isFree_25 0 rfl ?_
    refine j_isub (pc := 27) X dX5_isFree_27 ?_
    refine j_topi (z := nI (cntO eb e 16 - 0)) (pk_sub (by first | omega | (have h1 := cntO_pos c_10 16 hf; omega))) ?_
    refine j_aload_n (pc := 28) X dX5_isFree_28 rfl 2 rfl ?_
    refine j_getN (pc := 29) X 0 i_X0 3 rfl rfl 0 (by decide) (by decide +kernel) rfl dX5_isFree_29 ?_
    refine j_iload_n (pc := 32) X dX5_isFree_32 rfl 4 rfl ?_
    refine j_iald (pc := 33) X 4 rfl (vp_in_nI (by omega) (by decide)) (v := nI (pl e)) (congrArg (nF pl) (nI_clamp (by omega))) dX5_isFree_33 ?_
    refine j_icmpN_ge (pc := 34) X (a := (cntO eb e 16 - 0)) (b := (pl e)) (by first | omega | (have h1 := cntO_le eb e 16; omega) | exact Nat.lt_of_le_of_lt (hpl _) (by decide)) (by first | omega | (have h1 := cntO_le eb e 16; omega) | exact Nat.lt_of_le_of_lt (hpl _) (by decide)) (tgt := 41) dX5_isFree_34 (by decide) (fun c_34 => ?_) (fun c_34 => ?_)
    · skip
      refine j_iconst (pc := 41) X (v := nI 0) dX5_isFree_41 (by decide) ?_
      exact j_zret (pc := 42) X (rfl) dX5_isFree_42 ⟨r0 (by first | (simp [frB, c_10, c_34]; done) | (simp [frB, c_10, c_34]; omega)), rfl⟩
    · skip
      refine j_iconst (pc := 37) X (v := nI 1) dX5_isFree_37 (by decide) ?_
      refine j_goto (pc := 38) X (tgt := 42) dX5_isFree_38 (by decide) ?_
      exact j_zret (pc := 42) X (rfl) dX5_isFree_42 ⟨r1 (by first | (simp [frB, c_10, c_34]; done) | (simp [frB, c_10, c_34]; omega)), rfl⟩
  · skip
    refine j_iconst (pc := 13) X (v := nI 1) dX5_isFree_13 (by decide) ?_
    refine j_goto (pc := 14) X (tgt := 18) dX5_isFree_14 (by decide) ?_
    refine j_istore (pc := 18) X (lv' := [(4, .int (nI 1)), (0, .ref qr), (1, .ref qc), (2, .ref qp), (3, .int (nI e))]) dX5_isFree_18 (by decide) rfl ?_
    refine j_aload_n (pc := 20) X dX5_isFree_20 rfl 3 rfl ?_
    refine j_iload_n (pc := 21) X dX5_isFree_21 rfl 4 rfl ?_
    refine j_ciP (pc := 22) X [1, 2] rfl (j_rVN X (b := qp) (As := [.int (nI e)]) (ci := 4) (rest := []) 1 (mX4_countOf l G qp qp0 qp1 gv eb e (by first | assumption | omega | exact ob_s (by omega) | exact ob_n) (by first | assumption | omega | exact ob_s (by omega) | exact ob_n)) gX5_isFree_X4_countOf_n64 rfl rfl rfl (by decide +kernel) (by decide +kernel) (by decide +kernel) (by decide +kernel) (by decide +kernel) ⟨Nat.le_of_ble_eq_true rfl, Nat.le_of_ble_eq_true rfl⟩ rfl rfl 0 rfl [1, 2] rfl rfl rfl (Nat.le_of_ble_eq_true rfl) dX5_isFree_22 ⟨Nat.le_of_ble_eq_true rfl, Nat.le_of_ble_eq_true rfl⟩) ?_
    refine j_iload (pc := 25) X dX5_isFree_25 0 rfl ?_
    refine j_isub (pc := 27) X dX5_isFree_27 ?_
    refine j_topi (z := nI (cntO eb e 16 - 1)) (pk_sub (by first | omega | (have h1 := cntO_pos c_10 16 hf; omega))) ?_
    refine j_aload_n (pc := 28) X dX5_isFree_28 rfl 2 rfl ?_
    refine j_getN (pc := 29) X 0 i_X0 3 rfl rfl 0 (by decide) (by decide +kernel) rfl dX5_isFree_29 ?_
    refine j_iload_n (pc := 32) X dX5_isFree_32 rfl 4 rfl ?_
    refine j_iald (pc := 33) X 4 rfl (vp_in_nI (by omega) (by decide)) (v := nI (pl e)) (congrArg (nF pl) (nI_clamp (by omega))) dX5_isFree_33 ?_
    refine j_icmpN_ge (pc := 34) X (a := (cntO eb e 16 - 1)) (b := (pl e)) (by first | omega | (have h1 := cntO_le eb e 16; omega) | exact Nat.lt_of_le_of_lt (hpl _) (by decide)) (by first | omega | (have h1 := cntO_le eb e 16; omega) | exact Nat.lt_of_le_of_lt (hpl _) (by decide)) (tgt := 41) dX5_isFree_34 (by decide) (fun c_34 => ?_) (fun c_34 => ?_)
    · skip
      refine j_iconst (pc := 41) X (v := nI 0) dX5_isFree_41 (by decide) ?_
      exact j_zret (pc := 42) X (rfl) dX5_isFree_42 ⟨r0 (by first | (simp [frB, c_10, c_34]; done) | (simp [frB, c_10, c_34]; omega)), rfl⟩
    · skip
      refine j_iconst (pc := 37) X (v := nI 1) dX5_isFree_37 (by decide) ?_
      refine j_goto (pc := 38) X (tgt := 42) dX5_isFree_38 (by decide) ?_
      exact j_zret (pc := 42) X (rfl) dX5_isFree_42 ⟨r1 (by first | (simp [frB, c_10, c_34]; done) | (simp [frB, c_10, c_34]; omega)), rfl⟩

set_option maxHeartbeats 4000000 in
set_option maxRecDepth 100000 in
theorem mX5_freeElderFor_L3 (l : Launch) (G : jG) (qr : Nat) (qr0 : Nat) (qr1 : Nat) (qd : Nat) (f0 : Nat) (fe : Option Nat) (qp : Nat) (qp0 : Nat) (qp1 : Nat) (gv : Bool) (eb : Nat → Option Nat) (qc : Nat) (qc0 : Nat) (qc1 : Nat) (qc2 : Nat) (qc3 : Nat) (el : Nat) (be : Nat) (pl : Nat → Nat) (le : Nat → Nat) (lb : Nat → Nat) (br : Nat → Bool) (m : Nat) (hel : el ≤ 12) (hle : ∀ k, le k ≤ 100) (hlb : ∀ k, lb k ≤ 100) (hpl : ∀ k, pl k ≤ 4) (heb : ∀ k, ob 12 (eb k)) (hf : f0 < 16) (hm : m < 16) (κ : jK) (X : CX κ l yX5_freeElderFor cX5_freeElderFor 5 RX5 wsX5_freeElderFor (some .int) ({ frames := 3, cells := 0, slots := 0, locals := 67 }) G (va_A [(qr, .inr (5, [.ref qr0, .ref qr1, .int (nI qd), .int (oI (some f0)), .int (oI fe)])), (qp, .inr (4, [.ref qp0, .ref qp1, .int (b2i gv)])), kI G qp0 16 (oF eb), (qc, .inr (0, [.ref qc0, .ref qc1, .ref qc2, .ref qc3, .int (nI el), .int (nI be)])), kI G qc0 12 (nF pl), kI G qc1 192 (nF le), kI G qc2 192 (nF lb), kZ G qc3 192 (bF br)] (js κ).heap.size))    : ∀ (fu : Nat) (e : Nat) (he : e ≤ el) (hff : ffn (fun e => mayM le lb br eb m e && frB pl eb f0 e) e = none) (_ : el - e < fu), JJ κ 5 G (va_A [(qr, .inr (5, [.ref qr0, .ref qr1, .int (nI qd), .int (oI (some f0)), .int (oI fe)])), (qp, .inr (4, [.ref qp0, .ref qp1, .int (b2i gv)])), kI G qp0 16 (oF eb), (qc, .inr (0, [.ref qc0, .ref qc1, .ref qc2, .ref qc3, .int (nI el), .int (nI be)])), kI G qc0 12 (nF pl), kI G qc1 192 (nF le), kI G qc2 192 (nF lb), kZ G qc3 192 (bF br)] (js κ).heap.size) 0 0 (jQ κ G [(qr, .inr (5, [.ref qr0, .ref qr1, .int (nI qd), .int (oI (some f0)), .int (oI fe)])), (qp, .inr (4, [.ref qp0, .ref qp1, .int (b2i gv)])), kI G qp0 16 (oF eb), (qc, .inr (0, [.ref qc0, .ref qc1, .ref qc2, .ref qc3, .int (nI el), .int (nI be)])), kI G qc0 12 (nF pl), kI G qc1 192 (nF le), kI G qc2 192 (nF lb), kZ G qc3 192 (bF br)] (fun r w' => r = some (.int (oI (freeE pl le lb br eb f0 el m))) ∧ w' = [(qr, .inr (5, [.ref qr0, .ref qr1, .int (nI qd), .int (oI (some f0)), .int (oI fe)])), (qp, .inr (4, [.ref qp0, .ref qp1, .int (b2i gv)])), kI G qp0 16 (oF eb), (qc, .inr (0, [.ref qc0, .ref qc1, .ref qc2, .ref qc3, .int (nI el), .int (nI be)])), kI G qc0 12 (nF pl), kI G qc1 192 (nF le), kI G qc2 192 (nF lb), kZ G qc3 192 (bF br)]) 0 0) 3 [(0, .ref qr), (1, .ref qc), (2, .ref qp), (3, .int (nI m)), (4, .int (nI e))] [] [(qr, .inr (5, [.ref qr0, .ref qr1, .int (nI qd), .int (oI (some f0)), .int (oI fe)])), (qp, .inr (4, [.ref qp0, .ref qp1, .int (b2i gv)])), kI G qp0 16 (oF eb), (qc, .inr (0, [.ref qc0, .ref qc1, .ref qc2, .ref qc3, .int (nI el), .int (nI be)])), kI G qc0 12 (nF pl), kI G qc1 192 (nF le), kI G qc2 192 (nF lb), kZ G qc3 192 (bF br)] := by
  have i_X0 : ∀ w ∈ wsX00, w ∈ wsX5_freeElderFor := by decide +kernel
  have i_X4 : ∀ w ∈ wsX40, w ∈ wsX5_freeElderFor := by decide +kernel
  have i_X5 : ∀ w ∈ wsX50, w ∈ wsX5_freeElderFor := by decide +kernel
  intro fu
  induction fu with
  | zero => intro e he hff hms; exact absurd hms (Nat.not_lt_zero _)
  | succ fu ih =>
    intro e he hff hms
    refine j_iload (pc := 3) X dX5_freeElderFor_3 4 rfl ?_
    refine j_aload_n (pc := 5) X dX5_freeElderFor_5 rfl 1 rfl ?_
    refine j_getN (pc := 6) X 0 i_X0 3 rfl rfl 4 (by decide) (by decide +kernel) rfl dX5_freeElderFor_6 ?_
    refine j_icmpN_ge (pc := 9) X (a := e) (b := el) (by omega) (by omega) (tgt := 43) dX5_freeElderFor_9 (by decide) (fun c_9 => ?_) (fun c_9 => ?_)
    · skip
      refine j_iconst (pc := 43) X (v := oI none) dX5_freeElderFor_43 (by decide) ?_
      exact j_iret (pc := 44) X dX5_freeElderFor_44 ⟨by rw [freeE, show el = e by omega, hff], rfl⟩
    · skip
      refine j_aload_n (pc := 12) X dX5_freeElderFor_12 rfl 1 rfl ?_
      refine j_aload_n (pc := 13) X dX5_freeElderFor_13 rfl 2 rfl ?_
      refine j_iload_n (pc := 14) X dX5_freeElderFor_14 rfl 3 rfl ?_
      refine j_iload (pc := 15) X dX5_freeElderFor_15 4 rfl ?_
      refine j_ciP (pc := 17) X [1, 2, 3, 5, 6, 7] rfl (j_rS X (As := [.ref qc, .ref qp, .int (nI m), .int (nI e)]) (rest := []) 4 (mX5_mayMove l G qp qp0 qp1 gv eb qc qc0 qc1 qc2 qc3 el be le lb br m e (by first | assumption | omega | exact ob_s (by omega) | exact ob_n) (by first | assumption | omega | exact ob_s (by omega) | exact ob_n) (by first | assumption | omega | exact ob_s (by omega) | exact ob_n) (by first | assumption | omega | exact ob_s (by omega) | exact ob_n) (by first | assumption | omega | exact ob_s (by omega) | exact ob_n)) gX5_freeElderFor_X5_mayMove rfl rfl rfl (by decide +kernel) ⟨Nat.le_of_ble_eq_true rfl, Nat.le_of_ble_eq_true rfl⟩ rfl [1, 2, 3, 5, 6, 7] rfl rfl rfl (Nat.le_of_ble_eq_true rfl) dX5_freeElderFor_17 ⟨Nat.le_of_ble_eq_true rfl, Nat.le_of_ble_eq_true rfl⟩) ?_
      refine j_ifb_eq (pc := 20) X (B := mayM le lb br eb m e) (tgt := 37) dX5_freeElderFor_20 (by decide) (fun c_20 => ?_) (fun c_20 => ?_)
      · skip
        refine j_iinc (pc := 37) X (v := nI (e + 1)) (lv' := [(4, .int (nI (e + 1))), (0, .ref qr), (1, .ref qc), (2, .ref qp), (3, .int (nI m))]) dX5_freeElderFor_37 4 rfl (nI_1 _) (by decide) rfl ?_
        refine j_goto (pc := 40) X (tgt := 3) dX5_freeElderFor_40 (by decide) ?_
        refine j_lv [1, 2, 3, 4, 0] (lv' := [(0, .ref qr), (1, .ref qc), (2, .ref qp), (3, .int (nI m)), (4, .int (nI (e + 1)))]) rfl ?_
        exact ih (e + 1) (by omega) (by simp [ffn, hff, c_9, c_20]) (by omega)
      · skip
        refine j_aload_n (pc := 23) X dX5_freeElderFor_23 rfl 0 rfl ?_
        refine j_aload_n (pc := 24) X dX5_freeElderFor_24 rfl 1 rfl ?_
        refine j_aload_n (pc := 25) X dX5_freeElderFor_25 rfl 2 rfl ?_
        refine j_iload (pc := 26) X dX5_freeElderFor_26 4 rfl ?_
        refine j_ciP (pc := 28) X [0, 1, 2, 3, 4] rfl (j_rV X (b := qr) (As := [.ref qc, .ref qp, .int (nI e)]) (ci := 5) (rest := []) 3 (mX5_isFree l G qr qr0 qr1 qd f0 fe qp qp0 qp1 gv eb qc qc0 qc1 qc2 qc3 el be pl e (by first | assumption | omega | exact ob_s (by omega) | exact ob_n) (by first | assumption | omega | exact ob_s (by omega) | exact ob_n) (by first | assumption | omega | exact ob_s (by omega) | exact ob_n) (by first | assumption | omega | exact ob_s (by omega) | exact ob_n)) gX5_freeElderFor_X5_isFree rfl rfl rfl (by decide +kernel) ⟨Nat.le_of_ble_eq_true rfl, Nat.le_of_ble_eq_true rfl⟩ rfl rfl 0 rfl [0, 1, 2, 3, 4] rfl rfl rfl (Nat.le_of_ble_eq_true rfl) dX5_freeElderFor_28 ⟨Nat.le_of_ble_eq_true rfl, Nat.le_of_ble_eq_true rfl⟩) ?_
        refine j_ifb_eq (pc := 31) X (B := frB pl eb f0 e) (tgt := 37) dX5_freeElderFor_31 (by decide) (fun c_31 => ?_) (fun c_31 => ?_)
        · skip
          refine j_iinc (pc := 37) X (v := nI (e + 1)) (lv' := [(4, .int (nI (e + 1))), (0, .ref qr), (1, .ref qc), (2, .ref qp), (3, .int (nI m))]) dX5_freeElderFor_37 4 rfl (nI_1 _) (by decide) rfl ?_
          refine j_goto (pc := 40) X (tgt := 3) dX5_freeElderFor_40 (by decide) ?_
          refine j_lv [1, 2, 3, 4, 0] (lv' := [(0, .ref qr), (1, .ref qc), (2, .ref qp), (3, .int (nI m)), (4, .int (nI (e + 1)))]) rfl ?_
          exact ih (e + 1) (by omega) (by simp [ffn, hff, c_9, c_20, c_31]) (by omega)
        · skip
          refine j_iload (pc := 34) X dX5_freeElderFor_34 4 rfl ?_
          exact j_iret (pc := 36) X dX5_freeElderFor_36 ⟨by (show some (Value.int (oI (some e))) = _; rw [freeE, ffn_at hff (by simp [c_9, c_20, c_31]) el (by omega)]), rfl⟩
set_option maxHeartbeats 4000000 in
set_option maxRecDepth 100000 in
theorem mX5_freeElderFor (l : Launch) (G : jG) (qr : Nat) (qr0 : Nat) (qr1 : Nat) (qd : Nat) (f0 : Nat) (fe : Option Nat) (qp : Nat) (qp0 : Nat) (qp1 : Nat) (gv : Bool) (eb : Nat → Option Nat) (qc : Nat) (qc0 : Nat) (qc1 : Nat) (qc2 : Nat) (qc3 : Nat) (el : Nat) (be : Nat) (pl : Nat → Nat) (le : Nat → Nat) (lb : Nat → Nat) (br : Nat → Bool) (m : Nat) (hel : el ≤ 12) (hle : ∀ k, le k ≤ 100) (hlb : ∀ k, lb k ≤ 100) (hpl : ∀ k, pl k ≤ 4) (heb : ∀ k, ob 12 (eb k)) (hf : f0 < 16) (hm : m < 16) : MV l yX5_freeElderFor wsX5_freeElderFor ({ frames := 3, cells := 0, slots := 0, locals := 67 }) G [.ref qr, .ref qc, .ref qp, .int (nI m)] [(qr, .inr (5, [.ref qr0, .ref qr1, .int (nI qd), .int (oI (some f0)), .int (oI fe)])), (qp, .inr (4, [.ref qp0, .ref qp1, .int (b2i gv)])), kI G qp0 16 (oF eb), (qc, .inr (0, [.ref qc0, .ref qc1, .ref qc2, .ref qc3, .int (nI el), .int (nI be)])), kI G qc0 12 (nF pl), kI G qc1 192 (nF le), kI G qc2 192 (nF lb), kZ G qc3 192 (bF br)] (some (.int (oI (freeE pl le lb br eb f0 el m)))) [(qr, .inr (5, [.ref qr0, .ref qr1, .int (nI qd), .int (oI (some f0)), .int (oI fe)])), (qp, .inr (4, [.ref qp0, .ref qp1, .int (b2i gv)])), kI G qp0 16 (oF eb), (qc, .inr (0, [.ref qc0, .ref qc1, .ref qc2, .ref qc3, .int (nI el), .int (nI be)])), kI G qc0 12 (nF pl), kI G qc1 192 (nF le), kI G qc2 192 (nF lb), kZ G qc3 192 (bF br)] := by
  refine MF.ofJ (cc := cX5_freeElderFor) (maxL := 5) (ret := (some .int)) (own := RX5) (lv := [(0, .ref qr), (1, .ref qc), (2, .ref qp), (3, .int (nI m))]) (by decide) rfl rfl (Nat.le_of_ble_eq_true rfl) rfl ?_
  intro κ X
  have i_X0 : ∀ w ∈ wsX00, w ∈ wsX5_freeElderFor := by decide +kernel
  have i_X4 : ∀ w ∈ wsX40, w ∈ wsX5_freeElderFor := by decide +kernel
  have i_X5 : ∀ w ∈ wsX50, w ∈ wsX5_freeElderFor := by decide +kernel
  refine j_iconst (pc := 0) X (v := nI 0) dX5_freeElderFor_0 (by decide) ?_
  refine j_istore (pc := 1) X (lv' := [(4, .int (nI 0)), (0, .ref qr), (1, .ref qc), (2, .ref qp), (3, .int (nI m))]) dX5_freeElderFor_1 (by decide) rfl ?_
  refine j_lv [1, 2, 3, 4, 0] (lv' := [(0, .ref qr), (1, .ref qc), (2, .ref qp), (3, .int (nI m)), (4, .int (nI 0))]) rfl ?_
  exact mX5_freeElderFor_L3 l G qr qr0 qr1 qd f0 fe qp qp0 qp1 gv eb qc qc0 qc1 qc2 qc3 el be pl le lb br m hel hle hlb hpl heb hf hm κ X    (el - 0 + 1) 0 (by omega) (by rfl) (Nat.lt_succ_self _)

set_option maxHeartbeats 4000000 in
set_option maxRecDepth 100000 in
theorem mX5_queueLeaversOf_L3 (l : Launch) (G : jG) (qr : Nat) (qr0 : Nat) (qr1 : Nat) (qd : Nat) (f0 : Nat) (fe : Option Nat) (qu : Nat → Nat) (tk : Nat → Option Nat) (qp : Nat) (qp0 : Nat) (qp1 : Nat) (gv : Bool) (eb : Nat → Option Nat) (qc : Nat) (qc0 : Nat) (qc1 : Nat) (qc2 : Nat) (qc3 : Nat) (el : Nat) (be : Nat) (m : Nat) (e : Nat) (hbe : be ≤ 16) (heb : ∀ k, ob 12 (eb k)) (hf : f0 < 16) (hm : m < 16) (he : e < 12) (hq : qOk (tk, qu, qd)) (κ : jK) (X : CX κ l yX5_queueLeaversOf cX5_queueLeaversOf 7 RX5 wsX5_queueLeaversOf none ({ frames := 0, cells := 0, slots := 0, locals := 0 }) G (va_A [(qr, .inr (5, [.ref qr0, .ref qr1, .int (nI qd), .int (oI (some f0)), .int (oI fe)])), kI G qr0 16 (nF qu), kI G qr1 16 (oF tk), (qp, .inr (4, [.ref qp0, .ref qp1, .int (b2i gv)])), kI G qp0 16 (oF eb), (qc, .inr (0, [.ref qc0, .ref qc1, .ref qc2, .ref qc3, .int (nI el), .int (nI be)]))] (js κ).heap.size))    : ∀ (fu : Nat) (b : Nat) (tk2 : Nat → Option Nat) (qu2 : Nat → Nat) (qd2 : Nat) (hb : b ≤ be) (hs : (tk2, qu2, qd2) = qlB eb f0 m e (tk, qu, qd) b) (_ : be - b < fu), JJ κ 7 G (va_A [(qr, .inr (5, [.ref qr0, .ref qr1, .int (nI qd), .int (oI (some f0)), .int (oI fe)])), kI G qr0 16 (nF qu), kI G qr1 16 (oF tk), (qp, .inr (4, [.ref qp0, .ref qp1, .int (b2i gv)])), kI G qp0 16 (oF eb), (qc, .inr (0, [.ref qc0, .ref qc1, .ref qc2, .ref qc3, .int (nI el), .int (nI be)]))] (js κ).heap.size) 0 0 (jQ κ G [(qr, .inr (5, [.ref qr0, .ref qr1, .int (nI qd), .int (oI (some f0)), .int (oI fe)])), kI G qr0 16 (nF qu), kI G qr1 16 (oF tk), (qp, .inr (4, [.ref qp0, .ref qp1, .int (b2i gv)])), kI G qp0 16 (oF eb), (qc, .inr (0, [.ref qc0, .ref qc1, .ref qc2, .ref qc3, .int (nI el), .int (nI be)]))] (fun r w' => r = none ∧ w' = [(qr, .inr (5, [.ref qr0, .ref qr1, .int (nI ((qlB eb f0 m e (tk, qu, qd) be).2.2)), .int (oI (some f0)), .int (oI fe)])), kI G qr0 16 (nF ((qlB eb f0 m e (tk, qu, qd) be).2.1)), kI G qr1 16 (oF ((qlB eb f0 m e (tk, qu, qd) be).1)), (qp, .inr (4, [.ref qp0, .ref qp1, .int (b2i gv)])), kI G qp0 16 (oF eb), (qc, .inr (0, [.ref qc0, .ref qc1, .ref qc2, .ref qc3, .int (nI el), .int (nI be)]))]) 0 0) 3 [(0, .ref qr), (1, .ref qc), (2, .ref qp), (3, .int (nI m)), (4, .int (nI e)), (5, .int (nI b))] [] [(qr, .inr (5, [.ref qr0, .ref qr1, .int (nI qd2), .int (oI (some f0)), .int (oI fe)])), kI G qr0 16 (nF qu2), kI G qr1 16 (oF tk2), (qp, .inr (4, [.ref qp0, .ref qp1, .int (b2i gv)])), kI G qp0 16 (oF eb), (qc, .inr (0, [.ref qc0, .ref qc1, .ref qc2, .ref qc3, .int (nI el), .int (nI be)]))] := by
  have i_X0 : ∀ w ∈ wsX00, w ∈ wsX5_queueLeaversOf := by decide +kernel
  have i_X4 : ∀ w ∈ wsX40, w ∈ wsX5_queueLeaversOf := by decide +kernel
  have i_X5 : ∀ w ∈ wsX50, w ∈ wsX5_queueLeaversOf := by decide +kernel
  intro fu
  induction fu with
  | zero => intro b tk2 qu2 qd2 hb hs hms; exact absurd hms (Nat.not_lt_zero _)
  | succ fu ih =>
    intro b tk2 qu2 qd2 hb hs hms
    have hok : qOk (tk2, qu2, qd2) := by (rw [hs]; exact qlB_ok hq hm b (by omega))
    refine j_iload (pc := 3) X dX5_queueLeaversOf_3 5 rfl ?_
    refine j_aload_n (pc := 5) X dX5_queueLeaversOf_5 rfl 1 rfl ?_
    refine j_getN (pc := 6) X 0 i_X0 5 rfl rfl 5 (by decide) (by decide +kernel) rfl dX5_queueLeaversOf_6 ?_
    refine j_icmpN_ge (pc := 9) X (a := b) (b := be) (by first | omega | (have h1 := hok.2.2; simp only at h1; omega)) (by first | omega | (have h1 := hok.2.2; simp only at h1; omega)) (tgt := 100) dX5_queueLeaversOf_9 (by decide) (fun c_9 => ?_) (fun c_9 => ?_)
    · skip
      obtain rfl : be = b := by omega
      exact j_vret (pc := 100) X dX5_queueLeaversOf_100 ⟨rfl, by rw [← hs]⟩
    · skip
      refine j_iload (pc := 12) X dX5_queueLeaversOf_12 5 rfl ?_
      refine j_aload_n (pc := 14) X dX5_queueLeaversOf_14 rfl 0 rfl ?_
      refine j_get (pc := 15) X 5 i_X5 0 rfl rfl 3 (by decide) (by decide +kernel) rfl dX5_queueLeaversOf_15 ?_
      refine j_icmpN_eq (pc := 18) X (a := b) (b := f0) (by first | omega | (have h1 := hok.2.2; simp only at h1; omega)) (by first | omega | (have h1 := hok.2.2; simp only at h1; omega)) (tgt := 36) dX5_queueLeaversOf_18 (by decide) (fun c_18 => ?_) (fun c_18 => ?_)
      · skip
        refine j_iconst (pc := 36) X (v := nI 0) dX5_queueLeaversOf_36 (by decide) ?_
        refine j_istore (pc := 37) X (lv' := [(6, .int (nI 0)), (0, .ref qr), (1, .ref qc), (2, .ref qp), (3, .int (nI m)), (4, .int (nI e)), (5, .int (nI b))]) dX5_queueLeaversOf_37 (by decide) rfl ?_
        refine j_iload (pc := 39) X dX5_queueLeaversOf_39 0 rfl ?_
        refine j_ifN_eq (pc := 41) X (a := 0) (by first | omega | (have h1 := hok.2.2; simp only at h1; omega)) (tgt := 94) dX5_queueLeaversOf_41 (by decide) (fun c_41 => ?_) (fun c_41 => ?_)
        · skip
          refine j_iinc (pc := 94) X (v := nI (b + 1)) (lv' := [(5, .int (nI (b + 1))), (6, .int (nI 0)), (0, .ref qr), (1, .ref qc), (2, .ref qp), (3, .int (nI m)), (4, .int (nI e))]) dX5_queueLeaversOf_94 6 rfl (nI_1 _) (by decide) rfl ?_
          refine j_goto (pc := 97) X (tgt := 3) dX5_queueLeaversOf_97 (by decide) ?_
          refine j_lv [2, 3, 4, 5, 6, 0] (lv' := [(0, .ref qr), (1, .ref qc), (2, .ref qp), (3, .int (nI m)), (4, .int (nI e)), (5, .int (nI (b + 1)))]) rfl ?_
          exact ih (b + 1) tk2 qu2 qd2 (by omega) (by simp only [qlB]; rw [← hs]; simp [qlS, c_9, c_18, c_41]) (by omega)
        · skip
          exact absurd c_41 (by decide)
      · skip
        refine j_aload_n (pc := 21) X dX5_queueLeaversOf_21 rfl 0 rfl ?_
        refine j_get (pc := 22) X 5 i_X5 0 rfl rfl 1 (by decide) (by decide +kernel) rfl dX5_queueLeaversOf_22 ?_
        refine j_iload (pc := 25) X dX5_queueLeaversOf_25 5 rfl ?_
        refine j_iald (pc := 27) X 2 rfl (vp_in_nI (by omega) (by decide)) (v := oI (tk2 b)) (congrArg (oF tk2) (nI_clamp (by omega))) dX5_queueLeaversOf_27 ?_
        refine j_iconst (pc := 28) X (v := oI none) dX5_queueLeaversOf_28 (by decide) ?_
        refine j_icmpZ_ne (pc := 29) X (a := (tk2 b)) (by first | exact ob_n | exact ob_s (by omega) | exact (heb _).big (by decide) | exact (hok.1 _).big (by decide)) (tgt := 36) dX5_queueLeaversOf_29 (by decide) (fun c_29 => ?_) (fun c_29 => ?_)
        · skip
          refine j_iconst (pc := 36) X (v := nI 0) dX5_queueLeaversOf_36 (by decide) ?_
          refine j_istore (pc := 37) X (lv' := [(6, .int (nI 0)), (0, .ref qr), (1, .ref qc), (2, .ref qp), (3, .int (nI m)), (4, .int (nI e)), (5, .int (nI b))]) dX5_queueLeaversOf_37 (by decide) rfl ?_
          refine j_iload (pc := 39) X dX5_queueLeaversOf_39 0 rfl ?_
          refine j_ifN_eq (pc := 41) X (a := 0) (by first | omega | (have h1 := hok.2.2; simp only at h1; omega)) (tgt := 94) dX5_queueLeaversOf_41 (by decide) (fun c_41 => ?_) (fun c_41 => ?_)
          · skip
            refine j_iinc (pc := 94) X (v := nI (b + 1)) (lv' := [(5, .int (nI (b + 1))), (6, .int (nI 0)), (0, .ref qr), (1, .ref qc), (2, .ref qp), (3, .int (nI m)), (4, .int (nI e))]) dX5_queueLeaversOf_94 6 rfl (nI_1 _) (by decide) rfl ?_
            refine j_goto (pc := 97) X (tgt := 3) dX5_queueLeaversOf_97 (by decide) ?_
            refine j_lv [2, 3, 4, 5, 6, 0] (lv' := [(0, .ref qr), (1, .ref qc), (2, .ref qp), (3, .int (nI m)), (4, .int (nI e)), (5, .int (nI (b + 1)))]) rfl ?_
            exact ih (b + 1) tk2 qu2 qd2 (by omega) (by simp only [qlB]; rw [← hs]; simp [qlS, c_9, c_18, c_29, c_41]) (by omega)
          · skip
            exact absurd c_41 (by decide)
        · skip
          refine j_iconst (pc := 32) X (v := nI 1) dX5_queueLeaversOf_32 (by decide) ?_
          refine j_goto (pc := 33) X (tgt := 37) dX5_queueLeaversOf_33 (by decide) ?_
          refine j_istore (pc := 37) X (lv' := [(6, .int (nI 1)), (0, .ref qr), (1, .ref qc), (2, .ref qp), (3, .int (nI m)), (4, .int (nI e)), (5, .int (nI b))]) dX5_queueLeaversOf_37 (by decide) rfl ?_
          refine j_iload (pc := 39) X dX5_queueLeaversOf_39 0 rfl ?_
          refine j_ifN_eq (pc := 41) X (a := 1) (by first | omega | (have h1 := hok.2.2; simp only at h1; omega)) (tgt := 94) dX5_queueLeaversOf_41 (by decide) (fun c_41 => ?_) (fun c_41 => ?_)
          · skip
            exact absurd c_41 (by decide)
          · skip
            refine j_aload_n (pc := 44) X dX5_queueLeaversOf_44 rfl 3 rfl ?_
            refine j_getN (pc := 45) X 4 i_X4 3 rfl rfl 0 (by decide) (by decide +kernel) rfl dX5_queueLeaversOf_45 ?_
            refine j_iload (pc := 48) X dX5_queueLeaversOf_48 6 rfl ?_
            refine j_iald (pc := 50) X 4 rfl (vp_in_nI (by omega) (by decide)) (v := oI (eb b)) (congrArg (oF eb) (nI_clamp (by omega))) dX5_queueLeaversOf_50 ?_
            refine j_iload (pc := 51) X dX5_queueLeaversOf_51 5 rfl ?_
            refine j_icmpO_ne (pc := 53) X (a := (eb b)) (b := (some e)) (by first | exact ob_n | exact ob_s (by omega) | exact (heb _).big (by decide) | exact (hok.1 _).big (by decide)) (by first | exact ob_n | exact ob_s (by omega) | exact (heb _).big (by decide) | exact (hok.1 _).big (by decide)) (tgt := 94) dX5_queueLeaversOf_53 (by decide) (fun c_53 => ?_) (fun c_53 => ?_)
            · skip
              refine j_iinc (pc := 94) X (v := nI (b + 1)) (lv' := [(5, .int (nI (b + 1))), (6, .int (nI 1)), (0, .ref qr), (1, .ref qc), (2, .ref qp), (3, .int (nI m)), (4, .int (nI e))]) dX5_queueLeaversOf_94 6 rfl (nI_1 _) (by decide) rfl ?_
              refine j_goto (pc := 97) X (tgt := 3) dX5_queueLeaversOf_97 (by decide) ?_
              refine j_lv [2, 3, 4, 5, 6, 0] (lv' := [(0, .ref qr), (1, .ref qc), (2, .ref qp), (3, .int (nI m)), (4, .int (nI e)), (5, .int (nI (b + 1)))]) rfl ?_
              exact ih (b + 1) tk2 qu2 qd2 (by omega) (by simp only [qlB]; rw [← hs]; simp [qlS, c_9, c_18, c_29, c_41, c_53]) (by omega)
            · skip
              refine j_aload_n (pc := 56) X dX5_queueLeaversOf_56 rfl 1 rfl ?_
              refine j_get (pc := 57) X 5 i_X5 0 rfl rfl 2 (by decide) (by decide +kernel) rfl dX5_queueLeaversOf_57 ?_
              refine j_bipush (pc := 60) X (v := nI 16) dX5_queueLeaversOf_60 (by decide) ?_
              refine j_icmpN_ge (pc := 62) X (a := qd2) (b := 16) (by first | omega | (have h1 := hok.2.2; simp only at h1; omega)) (by first | omega | (have h1 := hok.2.2; simp only at h1; omega)) (tgt := 94) dX5_queueLeaversOf_62 (by decide) (fun c_62 => ?_) (fun c_62 => ?_)
              · skip
                refine j_iinc (pc := 94) X (v := nI (b + 1)) (lv' := [(5, .int (nI (b + 1))), (6, .int (nI 1)), (0, .ref qr), (1, .ref qc), (2, .ref qp), (3, .int (nI m)), (4, .int (nI e))]) dX5_queueLeaversOf_94 6 rfl (nI_1 _) (by decide) rfl ?_
                refine j_goto (pc := 97) X (tgt := 3) dX5_queueLeaversOf_97 (by decide) ?_
                refine j_lv [2, 3, 4, 5, 6, 0] (lv' := [(0, .ref qr), (1, .ref qc), (2, .ref qp), (3, .int (nI m)), (4, .int (nI e)), (5, .int (nI (b + 1)))]) rfl ?_
                exact ih (b + 1) tk2 qu2 qd2 (by omega) (by simp only [qlB]; rw [← hs]; simp [qlS, c_9, c_18, c_29, c_41, c_53, c_62]) (by omega)
              · skip
                refine j_aload_n (pc := 65) X dX5_queueLeaversOf_65 rfl 1 rfl ?_
                refine j_get (pc := 66) X 5 i_X5 0 rfl rfl 1 (by decide) (by decide +kernel) rfl dX5_queueLeaversOf_66 ?_
                refine j_iload (pc := 69) X dX5_queueLeaversOf_69 6 rfl ?_
                refine j_iload_n (pc := 71) X dX5_queueLeaversOf_71 rfl 4 rfl ?_
                refine j_iast (pc := 72) X (f2 := (oF (va_up tk2 b (some m)))) (ws' := [(qr, .inr (5, [.ref qr0, .ref qr1, .int (nI qd2), .int (oI (some f0)), .int (oI fe)])), kI G qr0 16 (nF qu2), kI G qr1 16 (oF (va_up tk2 b (some m))), (qp, .inr (4, [.ref qp0, .ref qp1, .int (b2i gv)])), kI G qp0 16 (oF eb), (qc, .inr (0, [.ref qc0, .ref qc1, .ref qc2, .ref qc3, .int (nI el), .int (nI be)]))]) 2 rfl (vp_in_nI (by omega) (by decide)) dX5_queueLeaversOf_72 (by rw [nI_clamp (by omega)]; exact oF_up tk2 b (some m)) rfl ?_
                refine j_aload_n (pc := 73) X dX5_queueLeaversOf_73 rfl 1 rfl ?_
                refine j_get (pc := 74) X 5 i_X5 0 rfl rfl 0 (by decide) (by decide +kernel) rfl dX5_queueLeaversOf_74 ?_
                refine j_aload_n (pc := 77) X dX5_queueLeaversOf_77 rfl 1 rfl ?_
                refine j_get (pc := 78) X 5 i_X5 0 rfl rfl 2 (by decide) (by decide +kernel) rfl dX5_queueLeaversOf_78 ?_
                refine j_iload (pc := 81) X dX5_queueLeaversOf_81 6 rfl ?_
                refine j_iast (pc := 83) X (f2 := (nF (va_up qu2 qd2 b))) (ws' := [(qr, .inr (5, [.ref qr0, .ref qr1, .int (nI qd2), .int (oI (some f0)), .int (oI fe)])), kI G qr0 16 (nF (va_up qu2 qd2 b)), kI G qr1 16 (oF (va_up tk2 b (some m))), (qp, .inr (4, [.ref qp0, .ref qp1, .int (b2i gv)])), kI G qp0 16 (oF eb), (qc, .inr (0, [.ref qc0, .ref qc1, .ref qc2, .ref qc3, .int (nI el), .int (nI be)]))]) 1 rfl (vp_in_nI (by omega) (by decide)) dX5_queueLeaversOf_83 (by rw [nI_clamp (by omega)]; exact nF_up qu2 qd2 b) rfl ?_
                refine j_aload_n (pc := 84) X dX5_queueLeaversOf_84 rfl 1 rfl ?_
                refine j_dup (pc := 85) X dX5_queueLeaversOf_85 rfl ?_
                refine j_get (pc := 86) X 5 i_X5 0 rfl rfl 2 (by decide) (by decide +kernel) rfl dX5_queueLeaversOf_86 ?_
                refine j_iconst (pc := 89) X (v := nI 1) dX5_queueLeaversOf_89 (by decide) ?_
                refine j_iadd (pc := 90) X dX5_queueLeaversOf_90 ?_
                refine j_topi (z := nI (qd2 + 1)) (nI_add _ _) ?_
                refine j_put (pc := 91) X (v := .int (nI (qd2 + 1))) (ws' := [(qr, .inr (5, [.ref qr0, .ref qr1, .int (nI (qd2 + 1)), .int (oI (some f0)), .int (oI fe)])), kI G qr0 16 (nF (va_up qu2 qd2 b)), kI G qr1 16 (oF (va_up tk2 b (some m))), (qp, .inr (4, [.ref qp0, .ref qp1, .int (b2i gv)])), kI G qp0 16 (oF eb), (qc, .inr (0, [.ref qc0, .ref qc1, .ref qc2, .ref qc3, .int (nI el), .int (nI be)]))]) 5 i_X5 tyX5 tyX5_ok nmX5 0 rfl rfl 2 (by decide) (by decide +kernel) (by decide) (rfl) (rfl) (Nat.le_of_ble_eq_true rfl) dX5_queueLeaversOf_91 rfl ?_
                refine j_iinc (pc := 94) X (v := nI (b + 1)) (lv' := [(5, .int (nI (b + 1))), (6, .int (nI 1)), (0, .ref qr), (1, .ref qc), (2, .ref qp), (3, .int (nI m)), (4, .int (nI e))]) dX5_queueLeaversOf_94 6 rfl (nI_1 _) (by decide) rfl ?_
                refine j_goto (pc := 97) X (tgt := 3) dX5_queueLeaversOf_97 (by decide) ?_
                refine j_lv [2, 3, 4, 5, 6, 0] (lv' := [(0, .ref qr), (1, .ref qc), (2, .ref qp), (3, .int (nI m)), (4, .int (nI e)), (5, .int (nI (b + 1)))]) rfl ?_
                exact ih (b + 1) (va_up tk2 b (some m)) (va_up qu2 qd2 b) (qd2 + 1) (by omega) (by simp only [qlB]; rw [← hs]; simp [qlS, c_9, c_18, c_29, c_41, c_53, c_62]) (by omega)
set_option maxHeartbeats 4000000 in
set_option maxRecDepth 100000 in
theorem mX5_queueLeaversOf (l : Launch) (G : jG) (qr : Nat) (qr0 : Nat) (qr1 : Nat) (qd : Nat) (f0 : Nat) (fe : Option Nat) (qu : Nat → Nat) (tk : Nat → Option Nat) (qp : Nat) (qp0 : Nat) (qp1 : Nat) (gv : Bool) (eb : Nat → Option Nat) (qc : Nat) (qc0 : Nat) (qc1 : Nat) (qc2 : Nat) (qc3 : Nat) (el : Nat) (be : Nat) (m : Nat) (e : Nat) (hbe : be ≤ 16) (heb : ∀ k, ob 12 (eb k)) (hf : f0 < 16) (hm : m < 16) (he : e < 12) (hq : qOk (tk, qu, qd)) : MV l yX5_queueLeaversOf wsX5_queueLeaversOf ({ frames := 0, cells := 0, slots := 0, locals := 0 }) G [.ref qr, .ref qc, .ref qp, .int (nI m), .int (nI e)] [(qr, .inr (5, [.ref qr0, .ref qr1, .int (nI qd), .int (oI (some f0)), .int (oI fe)])), kI G qr0 16 (nF qu), kI G qr1 16 (oF tk), (qp, .inr (4, [.ref qp0, .ref qp1, .int (b2i gv)])), kI G qp0 16 (oF eb), (qc, .inr (0, [.ref qc0, .ref qc1, .ref qc2, .ref qc3, .int (nI el), .int (nI be)]))] (none) [(qr, .inr (5, [.ref qr0, .ref qr1, .int (nI ((qlB eb f0 m e (tk, qu, qd) be).2.2)), .int (oI (some f0)), .int (oI fe)])), kI G qr0 16 (nF ((qlB eb f0 m e (tk, qu, qd) be).2.1)), kI G qr1 16 (oF ((qlB eb f0 m e (tk, qu, qd) be).1)), (qp, .inr (4, [.ref qp0, .ref qp1, .int (b2i gv)])), kI G qp0 16 (oF eb), (qc, .inr (0, [.ref qc0, .ref qc1, .ref qc2, .ref qc3, .int (nI el), .int (nI be)]))] := by
  refine MF.ofJ (cc := cX5_queueLeaversOf) (maxL := 7) (ret := none) (own := RX5) (lv := [(0, .ref qr), (1, .ref qc), (2, .ref qp), (3, .int (nI m)), (4, .int (nI e))]) (by decide) rfl rfl (Nat.le_of_ble_eq_true rfl) rfl ?_
  intro κ X
  have i_X0 : ∀ w ∈ wsX00, w ∈ wsX5_queueLeaversOf := by decide +kernel
  have i_X4 : ∀ w ∈ wsX40, w ∈ wsX5_queueLeaversOf := by decide +kernel
  have i_X5 : ∀ w ∈ wsX50, w ∈ wsX5_queueLeaversOf := by decide +kernel
  refine j_iconst (pc := 0) X (v := nI 0) dX5_queueLeaversOf_0 (by decide) ?_
  refine j_istore (pc := 1) X (lv' := [(5, .int (nI 0)), (0, .ref qr), (1, .ref qc), (2, .ref qp), (3, .int (nI m)), (4, .int (nI e))]) dX5_queueLeaversOf_1 (by decide) rfl ?_
  refine j_lv [1, 2, 3, 4, 5, 0] (lv' := [(0, .ref qr), (1, .ref qc), (2, .ref qp), (3, .int (nI m)), (4, .int (nI e)), (5, .int (nI 0))]) rfl ?_
  exact mX5_queueLeaversOf_L3 l G qr qr0 qr1 qd f0 fe qu tk qp qp0 qp1 gv eb qc qc0 qc1 qc2 qc3 el be m e hbe heb hf hm he hq κ X    (be - 0 + 1) 0 tk qu qd (by omega) (by rfl) (Nat.lt_succ_self _)

set_option maxHeartbeats 4000000 in
set_option maxRecDepth 100000 in
theorem mX5_queueLeavers_L3 (l : Launch) (G : jG) (qr : Nat) (qr0 : Nat) (qr1 : Nat) (qd : Nat) (f0 : Nat) (fe : Option Nat) (qu : Nat → Nat) (tk : Nat → Option Nat) (qp : Nat) (qp0 : Nat) (qp1 : Nat) (gv : Bool) (eb : Nat → Option Nat) (qc : Nat) (qc0 : Nat) (qc1 : Nat) (qc2 : Nat) (qc3 : Nat) (el : Nat) (be : Nat) (le : Nat → Nat) (lb : Nat → Nat) (br : Nat → Bool) (m : Nat) (hel : el ≤ 12) (hbe : be ≤ 16) (hle : ∀ k, le k ≤ 100) (hlb : ∀ k, lb k ≤ 100) (heb : ∀ k, ob 12 (eb k)) (hf : f0 < 16) (hm : m < 16) (hq : qOk (tk, qu, qd)) (κ : jK) (X : CX κ l yX5_queueLeavers cX5_queueLeavers 5 RX5 wsX5_queueLeavers none ({ frames := 3, cells := 0, slots := 0, locals := 67 }) G (va_A [(qr, .inr (5, [.ref qr0, .ref qr1, .int (nI qd), .int (oI (some f0)), .int (oI fe)])), kI G qr0 16 (nF qu), kI G qr1 16 (oF tk), (qp, .inr (4, [.ref qp0, .ref qp1, .int (b2i gv)])), kI G qp0 16 (oF eb), (qc, .inr (0, [.ref qc0, .ref qc1, .ref qc2, .ref qc3, .int (nI el), .int (nI be)])), kI G qc1 192 (nF le), kI G qc2 192 (nF lb), kZ G qc3 192 (bF br)] (js κ).heap.size))    : ∀ (fu : Nat) (e : Nat) (tk2 : Nat → Option Nat) (qu2 : Nat → Nat) (qd2 : Nat) (he : e ≤ el) (hs : (tk2, qu2, qd2) = qlE le lb br eb f0 be m (tk, qu, qd) e) (_ : el - e < fu), JJ κ 5 G (va_A [(qr, .inr (5, [.ref qr0, .ref qr1, .int (nI qd), .int (oI (some f0)), .int (oI fe)])), kI G qr0 16 (nF qu), kI G qr1 16 (oF tk), (qp, .inr (4, [.ref qp0, .ref qp1, .int (b2i gv)])), kI G qp0 16 (oF eb), (qc, .inr (0, [.ref qc0, .ref qc1, .ref qc2, .ref qc3, .int (nI el), .int (nI be)])), kI G qc1 192 (nF le), kI G qc2 192 (nF lb), kZ G qc3 192 (bF br)] (js κ).heap.size) 0 0 (jQ κ G [(qr, .inr (5, [.ref qr0, .ref qr1, .int (nI qd), .int (oI (some f0)), .int (oI fe)])), kI G qr0 16 (nF qu), kI G qr1 16 (oF tk), (qp, .inr (4, [.ref qp0, .ref qp1, .int (b2i gv)])), kI G qp0 16 (oF eb), (qc, .inr (0, [.ref qc0, .ref qc1, .ref qc2, .ref qc3, .int (nI el), .int (nI be)])), kI G qc1 192 (nF le), kI G qc2 192 (nF lb), kZ G qc3 192 (bF br)] (fun r w' => r = none ∧ w' = [(qr, .inr (5, [.ref qr0, .ref qr1, .int (nI ((qlE le lb br eb f0 be m (tk, qu, qd) el).2.2)), .int (oI (some f0)), .int (oI fe)])), kI G qr0 16 (nF ((qlE le lb br eb f0 be m (tk, qu, qd) el).2.1)), kI G qr1 16 (oF ((qlE le lb br eb f0 be m (tk, qu, qd) el).1)), (qp, .inr (4, [.ref qp0, .ref qp1, .int (b2i gv)])), kI G qp0 16 (oF eb), (qc, .inr (0, [.ref qc0, .ref qc1, .ref qc2, .ref qc3, .int (nI el), .int (nI be)])), kI G qc1 192 (nF le), kI G qc2 192 (nF lb), kZ G qc3 192 (bF br)]) 0 0) 3 [(0, .ref qr), (1, .ref qc), (2, .ref qp), (3, .int (nI m)), (4, .int (nI e))] [] [(qr, .inr (5, [.ref qr0, .ref qr1, .int (nI qd2), .int (oI (some f0)), .int (oI fe)])), kI G qr0 16 (nF qu2), kI G qr1 16 (oF tk2), (qp, .inr (4, [.ref qp0, .ref qp1, .int (b2i gv)])), kI G qp0 16 (oF eb), (qc, .inr (0, [.ref qc0, .ref qc1, .ref qc2, .ref qc3, .int (nI el), .int (nI be)])), kI G qc1 192 (nF le), kI G qc2 192 (nF lb), kZ G qc3 192 (bF br)] := by
  have i_X0 : ∀ w ∈ wsX00, w ∈ wsX5_queueLeavers := by decide +kernel
  have i_X4 : ∀ w ∈ wsX40, w ∈ wsX5_queueLeavers := by decide +kernel
  have i_X5 : ∀ w ∈ wsX50, w ∈ wsX5_queueLeavers := by decide +kernel
  intro fu
  induction fu with
  | zero => intro e tk2 qu2 qd2 he hs hms; exact absurd hms (Nat.not_lt_zero _)
  | succ fu ih =>
    intro e tk2 qu2 qd2 he hs hms
    have hok : qOk (tk2, qu2, qd2) := by (rw [hs]; exact qlE_ok hq hm hbe e)
    refine j_iload (pc := 3) X dX5_queueLeavers_3 4 rfl ?_
    refine j_aload_n (pc := 5) X dX5_queueLeavers_5 rfl 1 rfl ?_
    refine j_getN (pc := 6) X 0 i_X0 5 rfl rfl 4 (by decide) (by decide +kernel) rfl dX5_queueLeavers_6 ?_
    refine j_icmpN_ge (pc := 9) X (a := e) (b := el) (by omega) (by omega) (tgt := 38) dX5_queueLeavers_9 (by decide) (fun c_9 => ?_) (fun c_9 => ?_)
    · skip
      obtain rfl : el = e := by omega
      exact j_vret (pc := 38) X dX5_queueLeavers_38 ⟨rfl, by rw [← hs]⟩
    · skip
      refine j_aload_n (pc := 12) X dX5_queueLeavers_12 rfl 1 rfl ?_
      refine j_aload_n (pc := 13) X dX5_queueLeavers_13 rfl 2 rfl ?_
      refine j_iload_n (pc := 14) X dX5_queueLeavers_14 rfl 3 rfl ?_
      refine j_iload (pc := 15) X dX5_queueLeavers_15 4 rfl ?_
      refine j_ciP (pc := 17) X [3, 4, 5, 6, 7, 8] rfl (j_rS X (As := [.ref qc, .ref qp, .int (nI m), .int (nI e)]) (rest := []) 4 (mX5_mayMove l G qp qp0 qp1 gv eb qc qc0 qc1 qc2 qc3 el be le lb br m e (by first | assumption | omega | exact ob_s (by omega) | exact ob_n) (by first | assumption | omega | exact ob_s (by omega) | exact ob_n) (by first | assumption | omega | exact ob_s (by omega) | exact ob_n) (by first | assumption | omega | exact ob_s (by omega) | exact ob_n) (by first | assumption | omega | exact ob_s (by omega) | exact ob_n)) gX5_queueLeavers_X5_mayMove rfl rfl rfl (by decide +kernel) ⟨Nat.le_of_ble_eq_true rfl, Nat.le_of_ble_eq_true rfl⟩ rfl [3, 4, 5, 6, 7, 8] rfl rfl rfl (Nat.le_of_ble_eq_true rfl) dX5_queueLeavers_17 ⟨Nat.le_of_ble_eq_true rfl, Nat.le_of_ble_eq_true rfl⟩) ?_
      refine j_ifb_eq (pc := 20) X (B := mayM le lb br eb m e) (tgt := 32) dX5_queueLeavers_20 (by decide) (fun c_20 => ?_) (fun c_20 => ?_)
      · skip
        refine j_iinc (pc := 32) X (v := nI (e + 1)) (lv' := [(4, .int (nI (e + 1))), (0, .ref qr), (1, .ref qc), (2, .ref qp), (3, .int (nI m))]) dX5_queueLeavers_32 4 rfl (nI_1 _) (by decide) rfl ?_
        refine j_goto (pc := 35) X (tgt := 3) dX5_queueLeavers_35 (by decide) ?_
        refine j_lv [1, 2, 3, 4, 0] (lv' := [(0, .ref qr), (1, .ref qc), (2, .ref qp), (3, .int (nI m)), (4, .int (nI (e + 1)))]) rfl ?_
        exact ih (e + 1) tk2 qu2 qd2 (by omega) (by simp only [qlE]; rw [← hs]; simp [c_9, c_20]) (by omega)
      · skip
        refine j_aload_n (pc := 23) X dX5_queueLeavers_23 rfl 0 rfl ?_
        refine j_aload_n (pc := 24) X dX5_queueLeavers_24 rfl 1 rfl ?_
        refine j_aload_n (pc := 25) X dX5_queueLeavers_25 rfl 2 rfl ?_
        refine j_iload_n (pc := 26) X dX5_queueLeavers_26 rfl 3 rfl ?_
        refine j_iload (pc := 27) X dX5_queueLeavers_27 4 rfl ?_
        refine j_cv (pc := 29) X (ws' := [(qr, .inr (5, [.ref qr0, .ref qr1, .int (nI ((qlB eb f0 m e (tk2, qu2, qd2) be).2.2)), .int (oI (some f0)), .int (oI fe)])), kI G qr0 16 (nF ((qlB eb f0 m e (tk2, qu2, qd2) be).2.1)), kI G qr1 16 (oF ((qlB eb f0 m e (tk2, qu2, qd2) be).1)), (qp, .inr (4, [.ref qp0, .ref qp1, .int (b2i gv)])), kI G qp0 16 (oF eb), (qc, .inr (0, [.ref qc0, .ref qc1, .ref qc2, .ref qc3, .int (nI el), .int (nI be)])), kI G qc1 192 (nF le), kI G qc2 192 (nF lb), kZ G qc3 192 (bF br)]) [0, 1, 2, 3, 4, 5] rfl (j_rV X (b := qr) (As := [.ref qc, .ref qp, .int (nI m), .int (nI e)]) (ci := 5) (rest := []) 4 (mX5_queueLeaversOf l G qr qr0 qr1 qd2 f0 fe qu2 tk2 qp qp0 qp1 gv eb qc qc0 qc1 qc2 qc3 el be m e (by first | assumption | omega | exact ob_s (by omega) | exact ob_n) (by first | assumption | omega | exact ob_s (by omega) | exact ob_n) (by first | assumption | omega | exact ob_s (by omega) | exact ob_n) (by first | assumption | omega | exact ob_s (by omega) | exact ob_n) (by first | assumption | omega | exact ob_s (by omega) | exact ob_n) (by exact hok)) gX5_queueLeavers_X5_queueLeaversOf rfl rfl rfl (by decide +kernel) ⟨Nat.le_of_ble_eq_true rfl, Nat.le_of_ble_eq_true rfl⟩ rfl rfl 0 rfl [0, 1, 2, 3, 4, 5] rfl rfl rfl (Nat.le_of_ble_eq_true rfl) dX5_queueLeavers_29 ⟨Nat.le_of_ble_eq_true rfl, Nat.le_of_ble_eq_true rfl⟩) rfl rfl ?_
        refine j_iinc (pc := 32) X (v := nI (e + 1)) (lv' := [(4, .int (nI (e + 1))), (0, .ref qr), (1, .ref qc), (2, .ref qp), (3, .int (nI m))]) dX5_queueLeavers_32 4 rfl (nI_1 _) (by decide) rfl ?_
        refine j_goto (pc := 35) X (tgt := 3) dX5_queueLeavers_35 (by decide) ?_
        refine j_lv [1, 2, 3, 4, 0] (lv' := [(0, .ref qr), (1, .ref qc), (2, .ref qp), (3, .int (nI m)), (4, .int (nI (e + 1)))]) rfl ?_
        exact ih (e + 1) ((qlB eb f0 m e (tk2, qu2, qd2) be).1) ((qlB eb f0 m e (tk2, qu2, qd2) be).2.1) ((qlB eb f0 m e (tk2, qu2, qd2) be).2.2) (by omega) (by simp only [qlE]; rw [← hs]; simp [c_9, c_20]) (by omega)
set_option maxHeartbeats 4000000 in
set_option maxRecDepth 100000 in
theorem mX5_queueLeavers (l : Launch) (G : jG) (qr : Nat) (qr0 : Nat) (qr1 : Nat) (qd : Nat) (f0 : Nat) (fe : Option Nat) (qu : Nat → Nat) (tk : Nat → Option Nat) (qp : Nat) (qp0 : Nat) (qp1 : Nat) (gv : Bool) (eb : Nat → Option Nat) (qc : Nat) (qc0 : Nat) (qc1 : Nat) (qc2 : Nat) (qc3 : Nat) (el : Nat) (be : Nat) (le : Nat → Nat) (lb : Nat → Nat) (br : Nat → Bool) (m : Nat) (hel : el ≤ 12) (hbe : be ≤ 16) (hle : ∀ k, le k ≤ 100) (hlb : ∀ k, lb k ≤ 100) (heb : ∀ k, ob 12 (eb k)) (hf : f0 < 16) (hm : m < 16) (hq : qOk (tk, qu, qd)) : MV l yX5_queueLeavers wsX5_queueLeavers ({ frames := 3, cells := 0, slots := 0, locals := 67 }) G [.ref qr, .ref qc, .ref qp, .int (nI m)] [(qr, .inr (5, [.ref qr0, .ref qr1, .int (nI qd), .int (oI (some f0)), .int (oI fe)])), kI G qr0 16 (nF qu), kI G qr1 16 (oF tk), (qp, .inr (4, [.ref qp0, .ref qp1, .int (b2i gv)])), kI G qp0 16 (oF eb), (qc, .inr (0, [.ref qc0, .ref qc1, .ref qc2, .ref qc3, .int (nI el), .int (nI be)])), kI G qc1 192 (nF le), kI G qc2 192 (nF lb), kZ G qc3 192 (bF br)] (none) [(qr, .inr (5, [.ref qr0, .ref qr1, .int (nI ((qlE le lb br eb f0 be m (tk, qu, qd) el).2.2)), .int (oI (some f0)), .int (oI fe)])), kI G qr0 16 (nF ((qlE le lb br eb f0 be m (tk, qu, qd) el).2.1)), kI G qr1 16 (oF ((qlE le lb br eb f0 be m (tk, qu, qd) el).1)), (qp, .inr (4, [.ref qp0, .ref qp1, .int (b2i gv)])), kI G qp0 16 (oF eb), (qc, .inr (0, [.ref qc0, .ref qc1, .ref qc2, .ref qc3, .int (nI el), .int (nI be)])), kI G qc1 192 (nF le), kI G qc2 192 (nF lb), kZ G qc3 192 (bF br)] := by
  refine MF.ofJ (cc := cX5_queueLeavers) (maxL := 5) (ret := none) (own := RX5) (lv := [(0, .ref qr), (1, .ref qc), (2, .ref qp), (3, .int (nI m))]) (by decide) rfl rfl (Nat.le_of_ble_eq_true rfl) rfl ?_
  intro κ X
  have i_X0 : ∀ w ∈ wsX00, w ∈ wsX5_queueLeavers := by decide +kernel
  have i_X4 : ∀ w ∈ wsX40, w ∈ wsX5_queueLeavers := by decide +kernel
  have i_X5 : ∀ w ∈ wsX50, w ∈ wsX5_queueLeavers := by decide +kernel
  refine j_iconst (pc := 0) X (v := nI 0) dX5_queueLeavers_0 (by decide) ?_
  refine j_istore (pc := 1) X (lv' := [(4, .int (nI 0)), (0, .ref qr), (1, .ref qc), (2, .ref qp), (3, .int (nI m))]) dX5_queueLeavers_1 (by decide) rfl ?_
  refine j_lv [1, 2, 3, 4, 0] (lv' := [(0, .ref qr), (1, .ref qc), (2, .ref qp), (3, .int (nI m)), (4, .int (nI 0))]) rfl ?_
  exact mX5_queueLeavers_L3 l G qr qr0 qr1 qd f0 fe qu tk qp qp0 qp1 gv eb qc qc0 qc1 qc2 qc3 el be le lb br m hel hbe hle hlb heb hf hm hq κ X    (el - 0 + 1) 0 tk qu qd (by omega) (by rfl) (Nat.lt_succ_self _)

set_option maxHeartbeats 4000000 in
set_option maxRecDepth 100000 in
theorem mX5_findLast_L28 (l : Launch) (G : jG) (qr : Nat) (qr0 : Nat) (qr1 : Nat) (qd : Nat) (fi : Option Nat) (fe : Option Nat) (qu : Nat → Nat) (tk : Nat → Option Nat) (qp : Nat) (qp0 : Nat) (qp1 : Nat) (gv : Bool) (eb : Nat → Option Nat) (qc : Nat) (qc0 : Nat) (qc1 : Nat) (qc2 : Nat) (qc3 : Nat) (el : Nat) (be : Nat) (pl : Nat → Nat) (le : Nat → Nat) (lb : Nat → Nat) (br : Nat → Bool) (b0 : Nat) (hel : el ≤ 12) (hbe : be ≤ 16) (hle : ∀ k, le k ≤ 100) (hlb : ∀ k, lb k ≤ 100) (hpl : ∀ k, pl k ≤ 4) (heb : ∀ k, ob 12 (eb k)) (hb0 : b0 < 16) (hqu : ∀ k, qu k < 16) (htk : ∀ k, ob 16 (tk k)) (κ : jK) (X : CX κ l yX5_findLast cX5_findLast 6 RX5 wsX5_findLast (some .int) ({ frames := 4, cells := 0, slots := 0, locals := 91 }) G (va_A [(qr, .inr (5, [.ref qr0, .ref qr1, .int (nI qd), .int (oI fi), .int (oI fe)])), kI G qr0 16 (nF qu), kI G qr1 16 (oF tk), (qp, .inr (4, [.ref qp0, .ref qp1, .int (b2i gv)])), kI G qp0 16 (oF eb), (qc, .inr (0, [.ref qc0, .ref qc1, .ref qc2, .ref qc3, .int (nI el), .int (nI be)])), kI G qc0 12 (nF pl), kI G qc1 192 (nF le), kI G qc2 192 (nF lb), kZ G qc3 192 (bF br)] (js κ).heap.size))    : ∀ (fu : Nat) (at_ : Nat) (tk2 : Nat → Option Nat) (qu2 : Nat → Nat) (qd2 : Nat) (fe2 : Option Nat) (hat : at_ ≤ 16) (hok : qOk (tk2, qu2, qd2)) (hs : flF pl le lb br eb b0 el be (16 - at_) (tk2, qu2, qd2) fe2 = flF pl le lb br eb b0 el be 16 (flI tk qu b0) fe) (_ : 16 - at_ < fu), JJ κ 6 G (va_A [(qr, .inr (5, [.ref qr0, .ref qr1, .int (nI qd), .int (oI fi), .int (oI fe)])), kI G qr0 16 (nF qu), kI G qr1 16 (oF tk), (qp, .inr (4, [.ref qp0, .ref qp1, .int (b2i gv)])), kI G qp0 16 (oF eb), (qc, .inr (0, [.ref qc0, .ref qc1, .ref qc2, .ref qc3, .int (nI el), .int (nI be)])), kI G qc0 12 (nF pl), kI G qc1 192 (nF le), kI G qc2 192 (nF lb), kZ G qc3 192 (bF br)] (js κ).heap.size) 0 0 (jQ κ G [(qr, .inr (5, [.ref qr0, .ref qr1, .int (nI qd), .int (oI fi), .int (oI fe)])), kI G qr0 16 (nF qu), kI G qr1 16 (oF tk), (qp, .inr (4, [.ref qp0, .ref qp1, .int (b2i gv)])), kI G qp0 16 (oF eb), (qc, .inr (0, [.ref qc0, .ref qc1, .ref qc2, .ref qc3, .int (nI el), .int (nI be)])), kI G qc0 12 (nF pl), kI G qc1 192 (nF le), kI G qc2 192 (nF lb), kZ G qc3 192 (bF br)] (fun r w' => r = some (.int (oI ((flF pl le lb br eb b0 el be 16 (flI tk qu b0) fe).1))) ∧ w' = [(qr, .inr (5, [.ref qr0, .ref qr1, .int (nI ((flF pl le lb br eb b0 el be 16 (flI tk qu b0) fe).2.1.2.2)), .int (oI (some b0)), .int (oI ((flF pl le lb br eb b0 el be 16 (flI tk qu b0) fe).2.2))])), kI G qr0 16 (nF ((flF pl le lb br eb b0 el be 16 (flI tk qu b0) fe).2.1.2.1)), kI G qr1 16 (oF ((flF pl le lb br eb b0 el be 16 (flI tk qu b0) fe).2.1.1)), (qp, .inr (4, [.ref qp0, .ref qp1, .int (b2i gv)])), kI G qp0 16 (oF eb), (qc, .inr (0, [.ref qc0, .ref qc1, .ref qc2, .ref qc3, .int (nI el), .int (nI be)])), kI G qc0 12 (nF pl), kI G qc1 192 (nF le), kI G qc2 192 (nF lb), kZ G qc3 192 (bF br)]) 0 0) 28 [(0, .ref qr), (1, .ref qc), (2, .ref qp), (4, .int (nI at_))] [] [(qr, .inr (5, [.ref qr0, .ref qr1, .int (nI qd2), .int (oI (some b0)), .int (oI fe2)])), kI G qr0 16 (nF qu2), kI G qr1 16 (oF tk2), (qp, .inr (4, [.ref qp0, .ref qp1, .int (b2i gv)])), kI G qp0 16 (oF eb), (qc, .inr (0, [.ref qc0, .ref qc1, .ref qc2, .ref qc3, .int (nI el), .int (nI be)])), kI G qc0 12 (nF pl), kI G qc1 192 (nF le), kI G qc2 192 (nF lb), kZ G qc3 192 (bF br)] := by
  have i_X0 : ∀ w ∈ wsX00, w ∈ wsX5_findLast := by decide +kernel
  have i_X4 : ∀ w ∈ wsX40, w ∈ wsX5_findLast := by decide +kernel
  have i_X5 : ∀ w ∈ wsX50, w ∈ wsX5_findLast := by decide +kernel
  intro fu
  induction fu with
  | zero => intro at_ tk2 qu2 qd2 fe2 hat hok hs hms; exact absurd hms (Nat.not_lt_zero _)
  | succ fu ih =>
    intro at_ tk2 qu2 qd2 fe2 hat hok hs hms
    refine j_iload (pc := 28) X dX5_findLast_28 3 rfl ?_
    refine j_bipush (pc := 30) X (v := nI 16) dX5_findLast_30 (by decide) ?_
    refine j_icmpN_ge (pc := 32) X (a := at_) (b := 16) (by first | omega | (have h1 := hok.2.2; simp only at h1; omega)) (by first | omega | (have h1 := hok.2.2; simp only at h1; omega)) (tgt := 90) dX5_findLast_32 (by decide) (fun c_32 => ?_) (fun c_32 => ?_)
    · skip
      refine j_iconst (pc := 90) X (v := oI none) dX5_findLast_90 (by decide) ?_
      have hs : flF pl le lb br eb b0 el be 16 (flI tk qu b0) fe = (none, (tk2, qu2, qd2), fe2) := by rw [← hs, show 16 - at_ = 0 by omega]; rfl
      refine j_iret (pc := 91) X dX5_findLast_91 ?_
      rw [hs]; exact ⟨rfl, rfl⟩
    · skip
      refine j_iload (pc := 35) X dX5_findLast_35 3 rfl ?_
      refine j_aload_n (pc := 37) X dX5_findLast_37 rfl 0 rfl ?_
      refine j_get (pc := 38) X 5 i_X5 0 rfl rfl 2 (by decide) (by decide +kernel) rfl dX5_findLast_38 ?_
      refine j_icmpN_ge (pc := 41) X (a := at_) (b := qd2) (by first | omega | (have h1 := hok.2.2; simp only at h1; omega)) (by first | omega | (have h1 := hok.2.2; simp only at h1; omega)) (tgt := 90) dX5_findLast_41 (by decide) (fun c_41 => ?_) (fun c_41 => ?_)
      · skip
        refine j_iconst (pc := 90) X (v := oI none) dX5_findLast_90 (by decide) ?_
        have hs : flF pl le lb br eb b0 el be 16 (flI tk qu b0) fe = (none, (tk2, qu2, qd2), fe2) := by rw [← hs]; cases h9 : 16 - at_ with | zero => rfl | succ n => rw [flF, if_neg (by simp only; omega)]
        refine j_iret (pc := 91) X dX5_findLast_91 ?_
        rw [hs]; exact ⟨rfl, rfl⟩
      · skip
        refine j_aload_n (pc := 44) X dX5_findLast_44 rfl 0 rfl ?_
        refine j_get (pc := 45) X 5 i_X5 0 rfl rfl 0 (by decide) (by decide +kernel) rfl dX5_findLast_45 ?_
        refine j_iload (pc := 48) X dX5_findLast_48 3 rfl ?_
        refine j_iald (pc := 50) X 1 rfl (vp_in_nI (by omega) (by decide)) (v := nI (qu2 at_)) (congrArg (nF qu2) (nI_clamp (by omega))) dX5_findLast_50 ?_
        refine j_istore (pc := 51) X (lv' := [(5, .int (nI (qu2 at_))), (0, .ref qr), (1, .ref qc), (2, .ref qp), (4, .int (nI at_))]) dX5_findLast_51 (by decide) rfl ?_
        refine j_aload_n (pc := 53) X dX5_findLast_53 rfl 1 rfl ?_
        refine j_aload_n (pc := 54) X dX5_findLast_54 rfl 1 rfl ?_
        refine j_aload_n (pc := 55) X dX5_findLast_55 rfl 2 rfl ?_
        refine j_aload_n (pc := 56) X dX5_findLast_56 rfl 3 rfl ?_
        refine j_iload (pc := 57) X dX5_findLast_57 0 rfl ?_
        refine j_ciP (pc := 59) X [0, 3, 4, 5, 6, 7, 8, 9] rfl (j_rV X (b := qr) (As := [.ref qc, .ref qp, .int (nI (qu2 at_))]) (ci := 5) (rest := [.ref qr]) 3 (mX5_freeElderFor l G qr qr0 qr1 qd2 b0 fe2 qp qp0 qp1 gv eb qc qc0 qc1 qc2 qc3 el be pl le lb br (qu2 at_) (by first | assumption | omega | exact ob_s (by omega) | exact ob_n) (by first | assumption | omega | exact ob_s (by omega) | exact ob_n) (by first | assumption | omega | exact ob_s (by omega) | exact ob_n) (by first | assumption | omega | exact ob_s (by omega) | exact ob_n) (by first | assumption | omega | exact ob_s (by omega) | exact ob_n) (by first | assumption | omega | exact ob_s (by omega) | exact ob_n) (by exact hok.2.1 at_)) gX5_findLast_X5_freeElderFor rfl rfl rfl (by decide +kernel) ⟨Nat.le_of_ble_eq_true rfl, Nat.le_of_ble_eq_true rfl⟩ rfl rfl 0 rfl [0, 3, 4, 5, 6, 7, 8, 9] rfl rfl rfl (Nat.le_of_ble_eq_true rfl) dX5_findLast_59 ⟨Nat.le_of_ble_eq_true rfl, Nat.le_of_ble_eq_true rfl⟩) ?_
        refine j_put (pc := 62) X (v := .int (oI (freeE pl le lb br eb b0 el (qu2 at_)))) (ws' := [(qr, .inr (5, [.ref qr0, .ref qr1, .int (nI qd2), .int (oI (some b0)), .int (oI (freeE pl le lb br eb b0 el (qu2 at_)))])), kI G qr0 16 (nF qu2), kI G qr1 16 (oF tk2), (qp, .inr (4, [.ref qp0, .ref qp1, .int (b2i gv)])), kI G qp0 16 (oF eb), (qc, .inr (0, [.ref qc0, .ref qc1, .ref qc2, .ref qc3, .int (nI el), .int (nI be)])), kI G qc0 12 (nF pl), kI G qc1 192 (nF le), kI G qc2 192 (nF lb), kZ G qc3 192 (bF br)]) 5 i_X5 tyX5 tyX5_ok nmX5 0 rfl rfl 4 (by decide) (by decide +kernel) (by decide) (rfl) (rfl) (Nat.le_of_ble_eq_true rfl) dX5_findLast_62 rfl ?_
        refine j_aload_n (pc := 65) X dX5_findLast_65 rfl 1 rfl ?_
        refine j_get (pc := 66) X 5 i_X5 0 rfl rfl 4 (by decide) (by decide +kernel) rfl dX5_findLast_66 ?_
        refine j_iconst (pc := 69) X (v := oI none) dX5_findLast_69 (by decide) ?_
        refine j_icmpZ_eq (pc := 70) X (a := (freeE pl le lb br eb b0 el (qu2 at_))) (by first | exact ob_n | exact (ffn_ob _ _).big (by omega)) (tgt := 76) dX5_findLast_70 (by decide) (fun c_70 => ?_) (fun c_70 => ?_)
        · skip
          refine j_aload_n (pc := 76) X dX5_findLast_76 rfl 1 rfl ?_
          refine j_aload_n (pc := 77) X dX5_findLast_77 rfl 2 rfl ?_
          refine j_aload_n (pc := 78) X dX5_findLast_78 rfl 3 rfl ?_
          refine j_iload (pc := 79) X dX5_findLast_79 0 rfl ?_
          refine j_cv (pc := 81) X (ws' := [(qr, .inr (5, [.ref qr0, .ref qr1, .int (nI ((qlE le lb br eb b0 be (qu2 at_) (tk2, qu2, qd2) el).2.2)), .int (oI (some b0)), .int (oI (freeE pl le lb br eb b0 el (qu2 at_)))])), kI G qr0 16 (nF ((qlE le lb br eb b0 be (qu2 at_) (tk2, qu2, qd2) el).2.1)), kI G qr1 16 (oF ((qlE le lb br eb b0 be (qu2 at_) (tk2, qu2, qd2) el).1)), (qp, .inr (4, [.ref qp0, .ref qp1, .int (b2i gv)])), kI G qp0 16 (oF eb), (qc, .inr (0, [.ref qc0, .ref qc1, .ref qc2, .ref qc3, .int (nI el), .int (nI be)])), kI G qc0 12 (nF pl), kI G qc1 192 (nF le), kI G qc2 192 (nF lb), kZ G qc3 192 (bF br)]) [0, 1, 2, 3, 4, 5, 7, 8, 9] rfl (j_rV X (b := qr) (As := [.ref qc, .ref qp, .int (nI (qu2 at_))]) (ci := 5) (rest := []) 3 (mX5_queueLeavers l G qr qr0 qr1 qd2 b0 (freeE pl le lb br eb b0 el (qu2 at_)) qu2 tk2 qp qp0 qp1 gv eb qc qc0 qc1 qc2 qc3 el be le lb br (qu2 at_) (by first | assumption | omega | exact ob_s (by omega) | exact ob_n) (by first | assumption | omega | exact ob_s (by omega) | exact ob_n) (by first | assumption | omega | exact ob_s (by omega) | exact ob_n) (by first | assumption | omega | exact ob_s (by omega) | exact ob_n) (by first | assumption | omega | exact ob_s (by omega) | exact ob_n) (by first | assumption | omega | exact ob_s (by omega) | exact ob_n) (by exact hok.2.1 at_) (by exact hok)) gX5_findLast_X5_queueLeavers rfl rfl rfl (by decide +kernel) ⟨Nat.le_of_ble_eq_true rfl, Nat.le_of_ble_eq_true rfl⟩ rfl rfl 0 rfl [0, 1, 2, 3, 4, 5, 7, 8, 9] rfl rfl rfl (Nat.le_of_ble_eq_true rfl) dX5_findLast_81 ⟨Nat.le_of_ble_eq_true rfl, Nat.le_of_ble_eq_true rfl⟩) rfl rfl ?_
          refine j_iinc (pc := 84) X (v := nI (at_ + 1)) (lv' := [(4, .int (nI (at_ + 1))), (5, .int (nI (qu2 at_))), (0, .ref qr), (1, .ref qc), (2, .ref qp)]) dX5_findLast_84 4 rfl (nI_1 _) (by decide) rfl ?_
          refine j_goto (pc := 87) X (tgt := 28) dX5_findLast_87 (by decide) ?_
          refine j_lv [2, 3, 4, 0] (lv' := [(0, .ref qr), (1, .ref qc), (2, .ref qp), (4, .int (nI (at_ + 1)))]) rfl ?_
          exact ih (at_ + 1) ((qlE le lb br eb b0 be (qu2 at_) (tk2, qu2, qd2) el).1) ((qlE le lb br eb b0 be (qu2 at_) (tk2, qu2, qd2) el).2.1) ((qlE le lb br eb b0 be (qu2 at_) (tk2, qu2, qd2) el).2.2) (freeE pl le lb br eb b0 el (qu2 at_)) (by omega) (qlE_ok hok (hok.2.1 at_) hbe el) (by rw [← hs, show 16 - at_ = (16 - (at_ + 1)) + 1 by omega]; rw [flF]; simp only [show 15 - (16 - (at_ + 1)) = at_ by omega]; rw [if_pos (by omega)]; simp [c_70]) (by omega)
        · skip
          refine j_iload (pc := 73) X dX5_findLast_73 0 rfl ?_
          have hs : flF pl le lb br eb b0 el be 16 (flI tk qu b0) fe = (some (qu2 at_), (tk2, qu2, qd2), freeE pl le lb br eb b0 el (qu2 at_)) := by rw [← hs, show 16 - at_ = (15 - at_) + 1 by omega]; rw [flF]; simp only [show 15 - (15 - at_) = at_ by omega]; rw [if_pos (by omega)]; obtain ⟨x, hx⟩ := Option.ne_none_iff_exists'.mp c_70; simp [hx]
          refine j_iret (pc := 75) X dX5_findLast_75 ?_
          rw [hs]; exact ⟨rfl, rfl⟩
set_option maxHeartbeats 4000000 in
set_option maxRecDepth 100000 in
theorem mX5_findLast (l : Launch) (G : jG) (qr : Nat) (qr0 : Nat) (qr1 : Nat) (qd : Nat) (fi : Option Nat) (fe : Option Nat) (qu : Nat → Nat) (tk : Nat → Option Nat) (qp : Nat) (qp0 : Nat) (qp1 : Nat) (gv : Bool) (eb : Nat → Option Nat) (qc : Nat) (qc0 : Nat) (qc1 : Nat) (qc2 : Nat) (qc3 : Nat) (el : Nat) (be : Nat) (pl : Nat → Nat) (le : Nat → Nat) (lb : Nat → Nat) (br : Nat → Bool) (b0 : Nat) (hel : el ≤ 12) (hbe : be ≤ 16) (hle : ∀ k, le k ≤ 100) (hlb : ∀ k, lb k ≤ 100) (hpl : ∀ k, pl k ≤ 4) (heb : ∀ k, ob 12 (eb k)) (hb0 : b0 < 16) (hqu : ∀ k, qu k < 16) (htk : ∀ k, ob 16 (tk k)) : MV l yX5_findLast wsX5_findLast ({ frames := 4, cells := 0, slots := 0, locals := 91 }) G [.ref qr, .ref qc, .ref qp, .int (nI b0)] [(qr, .inr (5, [.ref qr0, .ref qr1, .int (nI qd), .int (oI fi), .int (oI fe)])), kI G qr0 16 (nF qu), kI G qr1 16 (oF tk), (qp, .inr (4, [.ref qp0, .ref qp1, .int (b2i gv)])), kI G qp0 16 (oF eb), (qc, .inr (0, [.ref qc0, .ref qc1, .ref qc2, .ref qc3, .int (nI el), .int (nI be)])), kI G qc0 12 (nF pl), kI G qc1 192 (nF le), kI G qc2 192 (nF lb), kZ G qc3 192 (bF br)] (some (.int (oI ((flF pl le lb br eb b0 el be 16 (flI tk qu b0) fe).1)))) [(qr, .inr (5, [.ref qr0, .ref qr1, .int (nI ((flF pl le lb br eb b0 el be 16 (flI tk qu b0) fe).2.1.2.2)), .int (oI (some b0)), .int (oI ((flF pl le lb br eb b0 el be 16 (flI tk qu b0) fe).2.2))])), kI G qr0 16 (nF ((flF pl le lb br eb b0 el be 16 (flI tk qu b0) fe).2.1.2.1)), kI G qr1 16 (oF ((flF pl le lb br eb b0 el be 16 (flI tk qu b0) fe).2.1.1)), (qp, .inr (4, [.ref qp0, .ref qp1, .int (b2i gv)])), kI G qp0 16 (oF eb), (qc, .inr (0, [.ref qc0, .ref qc1, .ref qc2, .ref qc3, .int (nI el), .int (nI be)])), kI G qc0 12 (nF pl), kI G qc1 192 (nF le), kI G qc2 192 (nF lb), kZ G qc3 192 (bF br)] := by
  refine MF.ofJ (cc := cX5_findLast) (maxL := 6) (ret := (some .int)) (own := RX5) (lv := [(0, .ref qr), (1, .ref qc), (2, .ref qp), (3, .int (nI b0))]) (by decide) rfl rfl (Nat.le_of_ble_eq_true rfl) rfl ?_
  intro κ X
  have i_X0 : ∀ w ∈ wsX00, w ∈ wsX5_findLast := by decide +kernel
  have i_X4 : ∀ w ∈ wsX40, w ∈ wsX5_findLast := by decide +kernel
  have i_X5 : ∀ w ∈ wsX50, w ∈ wsX5_findLast := by decide +kernel
  refine j_aload_n (pc := 0) X dX5_findLast_0 rfl 0 rfl ?_
  refine j_get (pc := 1) X 5 i_X5 0 rfl rfl 1 (by decide) (by decide +kernel) rfl dX5_findLast_1 ?_
  refine j_iconst (pc := 4) X (v := oI none) dX5_findLast_4 (by decide) ?_
  refine j_cv (pc := 5) X (ws' := [(qr, .inr (5, [.ref qr0, .ref qr1, .int (nI qd), .int (oI fi), .int (oI fe)])), kI G qr0 16 (nF qu), kI G qr1 16 (oF (fil none tk 16)), (qp, .inr (4, [.ref qp0, .ref qp1, .int (b2i gv)])), kI G qp0 16 (oF eb), (qc, .inr (0, [.ref qc0, .ref qc1, .ref qc2, .ref qc3, .int (nI el), .int (nI be)])), kI G qc0 12 (nF pl), kI G qc1 192 (nF le), kI G qc2 192 (nF lb), kZ G qc3 192 (bF br)]) [2] rfl (j_rS X (As := [.ref qr1, .int (oI none)]) (rest := []) 2 (mJ7_fill_53178 l G qr1 16 tk none (by first | assumption | omega | exact ob_s (by omega) | exact ob_n)) gX5_findLast_J7_fill_53178 rfl rfl rfl (by decide +kernel) ⟨Nat.le_of_ble_eq_true rfl, Nat.le_of_ble_eq_true rfl⟩ rfl [2] rfl rfl rfl (Nat.le_of_ble_eq_true rfl) dX5_findLast_5 ⟨Nat.le_of_ble_eq_true rfl, Nat.le_of_ble_eq_true rfl⟩) rfl rfl ?_
  refine j_aload_n (pc := 8) X dX5_findLast_8 rfl 0 rfl ?_
  refine j_iload_n (pc := 9) X dX5_findLast_9 rfl 3 rfl ?_
  refine j_put (pc := 10) X (v := .int (nI b0)) (ws' := [(qr, .inr (5, [.ref qr0, .ref qr1, .int (nI qd), .int (oI (some b0)), .int (oI fe)])), kI G qr0 16 (nF qu), kI G qr1 16 (oF (fil none tk 16)), (qp, .inr (4, [.ref qp0, .ref qp1, .int (b2i gv)])), kI G qp0 16 (oF eb), (qc, .inr (0, [.ref qc0, .ref qc1, .ref qc2, .ref qc3, .int (nI el), .int (nI be)])), kI G qc0 12 (nF pl), kI G qc1 192 (nF le), kI G qc2 192 (nF lb), kZ G qc3 192 (bF br)]) 5 i_X5 tyX5 tyX5_ok nmX5 0 rfl rfl 3 (by decide) (by decide +kernel) (by decide) (rfl) (rfl) (Nat.le_of_ble_eq_true rfl) dX5_findLast_10 rfl ?_
  refine j_aload_n (pc := 13) X dX5_findLast_13 rfl 0 rfl ?_
  refine j_get (pc := 14) X 5 i_X5 0 rfl rfl 0 (by decide) (by decide +kernel) rfl dX5_findLast_14 ?_
  refine j_iconst (pc := 17) X (v := nI 0) dX5_findLast_17 (by decide) ?_
  refine j_iload_n (pc := 18) X dX5_findLast_18 rfl 3 rfl ?_
  refine j_iast (pc := 19) X (f2 := (nF (va_up qu 0 b0))) (ws' := [(qr, .inr (5, [.ref qr0, .ref qr1, .int (nI qd), .int (oI (some b0)), .int (oI fe)])), kI G qr0 16 (nF (va_up qu 0 b0)), kI G qr1 16 (oF (fil none tk 16)), (qp, .inr (4, [.ref qp0, .ref qp1, .int (b2i gv)])), kI G qp0 16 (oF eb), (qc, .inr (0, [.ref qc0, .ref qc1, .ref qc2, .ref qc3, .int (nI el), .int (nI be)])), kI G qc0 12 (nF pl), kI G qc1 192 (nF le), kI G qc2 192 (nF lb), kZ G qc3 192 (bF br)]) 1 rfl (vp_in_nI (by omega) (by decide)) dX5_findLast_19 (by rw [nI_clamp (by omega)]; exact nF_up qu 0 b0) rfl ?_
  refine j_aload_n (pc := 20) X dX5_findLast_20 rfl 0 rfl ?_
  refine j_iconst (pc := 21) X (v := nI 1) dX5_findLast_21 (by decide) ?_
  refine j_put (pc := 22) X (v := .int (nI 1)) (ws' := [(qr, .inr (5, [.ref qr0, .ref qr1, .int (nI 1), .int (oI (some b0)), .int (oI fe)])), kI G qr0 16 (nF (va_up qu 0 b0)), kI G qr1 16 (oF (fil none tk 16)), (qp, .inr (4, [.ref qp0, .ref qp1, .int (b2i gv)])), kI G qp0 16 (oF eb), (qc, .inr (0, [.ref qc0, .ref qc1, .ref qc2, .ref qc3, .int (nI el), .int (nI be)])), kI G qc0 12 (nF pl), kI G qc1 192 (nF le), kI G qc2 192 (nF lb), kZ G qc3 192 (bF br)]) 5 i_X5 tyX5 tyX5_ok nmX5 0 rfl rfl 2 (by decide) (by decide +kernel) (by decide) (rfl) (rfl) (Nat.le_of_ble_eq_true rfl) dX5_findLast_22 rfl ?_
  refine j_iconst (pc := 25) X (v := nI 0) dX5_findLast_25 (by decide) ?_
  refine j_istore (pc := 26) X (lv' := [(4, .int (nI 0)), (0, .ref qr), (1, .ref qc), (2, .ref qp), (3, .int (nI b0))]) dX5_findLast_26 (by decide) rfl ?_
  refine j_lv [1, 2, 3, 0] (lv' := [(0, .ref qr), (1, .ref qc), (2, .ref qp), (4, .int (nI 0))]) rfl ?_
  exact mX5_findLast_L28 l G qr qr0 qr1 qd fi fe qu tk qp qp0 qp1 gv eb qc qc0 qc1 qc2 qc3 el be pl le lb br b0 hel hbe hle hlb hpl heb hb0 hqu htk κ X    (16 - 0 + 1) 0 (fil none tk 16) (va_up qu 0 b0) 1 fe (by omega) (⟨ob_fil htk, nup_lt hqu hb0, Nat.le_of_ble_eq_true rfl⟩) (by rfl) (Nat.lt_succ_self _)

set_option maxHeartbeats 4000000 in
set_option maxRecDepth 100000 in
theorem mX5_moveAll_L11 (l : Launch) (G : jG) (qr : Nat) (qr0 : Nat) (qr1 : Nat) (qd : Nat) (fi : Option Nat) (fe : Option Nat) (tk : Nat → Option Nat) (qp : Nat) (qp0 : Nat) (qp1 : Nat) (gv : Bool) (eb : Nat → Option Nat) (la : Nat) (heb : ∀ k, ob 12 (eb k)) (hla : la < 16) (htk : ∀ k, ob 16 (tk k)) (hfe : ob 12 fe) (κ : jK) (X : CX κ l yX5_moveAll cX5_moveAll 7 RX5 wsX5_moveAll (some .int) ({ frames := 0, cells := 0, slots := 0, locals := 0 }) G (va_A [(qr, .inr (5, [.ref qr0, .ref qr1, .int (nI qd), .int (oI fi), .int (oI fe)])), kI G qr1 16 (oF tk), (qp, .inr (4, [.ref qp0, .ref qp1, .int (b2i gv)])), kI G qp0 16 (oF eb)] (js κ).heap.size))    : ∀ (fu : Nat) (k : Nat) (mv : Option Nat) (to : Option Nat) (e2 : Nat → Option Nat) (hk : k ≤ 16) (hmv : ob 16 mv) (hto : ob 12 to) (he2 : ∀ k, ob 12 (e2 k)) (hs : mvF tk (16 - k) e2 mv to k = mvF tk 16 eb (some la) fe 0) (_ : 16 - k < fu), JJ κ 7 G (va_A [(qr, .inr (5, [.ref qr0, .ref qr1, .int (nI qd), .int (oI fi), .int (oI fe)])), kI G qr1 16 (oF tk), (qp, .inr (4, [.ref qp0, .ref qp1, .int (b2i gv)])), kI G qp0 16 (oF eb)] (js κ).heap.size) 0 0 (jQ κ G [(qr, .inr (5, [.ref qr0, .ref qr1, .int (nI qd), .int (oI fi), .int (oI fe)])), kI G qr1 16 (oF tk), (qp, .inr (4, [.ref qp0, .ref qp1, .int (b2i gv)])), kI G qp0 16 (oF eb)] (fun r w' => r = some (.int (nI ((mvF tk 16 eb (some la) fe 0).2))) ∧ w' = [(qr, .inr (5, [.ref qr0, .ref qr1, .int (nI qd), .int (oI fi), .int (oI fe)])), kI G qr1 16 (oF tk), (qp, .inr (4, [.ref qp0, .ref qp1, .int (b2i gv)])), kI G qp0 16 (oF ((mvF tk 16 eb (some la) fe 0).1))]) 0 0) 11 [(0, .ref qr), (1, .ref qp), (3, .int (oI mv)), (4, .int (oI to)), (5, .int (nI k))] [] [(qr, .inr (5, [.ref qr0, .ref qr1, .int (nI qd), .int (oI fi), .int (oI fe)])), kI G qr1 16 (oF tk), (qp, .inr (4, [.ref qp0, .ref qp1, .int (b2i gv)])), kI G qp0 16 (oF e2)] := by
  have i_X4 : ∀ w ∈ wsX40, w ∈ wsX5_moveAll := by decide +kernel
  have i_X5 : ∀ w ∈ wsX50, w ∈ wsX5_moveAll := by decide +kernel
  intro fu
  induction fu with
  | zero => intro k mv to e2 hk hmv hto he2 hs hms; exact absurd hms (Nat.not_lt_zero _)
  | succ fu ih =>
    intro k mv to e2 hk hmv hto he2 hs hms
    refine j_iload (pc := 11) X dX5_moveAll_11 4 rfl ?_
    refine j_bipush (pc := 13) X (v := nI 16) dX5_moveAll_13 (by decide) ?_
    refine j_icmpN_ge (pc := 15) X (a := k) (b := 16) (by omega) (by omega) (tgt := 56) dX5_moveAll_15 (by decide) (fun c_15 => ?_) (fun c_15 => ?_)
    · skip
      refine j_iload (pc := 56) X dX5_moveAll_56 4 rfl ?_
      have hs : mvF tk 16 eb (some la) fe 0 = (e2, k) := by rw [← hs, show 16 - k = 0 by omega]; rfl
      refine j_iret (pc := 58) X dX5_moveAll_58 ?_
      rw [hs]; exact ⟨rfl, rfl⟩
    · skip
      refine j_iload_n (pc := 18) X dX5_moveAll_18 rfl 2 rfl ?_
      refine j_iconst (pc := 19) X (v := oI none) dX5_moveAll_19 (by decide) ?_
      refine j_icmpZ_eq (pc := 20) X (a := mv) (by exact hmv.big (by decide)) (tgt := 56) dX5_moveAll_20 (by decide) (fun c_20 => ?_) (fun c_20 => ?_)
      · skip
        refine j_iload (pc := 56) X dX5_moveAll_56 4 rfl ?_
        have hs : mvF tk 16 eb (some la) fe 0 = (e2, k) := by rw [← hs, c_20]; cases 16 - k <;> rfl
        refine j_iret (pc := 58) X dX5_moveAll_58 ?_
        rw [hs]; exact ⟨rfl, rfl⟩
      · skip
        obtain ⟨m, rfl⟩ := Option.ne_none_iff_exists'.mp c_20; have hm16 := hmv m rfl
        refine j_aload_n (pc := 23) X dX5_moveAll_23 rfl 1 rfl ?_
        refine j_getN (pc := 24) X 4 i_X4 2 rfl rfl 0 (by decide) (by decide +kernel) rfl dX5_moveAll_24 ?_
        refine j_iload_n (pc := 27) X dX5_moveAll_27 rfl 2 rfl ?_
        refine j_iald (pc := 28) X 3 rfl (vp_in_nI (by omega) (by decide)) (v := oI (e2 m)) (congrArg (oF e2) (nI_clamp (by omega))) dX5_moveAll_28 ?_
        refine j_istore (pc := 29) X (lv' := [(6, .int (oI (e2 m))), (0, .ref qr), (1, .ref qp), (3, .int (nI m)), (4, .int (oI to)), (5, .int (nI k))]) dX5_moveAll_29 (by decide) rfl ?_
        refine j_aload_n (pc := 31) X dX5_moveAll_31 rfl 2 rfl ?_
        refine j_getN (pc := 32) X 4 i_X4 2 rfl rfl 0 (by decide) (by decide +kernel) rfl dX5_moveAll_32 ?_
        refine j_iload_n (pc := 35) X dX5_moveAll_35 rfl 3 rfl ?_
        refine j_iload (pc := 36) X dX5_moveAll_36 4 rfl ?_
        refine j_iast (pc := 38) X (f2 := (oF (va_up e2 m to))) (ws' := [(qr, .inr (5, [.ref qr0, .ref qr1, .int (nI qd), .int (oI fi), .int (oI fe)])), kI G qr1 16 (oF tk), (qp, .inr (4, [.ref qp0, .ref qp1, .int (b2i gv)])), kI G qp0 16 (oF (va_up e2 m to))]) 3 rfl (vp_in_nI (by omega) (by decide)) dX5_moveAll_38 (by rw [nI_clamp (by omega)]; exact oF_up e2 m to) rfl ?_
        refine j_iload (pc := 39) X dX5_moveAll_39 0 rfl ?_
        refine j_istore (pc := 41) X (lv' := [(4, .int (oI (e2 m))), (6, .int (oI (e2 m))), (0, .ref qr), (1, .ref qp), (3, .int (nI m)), (5, .int (nI k))]) dX5_moveAll_41 (by decide) rfl ?_
        refine j_aload_n (pc := 43) X dX5_moveAll_43 rfl 2 rfl ?_
        refine j_get (pc := 44) X 5 i_X5 0 rfl rfl 1 (by decide) (by decide +kernel) rfl dX5_moveAll_44 ?_
        refine j_iload_n (pc := 47) X dX5_moveAll_47 rfl 4 rfl ?_
        refine j_iald (pc := 48) X 1 rfl (vp_in_nI (by omega) (by decide)) (v := oI (tk m)) (congrArg (oF tk) (nI_clamp (by omega))) dX5_moveAll_48 ?_
        refine j_istore_n (pc := 49) X (lv' := [(3, .int (oI (tk m))), (4, .int (oI (e2 m))), (6, .int (oI (e2 m))), (0, .ref qr), (1, .ref qp), (5, .int (nI k))]) dX5_moveAll_49 rfl (by decide) rfl ?_
        refine j_iinc (pc := 50) X (v := nI (k + 1)) (lv' := [(5, .int (nI (k + 1))), (3, .int (oI (tk m))), (4, .int (oI (e2 m))), (6, .int (oI (e2 m))), (0, .ref qr), (1, .ref qp)]) dX5_moveAll_50 5 rfl (nI_1 _) (by decide) rfl ?_
        refine j_goto (pc := 53) X (tgt := 11) dX5_moveAll_53 (by decide) ?_
        refine j_lv [4, 5, 1, 2, 0] (lv' := [(0, .ref qr), (1, .ref qp), (3, .int (oI (tk m))), (4, .int (oI (e2 m))), (5, .int (nI (k + 1)))]) rfl ?_
        exact ih (k + 1) (tk m) (e2 m) (va_up e2 m to) (by omega) (htk _) (he2 _) (ob_up he2 hto) (by rw [← hs, show 16 - k = (16 - (k + 1)) + 1 by omega]; rfl) (by omega)
set_option maxHeartbeats 4000000 in
set_option maxRecDepth 100000 in
theorem mX5_moveAll (l : Launch) (G : jG) (qr : Nat) (qr0 : Nat) (qr1 : Nat) (qd : Nat) (fi : Option Nat) (fe : Option Nat) (tk : Nat → Option Nat) (qp : Nat) (qp0 : Nat) (qp1 : Nat) (gv : Bool) (eb : Nat → Option Nat) (la : Nat) (heb : ∀ k, ob 12 (eb k)) (hla : la < 16) (htk : ∀ k, ob 16 (tk k)) (hfe : ob 12 fe) : MV l yX5_moveAll wsX5_moveAll ({ frames := 0, cells := 0, slots := 0, locals := 0 }) G [.ref qr, .ref qp, .int (nI la)] [(qr, .inr (5, [.ref qr0, .ref qr1, .int (nI qd), .int (oI fi), .int (oI fe)])), kI G qr1 16 (oF tk), (qp, .inr (4, [.ref qp0, .ref qp1, .int (b2i gv)])), kI G qp0 16 (oF eb)] (some (.int (nI ((mvF tk 16 eb (some la) fe 0).2)))) [(qr, .inr (5, [.ref qr0, .ref qr1, .int (nI qd), .int (oI fi), .int (oI fe)])), kI G qr1 16 (oF tk), (qp, .inr (4, [.ref qp0, .ref qp1, .int (b2i gv)])), kI G qp0 16 (oF ((mvF tk 16 eb (some la) fe 0).1))] := by
  refine MF.ofJ (cc := cX5_moveAll) (maxL := 7) (ret := (some .int)) (own := RX5) (lv := [(0, .ref qr), (1, .ref qp), (2, .int (nI la))]) (by decide) rfl rfl (Nat.le_of_ble_eq_true rfl) rfl ?_
  intro κ X
  have i_X4 : ∀ w ∈ wsX40, w ∈ wsX5_moveAll := by decide +kernel
  have i_X5 : ∀ w ∈ wsX50, w ∈ wsX5_moveAll := by decide +kernel
  refine j_iload_n (pc := 0) X dX5_moveAll_0 rfl 2 rfl ?_
  refine j_istore_n (pc := 1) X (lv' := [(3, .int (nI la)), (0, .ref qr), (1, .ref qp), (2, .int (nI la))]) dX5_moveAll_1 rfl (by decide) rfl ?_
  refine j_aload_n (pc := 2) X dX5_moveAll_2 rfl 1 rfl ?_
  refine j_get (pc := 3) X 5 i_X5 0 rfl rfl 4 (by decide) (by decide +kernel) rfl dX5_moveAll_3 ?_
  refine j_istore (pc := 6) X (lv' := [(4, .int (oI fe)), (3, .int (nI la)), (0, .ref qr), (1, .ref qp), (2, .int (nI la))]) dX5_moveAll_6 (by decide) rfl ?_
  refine j_iconst (pc := 8) X (v := nI 0) dX5_moveAll_8 (by decide) ?_
  refine j_istore (pc := 9) X (lv' := [(5, .int (nI 0)), (4, .int (oI fe)), (3, .int (nI la)), (0, .ref qr), (1, .ref qp), (2, .int (nI la))]) dX5_moveAll_9 (by decide) rfl ?_
  refine j_lv [3, 4, 2, 1, 0] (lv' := [(0, .ref qr), (1, .ref qp), (3, .int (nI la)), (4, .int (oI fe)), (5, .int (nI 0))]) rfl ?_
  refine j_lvq (lv' := [(0, .ref qr), (1, .ref qp), (3, .int (oI (some la))), (4, .int (oI fe)), (5, .int (nI 0))]) rfl ?_
  exact mX5_moveAll_L11 l G qr qr0 qr1 qd fi fe tk qp qp0 qp1 gv eb la heb hla htk hfe κ X    (16 - 0 + 1) 0 (some la) fe eb (by omega) (ob_s hla) (hfe) (heb) (by rfl) (Nat.lt_succ_self _)
end
section
set_option maxHeartbeats 4000000 in
set_option maxRecDepth 100000 in
theorem mJ6_bitCount_0f7a4 (l : Launch) (G : jG) (x : Int32)  : MV l yJ6_bitCount_0f7a4 wsJ6_bitCount_0f7a4 ({ frames := 0, cells := 0, slots := 0, locals := 0 }) G [.int x] [] (some (.int (bcF x))) [] := by
  refine MF.ofJ (cc := cJ6_bitCount_0f7a4) (maxL := 1) (ret := (some .int)) (own := RJ6) (lv := [(0, .int x)]) (by decide) rfl rfl (Nat.le_of_ble_eq_true rfl) rfl ?_
  intro κ X
  refine j_iload_n (pc := 0) X dJ6_bitCount_0f7a4_0 rfl 0 rfl ?_
  refine j_iload_n (pc := 1) X dJ6_bitCount_0f7a4_1 rfl 0 rfl ?_
  refine j_iconst (pc := 2) X (v := nI 1) dJ6_bitCount_0f7a4_2 (by decide) ?_
  refine j_iushr (pc := 3) X (v := ush x 1) dJ6_bitCount_0f7a4_3 (rfl) ?_
  refine j_ldcw (pc := 4) X (v := 1431655765) dJ6_bitCount_0f7a4_4 (by decide +kernel) ?_
  refine j_iand (pc := 7) X dJ6_bitCount_0f7a4_7 ?_
  refine j_isub (pc := 8) X dJ6_bitCount_0f7a4_8 ?_
  refine j_topi (z := bc1 x) (rfl) ?_
  refine j_istore_n (pc := 9) X (lv' := [(0, .int (bc1 x))]) dJ6_bitCount_0f7a4_9 rfl (by decide) rfl ?_
  refine j_iload_n (pc := 10) X dJ6_bitCount_0f7a4_10 rfl 0 rfl ?_
  refine j_ldcw (pc := 11) X (v := 858993459) dJ6_bitCount_0f7a4_11 (by decide +kernel) ?_
  refine j_iand (pc := 14) X dJ6_bitCount_0f7a4_14 ?_
  refine j_iload_n (pc := 15) X dJ6_bitCount_0f7a4_15 rfl 0 rfl ?_
  refine j_iconst (pc := 16) X (v := nI 2) dJ6_bitCount_0f7a4_16 (by decide) ?_
  refine j_iushr (pc := 17) X (v := ush (bc1 x) 2) dJ6_bitCount_0f7a4_17 (rfl) ?_
  refine j_ldcw (pc := 18) X (v := 858993459) dJ6_bitCount_0f7a4_18 (by decide +kernel) ?_
  refine j_iand (pc := 21) X dJ6_bitCount_0f7a4_21 ?_
  refine j_iadd (pc := 22) X dJ6_bitCount_0f7a4_22 ?_
  refine j_topi (z := bc2 (bc1 x)) (rfl) ?_
  refine j_istore_n (pc := 23) X (lv' := [(0, .int (bc2 (bc1 x)))]) dJ6_bitCount_0f7a4_23 rfl (by decide) rfl ?_
  refine j_iload_n (pc := 24) X dJ6_bitCount_0f7a4_24 rfl 0 rfl ?_
  refine j_iload_n (pc := 25) X dJ6_bitCount_0f7a4_25 rfl 0 rfl ?_
  refine j_iconst (pc := 26) X (v := nI 4) dJ6_bitCount_0f7a4_26 (by decide) ?_
  refine j_iushr (pc := 27) X (v := ush (bc2 (bc1 x)) 4) dJ6_bitCount_0f7a4_27 (rfl) ?_
  refine j_iadd (pc := 28) X dJ6_bitCount_0f7a4_28 ?_
  refine j_ldcw (pc := 29) X (v := 252645135) dJ6_bitCount_0f7a4_29 (by decide +kernel) ?_
  refine j_iand (pc := 32) X dJ6_bitCount_0f7a4_32 ?_
  refine j_topi (z := bc3 (bc2 (bc1 x))) (rfl) ?_
  refine j_istore_n (pc := 33) X (lv' := [(0, .int (bc3 (bc2 (bc1 x))))]) dJ6_bitCount_0f7a4_33 rfl (by decide) rfl ?_
  refine j_iload_n (pc := 34) X dJ6_bitCount_0f7a4_34 rfl 0 rfl ?_
  refine j_iload_n (pc := 35) X dJ6_bitCount_0f7a4_35 rfl 0 rfl ?_
  refine j_bipush (pc := 36) X (v := nI 8) dJ6_bitCount_0f7a4_36 (by decide) ?_
  refine j_iushr (pc := 38) X (v := ush (bc3 (bc2 (bc1 x))) 8) dJ6_bitCount_0f7a4_38 (rfl) ?_
  refine j_iadd (pc := 39) X dJ6_bitCount_0f7a4_39 ?_
  refine j_topi (z := bc4 (bc3 (bc2 (bc1 x)))) (rfl) ?_
  refine j_istore_n (pc := 40) X (lv' := [(0, .int (bc4 (bc3 (bc2 (bc1 x)))))]) dJ6_bitCount_0f7a4_40 rfl (by decide) rfl ?_
  refine j_iload_n (pc := 41) X dJ6_bitCount_0f7a4_41 rfl 0 rfl ?_
  refine j_iload_n (pc := 42) X dJ6_bitCount_0f7a4_42 rfl 0 rfl ?_
  refine j_bipush (pc := 43) X (v := nI 16) dJ6_bitCount_0f7a4_43 (by decide) ?_
  refine j_iushr (pc := 45) X (v := ush (bc4 (bc3 (bc2 (bc1 x)))) 16) dJ6_bitCount_0f7a4_45 (rfl) ?_
  refine j_iadd (pc := 46) X dJ6_bitCount_0f7a4_46 ?_
  refine j_topi (z := bc5 (bc4 (bc3 (bc2 (bc1 x))))) (rfl) ?_
  refine j_istore_n (pc := 47) X (lv' := [(0, .int (bc5 (bc4 (bc3 (bc2 (bc1 x))))))]) dJ6_bitCount_0f7a4_47 rfl (by decide) rfl ?_
  refine j_iload_n (pc := 48) X dJ6_bitCount_0f7a4_48 rfl 0 rfl ?_
  refine j_bipush (pc := 49) X (v := nI 63) dJ6_bitCount_0f7a4_49 (by decide) ?_
  refine j_iand (pc := 51) X dJ6_bitCount_0f7a4_51 ?_
  exact j_iret (pc := 52) X dJ6_bitCount_0f7a4_52 ⟨by rfl, rfl⟩

set_option maxHeartbeats 4000000 in
set_option maxRecDepth 100000 in
theorem mJ6_numberOfTrailingZeros_0f7a4 (l : Launch) (G : jG) (x : Int32)  : MV l yJ6_numberOfTrailingZeros_0f7a4 wsJ6_numberOfTrailingZeros_0f7a4 ({ frames := 0, cells := 0, slots := 0, locals := 0 }) G [.int x] [] (some (.int (tzF x))) [] := by
  refine MF.ofJ (cc := cJ6_numberOfTrailingZeros_0f7a4) (maxL := 2) (ret := (some .int)) (own := RJ6) (lv := [(0, .int x)]) (by decide) rfl rfl (Nat.le_of_ble_eq_true rfl) rfl ?_
  intro κ X
  refine j_iload_n (pc := 0) X dJ6_numberOfTrailingZeros_0f7a4_0 rfl 0 rfl ?_
  refine j_iconst (pc := 1) X (v := oI none) dJ6_numberOfTrailingZeros_0f7a4_1 (by decide) ?_
  refine j_ixor (pc := 2) X dJ6_numberOfTrailingZeros_0f7a4_2 ?_
  refine j_iload_n (pc := 3) X dJ6_numberOfTrailingZeros_0f7a4_3 rfl 0 rfl ?_
  refine j_iconst (pc := 4) X (v := nI 1) dJ6_numberOfTrailingZeros_0f7a4_4 (by decide) ?_
  refine j_isub (pc := 5) X dJ6_numberOfTrailingZeros_0f7a4_5 ?_
  refine j_iand (pc := 6) X dJ6_numberOfTrailingZeros_0f7a4_6 ?_
  refine j_topi (z := tzm x) (rfl) ?_
  refine j_istore_n (pc := 7) X (lv' := [(0, .int (tzm x))]) dJ6_numberOfTrailingZeros_0f7a4_7 rfl (by decide) rfl ?_
  refine j_iload_n (pc := 8) X dJ6_numberOfTrailingZeros_0f7a4_8 rfl 0 rfl ?_
  refine j_if_gt (pc := 9) X (x := tzm x) (tgt := 17) dJ6_numberOfTrailingZeros_0f7a4_9 (by decide) (fun c_9 => ?_) (fun c_9 => ?_)
  · skip
    refine j_iconst (pc := 17) X (v := nI 1) dJ6_numberOfTrailingZeros_0f7a4_17 (by decide) ?_
    refine j_istore_n (pc := 18) X (lv' := [(1, .int (nI 1)), (0, .int (tzm x))]) dJ6_numberOfTrailingZeros_0f7a4_18 rfl (by decide) rfl ?_
    refine j_iload_n (pc := 19) X dJ6_numberOfTrailingZeros_0f7a4_19 rfl 1 rfl ?_
    refine j_ldcw (pc := 20) X (v := 65536) dJ6_numberOfTrailingZeros_0f7a4_20 (by decide +kernel) ?_
    refine j_icmp_le (pc := 23) X (x := tzm x) (z := 65536) (tgt := 34) dJ6_numberOfTrailingZeros_0f7a4_23 (by decide) (fun c_23 => ?_) (fun c_23 => ?_)
    · skip
      refine j_iload_n (pc := 34) X dJ6_numberOfTrailingZeros_0f7a4_34 rfl 1 rfl ?_
      refine j_sipush (pc := 35) X (v := nI 256) dJ6_numberOfTrailingZeros_0f7a4_35 (by decide) ?_
      refine j_icmp_le (pc := 38) X (x := tzm x) (z := 256) (tgt := 49) dJ6_numberOfTrailingZeros_0f7a4_38 (by decide) (fun c_38 => ?_) (fun c_38 => ?_)
      · skip
        refine j_iload_n (pc := 49) X dJ6_numberOfTrailingZeros_0f7a4_49 rfl 1 rfl ?_
        refine j_bipush (pc := 50) X (v := nI 16) dJ6_numberOfTrailingZeros_0f7a4_50 (by decide) ?_
        refine j_icmp_le (pc := 52) X (x := tzm x) (z := 16) (tgt := 62) dJ6_numberOfTrailingZeros_0f7a4_52 (by decide) (fun c_52 => ?_) (fun c_52 => ?_)
        · skip
          refine j_iload_n (pc := 62) X dJ6_numberOfTrailingZeros_0f7a4_62 rfl 1 rfl ?_
          refine j_iconst (pc := 63) X (v := nI 4) dJ6_numberOfTrailingZeros_0f7a4_63 (by decide) ?_
          refine j_icmp_le (pc := 64) X (x := tzm x) (z := 4) (tgt := 74) dJ6_numberOfTrailingZeros_0f7a4_64 (by decide) (fun c_64 => ?_) (fun c_64 => ?_)
          · skip
            refine j_iload_n (pc := 74) X dJ6_numberOfTrailingZeros_0f7a4_74 rfl 0 rfl ?_
            refine j_iload_n (pc := 75) X dJ6_numberOfTrailingZeros_0f7a4_75 rfl 1 rfl ?_
            refine j_iconst (pc := 76) X (v := nI 1) dJ6_numberOfTrailingZeros_0f7a4_76 (by decide) ?_
            refine j_iushr (pc := 77) X (v := ush (tzm x) 1) dJ6_numberOfTrailingZeros_0f7a4_77 (rfl) ?_
            refine j_iadd (pc := 78) X dJ6_numberOfTrailingZeros_0f7a4_78 ?_
            exact j_iret (pc := 79) X dJ6_numberOfTrailingZeros_0f7a4_79 ⟨by simp [tzF, tz1, tz2, tz3, c_9, c_23, c_38, c_52, c_64], rfl⟩
          · skip
            refine j_iinc (pc := 67) X (v := nI 3) (lv' := [(1, .int (nI 3)), (0, .int (tzm x))]) dJ6_numberOfTrailingZeros_0f7a4_67 0 rfl (by decide) (by decide) rfl ?_
            refine j_iload_n (pc := 70) X dJ6_numberOfTrailingZeros_0f7a4_70 rfl 1 rfl ?_
            refine j_iconst (pc := 71) X (v := nI 2) dJ6_numberOfTrailingZeros_0f7a4_71 (by decide) ?_
            refine j_iushr (pc := 72) X (v := ush (tzm x) 2) dJ6_numberOfTrailingZeros_0f7a4_72 (rfl) ?_
            refine j_istore_n (pc := 73) X (lv' := [(0, .int (ush (tzm x) 2)), (1, .int (nI 3))]) dJ6_numberOfTrailingZeros_0f7a4_73 rfl (by decide) rfl ?_
            refine j_iload_n (pc := 74) X dJ6_numberOfTrailingZeros_0f7a4_74 rfl 1 rfl ?_
            refine j_iload_n (pc := 75) X dJ6_numberOfTrailingZeros_0f7a4_75 rfl 0 rfl ?_
            refine j_iconst (pc := 76) X (v := nI 1) dJ6_numberOfTrailingZeros_0f7a4_76 (by decide) ?_
            refine j_iushr (pc := 77) X (v := ush (ush (tzm x) 2) 1) dJ6_numberOfTrailingZeros_0f7a4_77 (rfl) ?_
            refine j_iadd (pc := 78) X dJ6_numberOfTrailingZeros_0f7a4_78 ?_
            exact j_iret (pc := 79) X dJ6_numberOfTrailingZeros_0f7a4_79 ⟨by simp [tzF, tz1, tz2, tz3, c_9, c_23, c_38, c_52, c_64], rfl⟩
        · skip
          refine j_iinc (pc := 55) X (v := nI 5) (lv' := [(1, .int (nI 5)), (0, .int (tzm x))]) dJ6_numberOfTrailingZeros_0f7a4_55 0 rfl (by decide) (by decide) rfl ?_
          refine j_iload_n (pc := 58) X dJ6_numberOfTrailingZeros_0f7a4_58 rfl 1 rfl ?_
          refine j_iconst (pc := 59) X (v := nI 4) dJ6_numberOfTrailingZeros_0f7a4_59 (by decide) ?_
          refine j_iushr (pc := 60) X (v := ush (tzm x) 4) dJ6_numberOfTrailingZeros_0f7a4_60 (rfl) ?_
          refine j_istore_n (pc := 61) X (lv' := [(0, .int (ush (tzm x) 4)), (1, .int (nI 5))]) dJ6_numberOfTrailingZeros_0f7a4_61 rfl (by decide) rfl ?_
          refine j_iload_n (pc := 62) X dJ6_numberOfTrailingZeros_0f7a4_62 rfl 0 rfl ?_
          refine j_iconst (pc := 63) X (v := nI 4) dJ6_numberOfTrailingZeros_0f7a4_63 (by decide) ?_
          refine j_icmp_le (pc := 64) X (x := ush (tzm x) 4) (z := 4) (tgt := 74) dJ6_numberOfTrailingZeros_0f7a4_64 (by decide) (fun c_64 => ?_) (fun c_64 => ?_)
          · skip
            refine j_iload_n (pc := 74) X dJ6_numberOfTrailingZeros_0f7a4_74 rfl 1 rfl ?_
            refine j_iload_n (pc := 75) X dJ6_numberOfTrailingZeros_0f7a4_75 rfl 0 rfl ?_
            refine j_iconst (pc := 76) X (v := nI 1) dJ6_numberOfTrailingZeros_0f7a4_76 (by decide) ?_
            refine j_iushr (pc := 77) X (v := ush (ush (tzm x) 4) 1) dJ6_numberOfTrailingZeros_0f7a4_77 (rfl) ?_
            refine j_iadd (pc := 78) X dJ6_numberOfTrailingZeros_0f7a4_78 ?_
            exact j_iret (pc := 79) X dJ6_numberOfTrailingZeros_0f7a4_79 ⟨by simp [tzF, tz1, tz2, tz3, c_9, c_23, c_38, c_52, c_64], rfl⟩
          · skip
            refine j_iinc (pc := 67) X (v := nI 7) (lv' := [(1, .int (nI 7)), (0, .int (ush (tzm x) 4))]) dJ6_numberOfTrailingZeros_0f7a4_67 1 rfl (by decide) (by decide) rfl ?_
            refine j_iload_n (pc := 70) X dJ6_numberOfTrailingZeros_0f7a4_70 rfl 1 rfl ?_
            refine j_iconst (pc := 71) X (v := nI 2) dJ6_numberOfTrailingZeros_0f7a4_71 (by decide) ?_
            refine j_iushr (pc := 72) X (v := ush (ush (tzm x) 4) 2) dJ6_numberOfTrailingZeros_0f7a4_72 (rfl) ?_
            refine j_istore_n (pc := 73) X (lv' := [(0, .int (ush (ush (tzm x) 4) 2)), (1, .int (nI 7))]) dJ6_numberOfTrailingZeros_0f7a4_73 rfl (by decide) rfl ?_
            refine j_iload_n (pc := 74) X dJ6_numberOfTrailingZeros_0f7a4_74 rfl 1 rfl ?_
            refine j_iload_n (pc := 75) X dJ6_numberOfTrailingZeros_0f7a4_75 rfl 0 rfl ?_
            refine j_iconst (pc := 76) X (v := nI 1) dJ6_numberOfTrailingZeros_0f7a4_76 (by decide) ?_
            refine j_iushr (pc := 77) X (v := ush (ush (ush (tzm x) 4) 2) 1) dJ6_numberOfTrailingZeros_0f7a4_77 (rfl) ?_
            refine j_iadd (pc := 78) X dJ6_numberOfTrailingZeros_0f7a4_78 ?_
            exact j_iret (pc := 79) X dJ6_numberOfTrailingZeros_0f7a4_79 ⟨by simp [tzF, tz1, tz2, tz3, c_9, c_23, c_38, c_52, c_64], rfl⟩
      · skip
        refine j_iinc (pc := 41) X (v := nI 9) (lv' := [(1, .int (nI 9)), (0, .int (tzm x))]) dJ6_numberOfTrailingZeros_0f7a4_41 0 rfl (by decide) (by decide) rfl ?_
        refine j_iload_n (pc := 44) X dJ6_numberOfTrailingZeros_0f7a4_44 rfl 1 rfl ?_
        refine j_bipush (pc := 45) X (v := nI 8) dJ6_numberOfTrailingZeros_0f7a4_45 (by decide) ?_
        refine j_iushr (pc := 47) X (v := ush (tzm x) 8) dJ6_numberOfTrailingZeros_0f7a4_47 (rfl) ?_
        refine j_istore_n (pc := 48) X (lv' := [(0, .int (ush (tzm x) 8)), (1, .int (nI 9))]) dJ6_numberOfTrailingZeros_0f7a4_48 rfl (by decide) rfl ?_
        refine j_iload_n (pc := 49) X dJ6_numberOfTrailingZeros_0f7a4_49 rfl 0 rfl ?_
        refine j_bipush (pc := 50) X (v := nI 16) dJ6_numberOfTrailingZeros_0f7a4_50 (by decide) ?_
        refine j_icmp_le (pc := 52) X (x := ush (tzm x) 8) (z := 16) (tgt := 62) dJ6_numberOfTrailingZeros_0f7a4_52 (by decide) (fun c_52 => ?_) (fun c_52 => ?_)
        · skip
          refine j_iload_n (pc := 62) X dJ6_numberOfTrailingZeros_0f7a4_62 rfl 0 rfl ?_
          refine j_iconst (pc := 63) X (v := nI 4) dJ6_numberOfTrailingZeros_0f7a4_63 (by decide) ?_
          refine j_icmp_le (pc := 64) X (x := ush (tzm x) 8) (z := 4) (tgt := 74) dJ6_numberOfTrailingZeros_0f7a4_64 (by decide) (fun c_64 => ?_) (fun c_64 => ?_)
          · skip
            refine j_iload_n (pc := 74) X dJ6_numberOfTrailingZeros_0f7a4_74 rfl 1 rfl ?_
            refine j_iload_n (pc := 75) X dJ6_numberOfTrailingZeros_0f7a4_75 rfl 0 rfl ?_
            refine j_iconst (pc := 76) X (v := nI 1) dJ6_numberOfTrailingZeros_0f7a4_76 (by decide) ?_
            refine j_iushr (pc := 77) X (v := ush (ush (tzm x) 8) 1) dJ6_numberOfTrailingZeros_0f7a4_77 (rfl) ?_
            refine j_iadd (pc := 78) X dJ6_numberOfTrailingZeros_0f7a4_78 ?_
            exact j_iret (pc := 79) X dJ6_numberOfTrailingZeros_0f7a4_79 ⟨by simp [tzF, tz1, tz2, tz3, c_9, c_23, c_38, c_52, c_64], rfl⟩
          · skip
            refine j_iinc (pc := 67) X (v := nI 11) (lv' := [(1, .int (nI 11)), (0, .int (ush (tzm x) 8))]) dJ6_numberOfTrailingZeros_0f7a4_67 1 rfl (by decide) (by decide) rfl ?_
            refine j_iload_n (pc := 70) X dJ6_numberOfTrailingZeros_0f7a4_70 rfl 1 rfl ?_
            refine j_iconst (pc := 71) X (v := nI 2) dJ6_numberOfTrailingZeros_0f7a4_71 (by decide) ?_
            refine j_iushr (pc := 72) X (v := ush (ush (tzm x) 8) 2) dJ6_numberOfTrailingZeros_0f7a4_72 (rfl) ?_
            refine j_istore_n (pc := 73) X (lv' := [(0, .int (ush (ush (tzm x) 8) 2)), (1, .int (nI 11))]) dJ6_numberOfTrailingZeros_0f7a4_73 rfl (by decide) rfl ?_
            refine j_iload_n (pc := 74) X dJ6_numberOfTrailingZeros_0f7a4_74 rfl 1 rfl ?_
            refine j_iload_n (pc := 75) X dJ6_numberOfTrailingZeros_0f7a4_75 rfl 0 rfl ?_
            refine j_iconst (pc := 76) X (v := nI 1) dJ6_numberOfTrailingZeros_0f7a4_76 (by decide) ?_
            refine j_iushr (pc := 77) X (v := ush (ush (ush (tzm x) 8) 2) 1) dJ6_numberOfTrailingZeros_0f7a4_77 (rfl) ?_
            refine j_iadd (pc := 78) X dJ6_numberOfTrailingZeros_0f7a4_78 ?_
            exact j_iret (pc := 79) X dJ6_numberOfTrailingZeros_0f7a4_79 ⟨by simp [tzF, tz1, tz2, tz3, c_9, c_23, c_38, c_52, c_64], rfl⟩
        · skip
          refine j_iinc (pc := 55) X (v := nI 13) (lv' := [(1, .int (nI 13)), (0, .int (ush (tzm x) 8))]) dJ6_numberOfTrailingZeros_0f7a4_55 1 rfl (by decide) (by decide) rfl ?_
          refine j_iload_n (pc := 58) X dJ6_numberOfTrailingZeros_0f7a4_58 rfl 1 rfl ?_
          refine j_iconst (pc := 59) X (v := nI 4) dJ6_numberOfTrailingZeros_0f7a4_59 (by decide) ?_
          refine j_iushr (pc := 60) X (v := ush (ush (tzm x) 8) 4) dJ6_numberOfTrailingZeros_0f7a4_60 (rfl) ?_
          refine j_istore_n (pc := 61) X (lv' := [(0, .int (ush (ush (tzm x) 8) 4)), (1, .int (nI 13))]) dJ6_numberOfTrailingZeros_0f7a4_61 rfl (by decide) rfl ?_
          refine j_iload_n (pc := 62) X dJ6_numberOfTrailingZeros_0f7a4_62 rfl 0 rfl ?_
          refine j_iconst (pc := 63) X (v := nI 4) dJ6_numberOfTrailingZeros_0f7a4_63 (by decide) ?_
          refine j_icmp_le (pc := 64) X (x := ush (ush (tzm x) 8) 4) (z := 4) (tgt := 74) dJ6_numberOfTrailingZeros_0f7a4_64 (by decide) (fun c_64 => ?_) (fun c_64 => ?_)
          · skip
            refine j_iload_n (pc := 74) X dJ6_numberOfTrailingZeros_0f7a4_74 rfl 1 rfl ?_
            refine j_iload_n (pc := 75) X dJ6_numberOfTrailingZeros_0f7a4_75 rfl 0 rfl ?_
            refine j_iconst (pc := 76) X (v := nI 1) dJ6_numberOfTrailingZeros_0f7a4_76 (by decide) ?_
            refine j_iushr (pc := 77) X (v := ush (ush (ush (tzm x) 8) 4) 1) dJ6_numberOfTrailingZeros_0f7a4_77 (rfl) ?_
            refine j_iadd (pc := 78) X dJ6_numberOfTrailingZeros_0f7a4_78 ?_
            exact j_iret (pc := 79) X dJ6_numberOfTrailingZeros_0f7a4_79 ⟨by simp [tzF, tz1, tz2, tz3, c_9, c_23, c_38, c_52, c_64], rfl⟩
          · skip
            refine j_iinc (pc := 67) X (v := nI 15) (lv' := [(1, .int (nI 15)), (0, .int (ush (ush (tzm x) 8) 4))]) dJ6_numberOfTrailingZeros_0f7a4_67 1 rfl (by decide) (by decide) rfl ?_
            refine j_iload_n (pc := 70) X dJ6_numberOfTrailingZeros_0f7a4_70 rfl 1 rfl ?_
            refine j_iconst (pc := 71) X (v := nI 2) dJ6_numberOfTrailingZeros_0f7a4_71 (by decide) ?_
            refine j_iushr (pc := 72) X (v := ush (ush (ush (tzm x) 8) 4) 2) dJ6_numberOfTrailingZeros_0f7a4_72 (rfl) ?_
            refine j_istore_n (pc := 73) X (lv' := [(0, .int (ush (ush (ush (tzm x) 8) 4) 2)), (1, .int (nI 15))]) dJ6_numberOfTrailingZeros_0f7a4_73 rfl (by decide) rfl ?_
            refine j_iload_n (pc := 74) X dJ6_numberOfTrailingZeros_0f7a4_74 rfl 1 rfl ?_
            refine j_iload_n (pc := 75) X dJ6_numberOfTrailingZeros_0f7a4_75 rfl 0 rfl ?_
            refine j_iconst (pc := 76) X (v := nI 1) dJ6_numberOfTrailingZeros_0f7a4_76 (by decide) ?_
            refine j_iushr (pc := 77) X (v := ush (ush (ush (ush (tzm x) 8) 4) 2) 1) dJ6_numberOfTrailingZeros_0f7a4_77 (rfl) ?_
            refine j_iadd (pc := 78) X dJ6_numberOfTrailingZeros_0f7a4_78 ?_
            exact j_iret (pc := 79) X dJ6_numberOfTrailingZeros_0f7a4_79 ⟨by simp [tzF, tz1, tz2, tz3, c_9, c_23, c_38, c_52, c_64], rfl⟩
    · skip
      refine j_iinc (pc := 26) X (v := nI 17) (lv' := [(1, .int (nI 17)), (0, .int (tzm x))]) dJ6_numberOfTrailingZeros_0f7a4_26 0 rfl (by decide) (by decide) rfl ?_
      refine j_iload_n (pc := 29) X dJ6_numberOfTrailingZeros_0f7a4_29 rfl 1 rfl ?_
      refine j_bipush (pc := 30) X (v := nI 16) dJ6_numberOfTrailingZeros_0f7a4_30 (by decide) ?_
      refine j_iushr (pc := 32) X (v := ush (tzm x) 16) dJ6_numberOfTrailingZeros_0f7a4_32 (rfl) ?_
      refine j_istore_n (pc := 33) X (lv' := [(0, .int (ush (tzm x) 16)), (1, .int (nI 17))]) dJ6_numberOfTrailingZeros_0f7a4_33 rfl (by decide) rfl ?_
      refine j_iload_n (pc := 34) X dJ6_numberOfTrailingZeros_0f7a4_34 rfl 0 rfl ?_
      refine j_sipush (pc := 35) X (v := nI 256) dJ6_numberOfTrailingZeros_0f7a4_35 (by decide) ?_
      refine j_icmp_le (pc := 38) X (x := ush (tzm x) 16) (z := 256) (tgt := 49) dJ6_numberOfTrailingZeros_0f7a4_38 (by decide) (fun c_38 => ?_) (fun c_38 => ?_)
      · skip
        refine j_iload_n (pc := 49) X dJ6_numberOfTrailingZeros_0f7a4_49 rfl 0 rfl ?_
        refine j_bipush (pc := 50) X (v := nI 16) dJ6_numberOfTrailingZeros_0f7a4_50 (by decide) ?_
        refine j_icmp_le (pc := 52) X (x := ush (tzm x) 16) (z := 16) (tgt := 62) dJ6_numberOfTrailingZeros_0f7a4_52 (by decide) (fun c_52 => ?_) (fun c_52 => ?_)
        · skip
          refine j_iload_n (pc := 62) X dJ6_numberOfTrailingZeros_0f7a4_62 rfl 0 rfl ?_
          refine j_iconst (pc := 63) X (v := nI 4) dJ6_numberOfTrailingZeros_0f7a4_63 (by decide) ?_
          refine j_icmp_le (pc := 64) X (x := ush (tzm x) 16) (z := 4) (tgt := 74) dJ6_numberOfTrailingZeros_0f7a4_64 (by decide) (fun c_64 => ?_) (fun c_64 => ?_)
          · skip
            refine j_iload_n (pc := 74) X dJ6_numberOfTrailingZeros_0f7a4_74 rfl 1 rfl ?_
            refine j_iload_n (pc := 75) X dJ6_numberOfTrailingZeros_0f7a4_75 rfl 0 rfl ?_
            refine j_iconst (pc := 76) X (v := nI 1) dJ6_numberOfTrailingZeros_0f7a4_76 (by decide) ?_
            refine j_iushr (pc := 77) X (v := ush (ush (tzm x) 16) 1) dJ6_numberOfTrailingZeros_0f7a4_77 (rfl) ?_
            refine j_iadd (pc := 78) X dJ6_numberOfTrailingZeros_0f7a4_78 ?_
            exact j_iret (pc := 79) X dJ6_numberOfTrailingZeros_0f7a4_79 ⟨by simp [tzF, tz1, tz2, tz3, c_9, c_23, c_38, c_52, c_64], rfl⟩
          · skip
            refine j_iinc (pc := 67) X (v := nI 19) (lv' := [(1, .int (nI 19)), (0, .int (ush (tzm x) 16))]) dJ6_numberOfTrailingZeros_0f7a4_67 1 rfl (by decide) (by decide) rfl ?_
            refine j_iload_n (pc := 70) X dJ6_numberOfTrailingZeros_0f7a4_70 rfl 1 rfl ?_
            refine j_iconst (pc := 71) X (v := nI 2) dJ6_numberOfTrailingZeros_0f7a4_71 (by decide) ?_
            refine j_iushr (pc := 72) X (v := ush (ush (tzm x) 16) 2) dJ6_numberOfTrailingZeros_0f7a4_72 (rfl) ?_
            refine j_istore_n (pc := 73) X (lv' := [(0, .int (ush (ush (tzm x) 16) 2)), (1, .int (nI 19))]) dJ6_numberOfTrailingZeros_0f7a4_73 rfl (by decide) rfl ?_
            refine j_iload_n (pc := 74) X dJ6_numberOfTrailingZeros_0f7a4_74 rfl 1 rfl ?_
            refine j_iload_n (pc := 75) X dJ6_numberOfTrailingZeros_0f7a4_75 rfl 0 rfl ?_
            refine j_iconst (pc := 76) X (v := nI 1) dJ6_numberOfTrailingZeros_0f7a4_76 (by decide) ?_
            refine j_iushr (pc := 77) X (v := ush (ush (ush (tzm x) 16) 2) 1) dJ6_numberOfTrailingZeros_0f7a4_77 (rfl) ?_
            refine j_iadd (pc := 78) X dJ6_numberOfTrailingZeros_0f7a4_78 ?_
            exact j_iret (pc := 79) X dJ6_numberOfTrailingZeros_0f7a4_79 ⟨by simp [tzF, tz1, tz2, tz3, c_9, c_23, c_38, c_52, c_64], rfl⟩
        · skip
          refine j_iinc (pc := 55) X (v := nI 21) (lv' := [(1, .int (nI 21)), (0, .int (ush (tzm x) 16))]) dJ6_numberOfTrailingZeros_0f7a4_55 1 rfl (by decide) (by decide) rfl ?_
          refine j_iload_n (pc := 58) X dJ6_numberOfTrailingZeros_0f7a4_58 rfl 1 rfl ?_
          refine j_iconst (pc := 59) X (v := nI 4) dJ6_numberOfTrailingZeros_0f7a4_59 (by decide) ?_
          refine j_iushr (pc := 60) X (v := ush (ush (tzm x) 16) 4) dJ6_numberOfTrailingZeros_0f7a4_60 (rfl) ?_
          refine j_istore_n (pc := 61) X (lv' := [(0, .int (ush (ush (tzm x) 16) 4)), (1, .int (nI 21))]) dJ6_numberOfTrailingZeros_0f7a4_61 rfl (by decide) rfl ?_
          refine j_iload_n (pc := 62) X dJ6_numberOfTrailingZeros_0f7a4_62 rfl 0 rfl ?_
          refine j_iconst (pc := 63) X (v := nI 4) dJ6_numberOfTrailingZeros_0f7a4_63 (by decide) ?_
          refine j_icmp_le (pc := 64) X (x := ush (ush (tzm x) 16) 4) (z := 4) (tgt := 74) dJ6_numberOfTrailingZeros_0f7a4_64 (by decide) (fun c_64 => ?_) (fun c_64 => ?_)
          · skip
            refine j_iload_n (pc := 74) X dJ6_numberOfTrailingZeros_0f7a4_74 rfl 1 rfl ?_
            refine j_iload_n (pc := 75) X dJ6_numberOfTrailingZeros_0f7a4_75 rfl 0 rfl ?_
            refine j_iconst (pc := 76) X (v := nI 1) dJ6_numberOfTrailingZeros_0f7a4_76 (by decide) ?_
            refine j_iushr (pc := 77) X (v := ush (ush (ush (tzm x) 16) 4) 1) dJ6_numberOfTrailingZeros_0f7a4_77 (rfl) ?_
            refine j_iadd (pc := 78) X dJ6_numberOfTrailingZeros_0f7a4_78 ?_
            exact j_iret (pc := 79) X dJ6_numberOfTrailingZeros_0f7a4_79 ⟨by simp [tzF, tz1, tz2, tz3, c_9, c_23, c_38, c_52, c_64], rfl⟩
          · skip
            refine j_iinc (pc := 67) X (v := nI 23) (lv' := [(1, .int (nI 23)), (0, .int (ush (ush (tzm x) 16) 4))]) dJ6_numberOfTrailingZeros_0f7a4_67 1 rfl (by decide) (by decide) rfl ?_
            refine j_iload_n (pc := 70) X dJ6_numberOfTrailingZeros_0f7a4_70 rfl 1 rfl ?_
            refine j_iconst (pc := 71) X (v := nI 2) dJ6_numberOfTrailingZeros_0f7a4_71 (by decide) ?_
            refine j_iushr (pc := 72) X (v := ush (ush (ush (tzm x) 16) 4) 2) dJ6_numberOfTrailingZeros_0f7a4_72 (rfl) ?_
            refine j_istore_n (pc := 73) X (lv' := [(0, .int (ush (ush (ush (tzm x) 16) 4) 2)), (1, .int (nI 23))]) dJ6_numberOfTrailingZeros_0f7a4_73 rfl (by decide) rfl ?_
            refine j_iload_n (pc := 74) X dJ6_numberOfTrailingZeros_0f7a4_74 rfl 1 rfl ?_
            refine j_iload_n (pc := 75) X dJ6_numberOfTrailingZeros_0f7a4_75 rfl 0 rfl ?_
            refine j_iconst (pc := 76) X (v := nI 1) dJ6_numberOfTrailingZeros_0f7a4_76 (by decide) ?_
            refine j_iushr (pc := 77) X (v := ush (ush (ush (ush (tzm x) 16) 4) 2) 1) dJ6_numberOfTrailingZeros_0f7a4_77 (rfl) ?_
            refine j_iadd (pc := 78) X dJ6_numberOfTrailingZeros_0f7a4_78 ?_
            exact j_iret (pc := 79) X dJ6_numberOfTrailingZeros_0f7a4_79 ⟨by simp [tzF, tz1, tz2, tz3, c_9, c_23, c_38, c_52, c_64], rfl⟩
      · skip
        refine j_iinc (pc := 41) X (v := nI 25) (lv' := [(1, .int (nI 25)), (0, .int (ush (tzm x) 16))]) dJ6_numberOfTrailingZeros_0f7a4_41 1 rfl (by decide) (by decide) rfl ?_
        refine j_iload_n (pc := 44) X dJ6_numberOfTrailingZeros_0f7a4_44 rfl 1 rfl ?_
        refine j_bipush (pc := 45) X (v := nI 8) dJ6_numberOfTrailingZeros_0f7a4_45 (by decide) ?_
        refine j_iushr (pc := 47) X (v := ush (ush (tzm x) 16) 8) dJ6_numberOfTrailingZeros_0f7a4_47 (rfl) ?_
        refine j_istore_n (pc := 48) X (lv' := [(0, .int (ush (ush (tzm x) 16) 8)), (1, .int (nI 25))]) dJ6_numberOfTrailingZeros_0f7a4_48 rfl (by decide) rfl ?_
        refine j_iload_n (pc := 49) X dJ6_numberOfTrailingZeros_0f7a4_49 rfl 0 rfl ?_
        refine j_bipush (pc := 50) X (v := nI 16) dJ6_numberOfTrailingZeros_0f7a4_50 (by decide) ?_
        refine j_icmp_le (pc := 52) X (x := ush (ush (tzm x) 16) 8) (z := 16) (tgt := 62) dJ6_numberOfTrailingZeros_0f7a4_52 (by decide) (fun c_52 => ?_) (fun c_52 => ?_)
        · skip
          refine j_iload_n (pc := 62) X dJ6_numberOfTrailingZeros_0f7a4_62 rfl 0 rfl ?_
          refine j_iconst (pc := 63) X (v := nI 4) dJ6_numberOfTrailingZeros_0f7a4_63 (by decide) ?_
          refine j_icmp_le (pc := 64) X (x := ush (ush (tzm x) 16) 8) (z := 4) (tgt := 74) dJ6_numberOfTrailingZeros_0f7a4_64 (by decide) (fun c_64 => ?_) (fun c_64 => ?_)
          · skip
            refine j_iload_n (pc := 74) X dJ6_numberOfTrailingZeros_0f7a4_74 rfl 1 rfl ?_
            refine j_iload_n (pc := 75) X dJ6_numberOfTrailingZeros_0f7a4_75 rfl 0 rfl ?_
            refine j_iconst (pc := 76) X (v := nI 1) dJ6_numberOfTrailingZeros_0f7a4_76 (by decide) ?_
            refine j_iushr (pc := 77) X (v := ush (ush (ush (tzm x) 16) 8) 1) dJ6_numberOfTrailingZeros_0f7a4_77 (rfl) ?_
            refine j_iadd (pc := 78) X dJ6_numberOfTrailingZeros_0f7a4_78 ?_
            exact j_iret (pc := 79) X dJ6_numberOfTrailingZeros_0f7a4_79 ⟨by simp [tzF, tz1, tz2, tz3, c_9, c_23, c_38, c_52, c_64], rfl⟩
          · skip
            refine j_iinc (pc := 67) X (v := nI 27) (lv' := [(1, .int (nI 27)), (0, .int (ush (ush (tzm x) 16) 8))]) dJ6_numberOfTrailingZeros_0f7a4_67 1 rfl (by decide) (by decide) rfl ?_
            refine j_iload_n (pc := 70) X dJ6_numberOfTrailingZeros_0f7a4_70 rfl 1 rfl ?_
            refine j_iconst (pc := 71) X (v := nI 2) dJ6_numberOfTrailingZeros_0f7a4_71 (by decide) ?_
            refine j_iushr (pc := 72) X (v := ush (ush (ush (tzm x) 16) 8) 2) dJ6_numberOfTrailingZeros_0f7a4_72 (rfl) ?_
            refine j_istore_n (pc := 73) X (lv' := [(0, .int (ush (ush (ush (tzm x) 16) 8) 2)), (1, .int (nI 27))]) dJ6_numberOfTrailingZeros_0f7a4_73 rfl (by decide) rfl ?_
            refine j_iload_n (pc := 74) X dJ6_numberOfTrailingZeros_0f7a4_74 rfl 1 rfl ?_
            refine j_iload_n (pc := 75) X dJ6_numberOfTrailingZeros_0f7a4_75 rfl 0 rfl ?_
            refine j_iconst (pc := 76) X (v := nI 1) dJ6_numberOfTrailingZeros_0f7a4_76 (by decide) ?_
            refine j_iushr (pc := 77) X (v := ush (ush (ush (ush (tzm x) 16) 8) 2) 1) dJ6_numberOfTrailingZeros_0f7a4_77 (rfl) ?_
            refine j_iadd (pc := 78) X dJ6_numberOfTrailingZeros_0f7a4_78 ?_
            exact j_iret (pc := 79) X dJ6_numberOfTrailingZeros_0f7a4_79 ⟨by simp [tzF, tz1, tz2, tz3, c_9, c_23, c_38, c_52, c_64], rfl⟩
        · skip
          refine j_iinc (pc := 55) X (v := nI 29) (lv' := [(1, .int (nI 29)), (0, .int (ush (ush (tzm x) 16) 8))]) dJ6_numberOfTrailingZeros_0f7a4_55 1 rfl (by decide) (by decide) rfl ?_
          refine j_iload_n (pc := 58) X dJ6_numberOfTrailingZeros_0f7a4_58 rfl 1 rfl ?_
          refine j_iconst (pc := 59) X (v := nI 4) dJ6_numberOfTrailingZeros_0f7a4_59 (by decide) ?_
          refine j_iushr (pc := 60) X (v := ush (ush (ush (tzm x) 16) 8) 4) dJ6_numberOfTrailingZeros_0f7a4_60 (rfl) ?_
          refine j_istore_n (pc := 61) X (lv' := [(0, .int (ush (ush (ush (tzm x) 16) 8) 4)), (1, .int (nI 29))]) dJ6_numberOfTrailingZeros_0f7a4_61 rfl (by decide) rfl ?_
          refine j_iload_n (pc := 62) X dJ6_numberOfTrailingZeros_0f7a4_62 rfl 0 rfl ?_
          refine j_iconst (pc := 63) X (v := nI 4) dJ6_numberOfTrailingZeros_0f7a4_63 (by decide) ?_
          refine j_icmp_le (pc := 64) X (x := ush (ush (ush (tzm x) 16) 8) 4) (z := 4) (tgt := 74) dJ6_numberOfTrailingZeros_0f7a4_64 (by decide) (fun c_64 => ?_) (fun c_64 => ?_)
          · skip
            refine j_iload_n (pc := 74) X dJ6_numberOfTrailingZeros_0f7a4_74 rfl 1 rfl ?_
            refine j_iload_n (pc := 75) X dJ6_numberOfTrailingZeros_0f7a4_75 rfl 0 rfl ?_
            refine j_iconst (pc := 76) X (v := nI 1) dJ6_numberOfTrailingZeros_0f7a4_76 (by decide) ?_
            refine j_iushr (pc := 77) X (v := ush (ush (ush (ush (tzm x) 16) 8) 4) 1) dJ6_numberOfTrailingZeros_0f7a4_77 (rfl) ?_
            refine j_iadd (pc := 78) X dJ6_numberOfTrailingZeros_0f7a4_78 ?_
            exact j_iret (pc := 79) X dJ6_numberOfTrailingZeros_0f7a4_79 ⟨by simp [tzF, tz1, tz2, tz3, c_9, c_23, c_38, c_52, c_64], rfl⟩
          · skip
            refine j_iinc (pc := 67) X (v := nI 31) (lv' := [(1, .int (nI 31)), (0, .int (ush (ush (ush (tzm x) 16) 8) 4))]) dJ6_numberOfTrailingZeros_0f7a4_67 1 rfl (by decide) (by decide) rfl ?_
            refine j_iload_n (pc := 70) X dJ6_numberOfTrailingZeros_0f7a4_70 rfl 1 rfl ?_
            refine j_iconst (pc := 71) X (v := nI 2) dJ6_numberOfTrailingZeros_0f7a4_71 (by decide) ?_
            refine j_iushr (pc := 72) X (v := ush (ush (ush (ush (tzm x) 16) 8) 4) 2) dJ6_numberOfTrailingZeros_0f7a4_72 (rfl) ?_
            refine j_istore_n (pc := 73) X (lv' := [(0, .int (ush (ush (ush (ush (tzm x) 16) 8) 4) 2)), (1, .int (nI 31))]) dJ6_numberOfTrailingZeros_0f7a4_73 rfl (by decide) rfl ?_
            refine j_iload_n (pc := 74) X dJ6_numberOfTrailingZeros_0f7a4_74 rfl 1 rfl ?_
            refine j_iload_n (pc := 75) X dJ6_numberOfTrailingZeros_0f7a4_75 rfl 0 rfl ?_
            refine j_iconst (pc := 76) X (v := nI 1) dJ6_numberOfTrailingZeros_0f7a4_76 (by decide) ?_
            refine j_iushr (pc := 77) X (v := ush (ush (ush (ush (ush (tzm x) 16) 8) 4) 2) 1) dJ6_numberOfTrailingZeros_0f7a4_77 (rfl) ?_
            refine j_iadd (pc := 78) X dJ6_numberOfTrailingZeros_0f7a4_78 ?_
            exact j_iret (pc := 79) X dJ6_numberOfTrailingZeros_0f7a4_79 ⟨by simp [tzF, tz1, tz2, tz3, c_9, c_23, c_38, c_52, c_64], rfl⟩
  · skip
    refine j_iload_n (pc := 12) X dJ6_numberOfTrailingZeros_0f7a4_12 rfl 0 rfl ?_
    refine j_bipush (pc := 13) X (v := nI 32) dJ6_numberOfTrailingZeros_0f7a4_13 (by decide) ?_
    refine j_iand (pc := 15) X dJ6_numberOfTrailingZeros_0f7a4_15 ?_
    exact j_iret (pc := 16) X dJ6_numberOfTrailingZeros_0f7a4_16 ⟨by simp [tzF, tz1, tz2, tz3, c_9], rfl⟩

set_option maxHeartbeats 4000000 in
set_option maxRecDepth 100000 in
theorem mX8_laySums_L3 (l : Launch) (G : jG) (ql : Nat) (ql0 : Nat) (ql1 : Nat) (tn : Nat) (qt : Nat) (qn : Nat) (ms : Bool) (so : Nat) (ln : Nat) (u : Nat → Int64) (qs : Nat) (f : Nat → Int64) (fr : Nat) (htn : tn ≤ 16) (hfr : fr ≤ 8) (hf0 : f 0 = 0) (κ : jK) (X : CX κ l yX8_laySums cX8_laySums 8 RX8 wsX8_laySums none ({ frames := 1, cells := 0, slots := 0, locals := 21 }) G (va_A [(ql, .inr (8, [.ref ql0, .ref ql1, .int (nI tn)])), (qt, .inr (7, [.ref qn, .int (b2i ms), .int (nI so), .int (nI ln)])), kJ G qn 40 u, kJ G qs 256 f] (js κ).heap.size))    : ∀ (fu : Nat) (st : Nat) (h1 : 1 ≤ st) (h2 : st ≤ 256) (_ : 256 - st < fu), JJ κ 8 G (va_A [(ql, .inr (8, [.ref ql0, .ref ql1, .int (nI tn)])), (qt, .inr (7, [.ref qn, .int (b2i ms), .int (nI so), .int (nI ln)])), kJ G qn 40 u, kJ G qs 256 f] (js κ).heap.size) 0 0 (jQ κ G [(ql, .inr (8, [.ref ql0, .ref ql1, .int (nI tn)])), (qt, .inr (7, [.ref qn, .int (b2i ms), .int (nI so), .int (nI ln)])), kJ G qn 40 u, kJ G qs 256 f] (fun r w' => r = none ∧ w' = [(ql, .inr (8, [.ref ql0, .ref ql1, .int (nI tn)])), (qt, .inr (7, [.ref qn, .int (b2i ms), .int (nI so), .int (nI ln)])), kJ G qn 40 u, kJ G qs 256 (pf (lsm u tn fr) f 256)]) 0 0) 3 [(0, .ref ql), (1, .ref qt), (2, .int (nI fr)), (3, .ref qs), (4, .int (nI st))] [] [(ql, .inr (8, [.ref ql0, .ref ql1, .int (nI tn)])), (qt, .inr (7, [.ref qn, .int (b2i ms), .int (nI so), .int (nI ln)])), kJ G qn 40 u, kJ G qs 256 (pf (lsm u tn fr) f st)] := by
  have i_X7 : ∀ w ∈ wsX70, w ∈ wsX8_laySums := by decide +kernel
  have i_X8 : ∀ w ∈ wsX80, w ∈ wsX8_laySums := by decide +kernel
  intro fu
  induction fu with
  | zero => intro st h1 h2 hms; exact absurd hms (Nat.not_lt_zero _)
  | succ fu ih =>
    intro st h1 h2 hms
    refine j_iload (pc := 3) X dX8_laySums_3 4 rfl ?_
    refine j_sipush (pc := 5) X (v := nI 256) dX8_laySums_5 (by decide) ?_
    refine j_icmpN_ge (pc := 8) X (a := st) (b := 256) (by first | omega | (have h9 := (tz8 (s := st) (by omega) (by omega)).2.1; omega)) (by first | omega | (have h9 := (tz8 (s := st) (by omega) (by omega)).2.1; omega)) (tgt := 64) dX8_laySums_8 (by decide) (fun c_8 => ?_) (fun c_8 => ?_)
    · skip
      exact j_vret (pc := 64) X dX8_laySums_64 ⟨rfl, by rw [show st = 256 by omega]⟩
    · skip
      refine j_iload_n (pc := 11) X dX8_laySums_11 rfl 2 rfl ?_
      refine j_iload (pc := 12) X dX8_laySums_12 4 rfl ?_
      refine j_ciP (pc := 14) X [] rfl (j_rS X (As := [.int (nI st)]) (rest := [.int (nI fr)]) 1 (mJ6_numberOfTrailingZeros_0f7a4 l G (nI st) ) gX8_laySums_J6_numberOfTrailingZeros_0f7a4 rfl rfl rfl (by decide +kernel) ⟨Nat.le_of_ble_eq_true rfl, Nat.le_of_ble_eq_true rfl⟩ rfl [] rfl rfl rfl (Nat.le_of_ble_eq_true rfl) dX8_laySums_14 ⟨Nat.le_of_ble_eq_true rfl, Nat.le_of_ble_eq_true rfl⟩) ?_
      refine j_topi (z := nI (tzn 8 st)) ((tz8 (by omega) (by omega)).1) ?_
      refine j_iadd (pc := 17) X dX8_laySums_17 ?_
      refine j_topi (z := nI (fr + tzn 8 st)) (nI_add _ _) ?_
      refine j_istore (pc := 18) X (lv' := [(5, .int (nI (fr + tzn 8 st))), (0, .ref ql), (1, .ref qt), (2, .int (nI fr)), (3, .ref qs), (4, .int (nI st))]) dX8_laySums_18 (by decide) rfl ?_
      refine j_iload (pc := 20) X dX8_laySums_20 0 rfl ?_
      refine j_aload_n (pc := 22) X dX8_laySums_22 rfl 1 rfl ?_
      refine j_get (pc := 23) X 8 i_X8 0 rfl rfl 2 (by decide) (by decide +kernel) rfl dX8_laySums_23 ?_
      refine j_icmpN_ge (pc := 26) X (a := (fr + tzn 8 st)) (b := tn) (by first | omega | (have h9 := (tz8 (s := st) (by omega) (by omega)).2.1; omega)) (by first | omega | (have h9 := (tz8 (s := st) (by omega) (by omega)).2.1; omega)) (tgt := 39) dX8_laySums_26 (by decide) (fun c_26 => ?_) (fun c_26 => ?_)
      · skip
        refine j_lconst (pc := 39) X (v := 0) dX8_laySums_39 (by decide) ?_
        refine j_lstore (pc := 40) X (lv' := [(6, .long 0), (5, .int (nI (fr + tzn 8 st))), (0, .ref ql), (1, .ref qt), (2, .int (nI fr)), (3, .ref qs), (4, .int (nI st))]) dX8_laySums_40 (by decide) rfl ?_
        refine j_aload_n (pc := 42) X dX8_laySums_42 rfl 5 rfl ?_
        refine j_iload (pc := 43) X dX8_laySums_43 6 rfl ?_
        refine j_aload_n (pc := 45) X dX8_laySums_45 rfl 5 rfl ?_
        refine j_iload (pc := 46) X dX8_laySums_46 6 rfl ?_
        refine j_iload (pc := 48) X dX8_laySums_48 6 rfl ?_
        refine j_iconst (pc := 50) X (v := nI 1) dX8_laySums_50 (by decide) ?_
        refine j_isub (pc := 51) X dX8_laySums_51 ?_
        refine j_topi (z := nI (st - 1)) (pk_sub (by omega)) ?_
        refine j_iand (pc := 52) X dX8_laySums_52 ?_
        refine j_topi (z := nI (st &&& (st - 1))) (nI_and _ _) ?_
        refine j_lald (pc := 53) X 3 rfl (vp_in_nI (by have h9 : st &&& (st - 1) ≤ st := Nat.and_le_left; omega) (by decide)) (v := lsm u tn fr (st &&& (st - 1))) ((congrArg (pf (lsm u tn fr) f st) (nI_clamp (by have h9 : st &&& (st - 1) ≤ st := Nat.and_le_left; omega))).trans (pf_in (by have h9 : st &&& (st - 1) ≤ st - 1 := Nat.and_le_right; omega))) dX8_laySums_53 ?_
        refine j_lload (pc := 54) X dX8_laySums_54 0 rfl ?_
        refine j_ladd (pc := 56) X dX8_laySums_56 ?_
        refine j_topl (z := lsm u tn fr st) (by rw [← lsm_s (s := st) (by omega) (by omega)]; first | rw [if_pos (by omega)] | rw [if_neg (by omega)]) ?_
        refine j_last (pc := 57) X (f2 := (va_up (pf (lsm u tn fr) f st) st (lsm u tn fr st))) (ws' := [(ql, .inr (8, [.ref ql0, .ref ql1, .int (nI tn)])), (qt, .inr (7, [.ref qn, .int (b2i ms), .int (nI so), .int (nI ln)])), kJ G qn 40 u, kJ G qs 256 (va_up (pf (lsm u tn fr) f st) st (lsm u tn fr st))]) 3 rfl (vp_in_nI (by omega) (by decide)) dX8_laySums_57 (by rw [nI_clamp (by omega)]; exact lF_up _ _ _) rfl ?_
        refine j_iinc (pc := 58) X (v := nI (st + 1)) (lv' := [(4, .int (nI (st + 1))), (6, .long 0), (5, .int (nI (fr + tzn 8 st))), (0, .ref ql), (1, .ref qt), (2, .int (nI fr)), (3, .ref qs)]) dX8_laySums_58 6 rfl (nI_1 _) (by decide) rfl ?_
        refine j_goto (pc := 61) X (tgt := 3) dX8_laySums_61 (by decide) ?_
        refine j_lv [3, 4, 5, 6, 0] (lv' := [(0, .ref ql), (1, .ref qt), (2, .int (nI fr)), (3, .ref qs), (4, .int (nI (st + 1)))]) rfl ?_
        refine j_ws (ws' := [(ql, .inr (8, [.ref ql0, .ref ql1, .int (nI tn)])), (qt, .inr (7, [.ref qn, .int (b2i ms), .int (nI so), .int (nI ln)])), kJ G qn 40 u, kJ G qs 256 (pf (lsm u tn fr) f (st + 1))]) ?_ ?_
        · (rw [pf_s])
        exact ih (st + 1) (by omega) (by omega) (by omega)
      · skip
        refine j_aload_n (pc := 29) X dX8_laySums_29 rfl 2 rfl ?_
        refine j_getN (pc := 30) X 7 i_X7 1 rfl rfl 0 (by decide) (by decide +kernel) rfl dX8_laySums_30 ?_
        refine j_iload (pc := 33) X dX8_laySums_33 0 rfl ?_
        refine j_lald (pc := 35) X 2 rfl (vp_in_nI (by have h9 := (tz8 (s := st) (by omega) (by omega)).2.1; omega) (by decide)) (v := u (fr + tzn 8 st)) (congrArg u (nI_clamp (by have h9 := (tz8 (s := st) (by omega) (by omega)).2.1; omega))) dX8_laySums_35 ?_
        refine j_goto (pc := 36) X (tgt := 40) dX8_laySums_36 (by decide) ?_
        refine j_lstore (pc := 40) X (lv' := [(6, .long (u (fr + tzn 8 st))), (5, .int (nI (fr + tzn 8 st))), (0, .ref ql), (1, .ref qt), (2, .int (nI fr)), (3, .ref qs), (4, .int (nI st))]) dX8_laySums_40 (by decide) rfl ?_
        refine j_aload_n (pc := 42) X dX8_laySums_42 rfl 5 rfl ?_
        refine j_iload (pc := 43) X dX8_laySums_43 6 rfl ?_
        refine j_aload_n (pc := 45) X dX8_laySums_45 rfl 5 rfl ?_
        refine j_iload (pc := 46) X dX8_laySums_46 6 rfl ?_
        refine j_iload (pc := 48) X dX8_laySums_48 6 rfl ?_
        refine j_iconst (pc := 50) X (v := nI 1) dX8_laySums_50 (by decide) ?_
        refine j_isub (pc := 51) X dX8_laySums_51 ?_
        refine j_topi (z := nI (st - 1)) (pk_sub (by omega)) ?_
        refine j_iand (pc := 52) X dX8_laySums_52 ?_
        refine j_topi (z := nI (st &&& (st - 1))) (nI_and _ _) ?_
        refine j_lald (pc := 53) X 3 rfl (vp_in_nI (by have h9 : st &&& (st - 1) ≤ st := Nat.and_le_left; omega) (by decide)) (v := lsm u tn fr (st &&& (st - 1))) ((congrArg (pf (lsm u tn fr) f st) (nI_clamp (by have h9 : st &&& (st - 1) ≤ st := Nat.and_le_left; omega))).trans (pf_in (by have h9 : st &&& (st - 1) ≤ st - 1 := Nat.and_le_right; omega))) dX8_laySums_53 ?_
        refine j_lload (pc := 54) X dX8_laySums_54 0 rfl ?_
        refine j_ladd (pc := 56) X dX8_laySums_56 ?_
        refine j_topl (z := lsm u tn fr st) (by rw [← lsm_s (s := st) (by omega) (by omega)]; first | rw [if_pos (by omega)] | rw [if_neg (by omega)]) ?_
        refine j_last (pc := 57) X (f2 := (va_up (pf (lsm u tn fr) f st) st (lsm u tn fr st))) (ws' := [(ql, .inr (8, [.ref ql0, .ref ql1, .int (nI tn)])), (qt, .inr (7, [.ref qn, .int (b2i ms), .int (nI so), .int (nI ln)])), kJ G qn 40 u, kJ G qs 256 (va_up (pf (lsm u tn fr) f st) st (lsm u tn fr st))]) 3 rfl (vp_in_nI (by omega) (by decide)) dX8_laySums_57 (by rw [nI_clamp (by omega)]; exact lF_up _ _ _) rfl ?_
        refine j_iinc (pc := 58) X (v := nI (st + 1)) (lv' := [(4, .int (nI (st + 1))), (6, .long (u (fr + tzn 8 st))), (5, .int (nI (fr + tzn 8 st))), (0, .ref ql), (1, .ref qt), (2, .int (nI fr)), (3, .ref qs)]) dX8_laySums_58 6 rfl (nI_1 _) (by decide) rfl ?_
        refine j_goto (pc := 61) X (tgt := 3) dX8_laySums_61 (by decide) ?_
        refine j_lv [3, 4, 5, 6, 0] (lv' := [(0, .ref ql), (1, .ref qt), (2, .int (nI fr)), (3, .ref qs), (4, .int (nI (st + 1)))]) rfl ?_
        refine j_ws (ws' := [(ql, .inr (8, [.ref ql0, .ref ql1, .int (nI tn)])), (qt, .inr (7, [.ref qn, .int (b2i ms), .int (nI so), .int (nI ln)])), kJ G qn 40 u, kJ G qs 256 (pf (lsm u tn fr) f (st + 1))]) ?_ ?_
        · (rw [pf_s])
        exact ih (st + 1) (by omega) (by omega) (by omega)
set_option maxHeartbeats 4000000 in
set_option maxRecDepth 100000 in
theorem mX8_laySums (l : Launch) (G : jG) (ql : Nat) (ql0 : Nat) (ql1 : Nat) (tn : Nat) (qt : Nat) (qn : Nat) (ms : Bool) (so : Nat) (ln : Nat) (u : Nat → Int64) (qs : Nat) (f : Nat → Int64) (fr : Nat) (htn : tn ≤ 16) (hfr : fr ≤ 8) (hf0 : f 0 = 0) : MV l yX8_laySums wsX8_laySums ({ frames := 1, cells := 0, slots := 0, locals := 21 }) G [.ref ql, .ref qt, .int (nI fr), .ref qs] [(ql, .inr (8, [.ref ql0, .ref ql1, .int (nI tn)])), (qt, .inr (7, [.ref qn, .int (b2i ms), .int (nI so), .int (nI ln)])), kJ G qn 40 u, kJ G qs 256 f] (none) [(ql, .inr (8, [.ref ql0, .ref ql1, .int (nI tn)])), (qt, .inr (7, [.ref qn, .int (b2i ms), .int (nI so), .int (nI ln)])), kJ G qn 40 u, kJ G qs 256 (pf (lsm u tn fr) f 256)] := by
  refine MF.ofJ (cc := cX8_laySums) (maxL := 8) (ret := none) (own := RX8) (lv := [(0, .ref ql), (1, .ref qt), (2, .int (nI fr)), (3, .ref qs)]) (by decide) rfl rfl (Nat.le_of_ble_eq_true rfl) rfl ?_
  intro κ X
  have i_X7 : ∀ w ∈ wsX70, w ∈ wsX8_laySums := by decide +kernel
  have i_X8 : ∀ w ∈ wsX80, w ∈ wsX8_laySums := by decide +kernel
  refine j_iconst (pc := 0) X (v := nI 1) dX8_laySums_0 (by decide) ?_
  refine j_istore (pc := 1) X (lv' := [(4, .int (nI 1)), (0, .ref ql), (1, .ref qt), (2, .int (nI fr)), (3, .ref qs)]) dX8_laySums_1 (by decide) rfl ?_
  refine j_lv [1, 2, 3, 4, 0] (lv' := [(0, .ref ql), (1, .ref qt), (2, .int (nI fr)), (3, .ref qs), (4, .int (nI 1))]) rfl ?_
  refine j_ws (ws' := [(ql, .inr (8, [.ref ql0, .ref ql1, .int (nI tn)])), (qt, .inr (7, [.ref qn, .int (b2i ms), .int (nI so), .int (nI ln)])), kJ G qn 40 u, kJ G qs 256 (pf (lsm u tn fr) f 1)]) ?_ ?_
  · (rw [pf_1 (by rw [hf0, lsm_0])])
  exact mX8_laySums_L3 l G ql ql0 ql1 tn qt qn ms so ln u qs f fr htn hfr hf0 κ X    (256 - 1 + 1) 1 (by omega) (by omega) (Nat.lt_succ_self _)

set_option maxHeartbeats 4000000 in
set_option maxRecDepth 100000 in
theorem mX8_lay (l : Launch) (G : jG) (ql : Nat) (ql0 : Nat) (ql1 : Nat) (tn : Nat) (f1 : Nat → Int64) (f2 : Nat → Int64) (qt : Nat) (qn : Nat) (ms : Bool) (so : Nat) (ln : Nat) (u : Nat → Int64) (n : Nat) (hn : n ≤ 16) (hf1 : f1 0 = 0) (hf2 : f2 0 = 0) : MV l yX8_lay wsX8_lay ({ frames := 2, cells := 0, slots := 0, locals := 48 }) G [.ref ql, .ref qt, .int (nI n)] [(ql, .inr (8, [.ref ql0, .ref ql1, .int (nI tn)])), kJ G ql0 256 f1, kJ G ql1 256 f2, (qt, .inr (7, [.ref qn, .int (b2i ms), .int (nI so), .int (nI ln)])), kJ G qn 40 u] (none) [(ql, .inr (8, [.ref ql0, .ref ql1, .int (nI n)])), kJ G ql0 256 (pf (lsm u n 0) f1 256), kJ G ql1 256 (pf (lsm u n 8) f2 256), (qt, .inr (7, [.ref qn, .int (b2i ms), .int (nI so), .int (nI ln)])), kJ G qn 40 u] := by
  refine MF.ofJ (cc := cX8_lay) (maxL := 3) (ret := none) (own := RX8) (lv := [(0, .ref ql), (1, .ref qt), (2, .int (nI n))]) (by decide) rfl rfl (Nat.le_of_ble_eq_true rfl) rfl ?_
  intro κ X
  have i_X7 : ∀ w ∈ wsX70, w ∈ wsX8_lay := by decide +kernel
  have i_X8 : ∀ w ∈ wsX80, w ∈ wsX8_lay := by decide +kernel
  refine j_aload_n (pc := 0) X dX8_lay_0 rfl 0 rfl ?_
  refine j_iload_n (pc := 1) X dX8_lay_1 rfl 2 rfl ?_
  refine j_put (pc := 2) X (v := .int (nI n)) (ws' := [(ql, .inr (8, [.ref ql0, .ref ql1, .int (nI n)])), kJ G ql0 256 f1, kJ G ql1 256 f2, (qt, .inr (7, [.ref qn, .int (b2i ms), .int (nI so), .int (nI ln)])), kJ G qn 40 u]) 8 i_X8 tyX8 tyX8_ok nmX8 0 rfl rfl 2 (by decide) (by decide +kernel) (by decide) (rfl) (rfl) (Nat.le_of_ble_eq_true rfl) dX8_lay_2 rfl ?_
  refine j_aload_n (pc := 5) X dX8_lay_5 rfl 0 rfl ?_
  refine j_aload_n (pc := 6) X dX8_lay_6 rfl 1 rfl ?_
  refine j_iconst (pc := 7) X (v := nI 0) dX8_lay_7 (by decide) ?_
  refine j_aload_n (pc := 8) X dX8_lay_8 rfl 0 rfl ?_
  refine j_get (pc := 9) X 8 i_X8 0 rfl rfl 0 (by decide) (by decide +kernel) rfl dX8_lay_9 ?_
  refine j_cv (pc := 12) X (ws' := [(ql, .inr (8, [.ref ql0, .ref ql1, .int (nI n)])), kJ G ql0 256 (pf (lsm u n 0) f1 256), kJ G ql1 256 f2, (qt, .inr (7, [.ref qn, .int (b2i ms), .int (nI so), .int (nI ln)])), kJ G qn 40 u]) [0, 3, 4, 1] rfl (j_rV X (b := ql) (As := [.ref qt, .int (nI 0), .ref ql0]) (ci := 8) (rest := []) 3 (mX8_laySums l G ql ql0 ql1 n qt qn ms so ln u ql0 f1 0 (by first | assumption | omega | exact ob_s (by omega) | exact ob_n) (by first | assumption | omega | exact ob_s (by omega) | exact ob_n) (by first | assumption | omega | exact ob_s (by omega) | exact ob_n)) gX8_lay_X8_laySums rfl rfl rfl (by decide +kernel) ⟨Nat.le_of_ble_eq_true rfl, Nat.le_of_ble_eq_true rfl⟩ rfl rfl 0 rfl [0, 3, 4, 1] rfl rfl rfl (Nat.le_of_ble_eq_true rfl) dX8_lay_12 ⟨Nat.le_of_ble_eq_true rfl, Nat.le_of_ble_eq_true rfl⟩) rfl rfl ?_
  refine j_aload_n (pc := 15) X dX8_lay_15 rfl 0 rfl ?_
  refine j_aload_n (pc := 16) X dX8_lay_16 rfl 1 rfl ?_
  refine j_bipush (pc := 17) X (v := nI 8) dX8_lay_17 (by decide) ?_
  refine j_aload_n (pc := 19) X dX8_lay_19 rfl 0 rfl ?_
  refine j_get (pc := 20) X 8 i_X8 0 rfl rfl 1 (by decide) (by decide +kernel) rfl dX8_lay_20 ?_
  refine j_cv (pc := 23) X (ws' := [(ql, .inr (8, [.ref ql0, .ref ql1, .int (nI n)])), kJ G ql0 256 (pf (lsm u n 0) f1 256), kJ G ql1 256 (pf (lsm u n 8) f2 256), (qt, .inr (7, [.ref qn, .int (b2i ms), .int (nI so), .int (nI ln)])), kJ G qn 40 u]) [0, 3, 4, 2] rfl (j_rV X (b := ql) (As := [.ref qt, .int (nI 8), .ref ql1]) (ci := 8) (rest := []) 3 (mX8_laySums l G ql ql0 ql1 n qt qn ms so ln u ql1 f2 8 (by first | assumption | omega | exact ob_s (by omega) | exact ob_n) (by first | assumption | omega | exact ob_s (by omega) | exact ob_n) (by first | assumption | omega | exact ob_s (by omega) | exact ob_n)) gX8_lay_X8_laySums rfl rfl rfl (by decide +kernel) ⟨Nat.le_of_ble_eq_true rfl, Nat.le_of_ble_eq_true rfl⟩ rfl rfl 0 rfl [0, 3, 4, 2] rfl rfl rfl (Nat.le_of_ble_eq_true rfl) dX8_lay_23 ⟨Nat.le_of_ble_eq_true rfl, Nat.le_of_ble_eq_true rfl⟩) rfl rfl ?_
  exact j_vret (pc := 26) X dX8_lay_26 ⟨rfl, rfl⟩

set_option maxHeartbeats 4000000 in
set_option maxRecDepth 100000 in
theorem mX8_sumOf (l : Launch) (G : jG) (ql : Nat) (ql0 : Nat) (ql1 : Nat) (tn : Nat) (f1 : Nat → Int64) (f2 : Nat → Int64) (s : Nat) (hs : s < 2147483648) : MV l yX8_sumOf wsX8_sumOf ({ frames := 0, cells := 0, slots := 0, locals := 0 }) G [.ref ql, .int (nI s)] [(ql, .inr (8, [.ref ql0, .ref ql1, .int (nI tn)])), kJ G ql0 256 f1, kJ G ql1 256 f2] (some (.long (sm2 f1 f2 s))) [(ql, .inr (8, [.ref ql0, .ref ql1, .int (nI tn)])), kJ G ql0 256 f1, kJ G ql1 256 f2] := by
  refine MF.ofJ (cc := cX8_sumOf) (maxL := 2) (ret := (some .long)) (own := RX8) (lv := [(0, .ref ql), (1, .int (nI s))]) (by decide) rfl rfl (Nat.le_of_ble_eq_true rfl) rfl ?_
  intro κ X
  have i_X8 : ∀ w ∈ wsX80, w ∈ wsX8_sumOf := by decide +kernel
  refine j_aload_n (pc := 0) X dX8_sumOf_0 rfl 0 rfl ?_
  refine j_get (pc := 1) X 8 i_X8 0 rfl rfl 0 (by decide) (by decide +kernel) rfl dX8_sumOf_1 ?_
  refine j_iload_n (pc := 4) X dX8_sumOf_4 rfl 1 rfl ?_
  refine j_sipush (pc := 5) X (v := nI 255) dX8_sumOf_5 (by decide) ?_
  refine j_iand (pc := 8) X dX8_sumOf_8 ?_
  refine j_topi (z := nI (s % 256)) (pk_andN (by omega) 8 (by decide)) ?_
  refine j_lald (pc := 9) X 1 rfl (vp_in_nI (by omega) (by decide)) (v := f1 (s % 256)) (congrArg f1 (nI_clamp (by omega))) dX8_sumOf_9 ?_
  refine j_aload_n (pc := 10) X dX8_sumOf_10 rfl 0 rfl ?_
  refine j_get (pc := 11) X 8 i_X8 0 rfl rfl 1 (by decide) (by decide +kernel) rfl dX8_sumOf_11 ?_
  refine j_iload_n (pc := 14) X dX8_sumOf_14 rfl 1 rfl ?_
  refine j_bipush (pc := 15) X (v := nI 8) dX8_sumOf_15 (by decide) ?_
  refine j_ishr (pc := 17) X dX8_sumOf_17 ?_
  refine j_topi (z := nI (s / 256)) (pk_shrN (by omega) _ 8 (by decide)) ?_
  refine j_sipush (pc := 18) X (v := nI 255) dX8_sumOf_18 (by decide) ?_
  refine j_iand (pc := 21) X dX8_sumOf_21 ?_
  refine j_topi (z := nI (s / 256 % 256)) (pk_andN (by omega) 8 (by decide)) ?_
  refine j_lald (pc := 22) X 2 rfl (vp_in_nI (by omega) (by decide)) (v := f2 (s / 256 % 256)) (congrArg f2 (nI_clamp (by omega))) dX8_sumOf_22 ?_
  refine j_ladd (pc := 23) X dX8_sumOf_23 ?_
  exact j_lret (pc := 24) X dX8_sumOf_24 ⟨by rfl, rfl⟩

set_option maxHeartbeats 4000000 in
set_option maxRecDepth 100000 in
theorem mX8_countSets_L4 (l : Launch) (G : jG) (n : Nat) (k : Nat) (hn : n ≤ 16) (hk : k ≤ n) (κ : jK) (X : CX κ l yX8_countSets cX8_countSets 4 RX8 wsX8_countSets (some .int) ({ frames := 0, cells := 0, slots := 0, locals := 0 }) G (va_A [] (js κ).heap.size))    : ∀ (fu : Nat) (i : Nat) (hi : i ≤ k) (_ : k - i < fu), JJ κ 4 G (va_A [] (js κ).heap.size) 0 0 (jQ κ G [] (fun r w' => r = some (.int (nI (csF n k k))) ∧ w' = []) 0 0) 4 [(0, .int (nI n)), (1, .int (nI k)), (2, .int (nI (csF n k i))), (3, .int (nI (i + 1)))] [] [] := by
  intro fu
  induction fu with
  | zero => intro i hi hms; exact absurd hms (Nat.not_lt_zero _)
  | succ fu ih =>
    intro i hi hms
    refine j_iload_n (pc := 4) X dX8_countSets_4 rfl 3 rfl ?_
    refine j_iload_n (pc := 5) X dX8_countSets_5 rfl 1 rfl ?_
    refine j_icmpN_gt (pc := 6) X (a := (i + 1)) (b := k) (by omega) (by omega) (tgt := 25) dX8_countSets_6 (by decide) (fun c_6 => ?_) (fun c_6 => ?_)
    · skip
      refine j_iload_n (pc := 25) X dX8_countSets_25 rfl 2 rfl ?_
      exact j_iret (pc := 26) X dX8_countSets_26 ⟨by rw [show i = k by omega], rfl⟩
    · skip
      refine j_iload_n (pc := 9) X dX8_countSets_9 rfl 2 rfl ?_
      refine j_iload_n (pc := 10) X dX8_countSets_10 rfl 0 rfl ?_
      refine j_iload_n (pc := 11) X dX8_countSets_11 rfl 1 rfl ?_
      refine j_isub (pc := 12) X dX8_countSets_12 ?_
      refine j_topi (z := nI (n - k)) (pk_sub (by omega)) ?_
      refine j_iload_n (pc := 13) X dX8_countSets_13 rfl 3 rfl ?_
      refine j_iadd (pc := 14) X dX8_countSets_14 ?_
      refine j_topi (z := nI (n - k + (i + 1))) (nI_add _ _) ?_
      refine j_imul (pc := 15) X dX8_countSets_15 ?_
      refine j_topi (z := nI (csF n k i * (n - k + (i + 1)))) (pk_mul _ _) ?_
      refine j_iload_n (pc := 16) X dX8_countSets_16 rfl 3 rfl ?_
      refine j_idiv (pc := 17) X dX8_countSets_17 (by exact nI_ne0 (by omega) (by omega)) ?_
      refine j_topi (z := nI (csF n k i * (n - k + (i + 1)) / (i + 1))) (pk_div (by have h9 := csF_le hn hk (i := i) (by omega); have h8 : csF n k i * (n - k + (i + 1)) ≤ 200000 * 40 := Nat.mul_le_mul h9 (by omega); omega) (by omega) (by omega)) ?_
      refine j_istore_n (pc := 18) X (lv' := [(2, .int (nI (csF n k i * (n - k + (i + 1)) / (i + 1)))), (0, .int (nI n)), (1, .int (nI k)), (3, .int (nI (i + 1)))]) dX8_countSets_18 rfl (by decide) rfl ?_
      refine j_iinc (pc := 19) X (v := nI (i + 1 + 1)) (lv' := [(3, .int (nI (i + 1 + 1))), (2, .int (nI (csF n k i * (n - k + (i + 1)) / (i + 1)))), (0, .int (nI n)), (1, .int (nI k))]) dX8_countSets_19 3 rfl (nI_1 _) (by decide) rfl ?_
      refine j_goto (pc := 22) X (tgt := 4) dX8_countSets_22 (by decide) ?_
      refine j_lv [2, 3, 1, 0] (lv' := [(0, .int (nI n)), (1, .int (nI k)), (2, .int (nI (csF n k i * (n - k + (i + 1)) / (i + 1)))), (3, .int (nI (i + 1 + 1)))]) rfl ?_
      refine j_lvq (lv' := [(0, .int (nI n)), (1, .int (nI k)), (2, .int (nI (csF n k (i + 1)))), (3, .int (nI (i + 1 + 1)))]) ?_ ?_
      · rw [show (csF n k i * (n - k + (i + 1)) / (i + 1)) = csF n k (i + 1) from by (rfl)]
      exact ih (i + 1) (by omega) (by omega)
set_option maxHeartbeats 4000000 in
set_option maxRecDepth 100000 in
theorem mX8_countSets (l : Launch) (G : jG) (n : Nat) (k : Nat) (hn : n ≤ 16) (hk : k ≤ n) : MV l yX8_countSets wsX8_countSets ({ frames := 0, cells := 0, slots := 0, locals := 0 }) G [.int (nI n), .int (nI k)] [] (some (.int (nI (csF n k k)))) [] := by
  refine MF.ofJ (cc := cX8_countSets) (maxL := 4) (ret := (some .int)) (own := RX8) (lv := [(0, .int (nI n)), (1, .int (nI k))]) (by decide) rfl rfl (Nat.le_of_ble_eq_true rfl) rfl ?_
  intro κ X
  refine j_iconst (pc := 0) X (v := nI 1) dX8_countSets_0 (by decide) ?_
  refine j_istore_n (pc := 1) X (lv' := [(2, .int (nI 1)), (0, .int (nI n)), (1, .int (nI k))]) dX8_countSets_1 rfl (by decide) rfl ?_
  refine j_iconst (pc := 2) X (v := nI 1) dX8_countSets_2 (by decide) ?_
  refine j_istore_n (pc := 3) X (lv' := [(3, .int (nI 1)), (2, .int (nI 1)), (0, .int (nI n)), (1, .int (nI k))]) dX8_countSets_3 rfl (by decide) rfl ?_
  refine j_lv [2, 3, 1, 0] (lv' := [(0, .int (nI n)), (1, .int (nI k)), (2, .int (nI 1)), (3, .int (nI 1))]) rfl ?_
  refine j_lvq (lv' := [(0, .int (nI n)), (1, .int (nI k)), (2, .int (nI (csF n k 0))), (3, .int (nI (0 + 1)))]) ?_ ?_
  · first | rfl | (rw [show (1) = csF n k 0 from by (rfl), show (1) = 0 + 1 from by (rfl)])
  exact mX8_countSets_L4 l G n k hn hk κ X    (k - 0 + 1) 0 (by omega) (Nat.lt_succ_self _)

set_option maxHeartbeats 4000000 in
set_option maxRecDepth 100000 in
theorem mX8_nextOfSameSize (l : Launch) (G : jG) (x : Int32)  : MV l yX8_nextOfSameSize wsX8_nextOfSameSize ({ frames := 1, cells := 0, slots := 0, locals := 21 }) G [.int x] [] (some (.int (nxF x))) [] := by
  refine MF.ofJ (cc := cX8_nextOfSameSize) (maxL := 4) (ret := (some .int)) (own := RX8) (lv := [(0, .int x)]) (by decide) rfl rfl (Nat.le_of_ble_eq_true rfl) rfl ?_
  intro κ X
  refine j_iload_n (pc := 0) X dX8_nextOfSameSize_0 rfl 0 rfl ?_
  refine j_iload_n (pc := 1) X dX8_nextOfSameSize_1 rfl 0 rfl ?_
  refine j_ineg (pc := 2) X dX8_nextOfSameSize_2 ?_
  refine j_iand (pc := 3) X dX8_nextOfSameSize_3 ?_
  refine j_istore_n (pc := 4) X (lv' := [(1, .int (x &&& (-x))), (0, .int x)]) dX8_nextOfSameSize_4 rfl (by decide) rfl ?_
  refine j_iload_n (pc := 5) X dX8_nextOfSameSize_5 rfl 1 rfl ?_
  refine j_iload_n (pc := 6) X dX8_nextOfSameSize_6 rfl 0 rfl ?_
  refine j_iadd (pc := 7) X dX8_nextOfSameSize_7 ?_
  refine j_istore_n (pc := 8) X (lv' := [(2, .int (x + (x &&& (-x)))), (1, .int (x &&& (-x))), (0, .int x)]) dX8_nextOfSameSize_8 rfl (by decide) rfl ?_
  refine j_iload_n (pc := 9) X dX8_nextOfSameSize_9 rfl 2 rfl ?_
  refine j_iload_n (pc := 10) X dX8_nextOfSameSize_10 rfl 0 rfl ?_
  refine j_ixor (pc := 11) X dX8_nextOfSameSize_11 ?_
  refine j_iconst (pc := 12) X (v := nI 2) dX8_nextOfSameSize_12 (by decide) ?_
  refine j_iushr (pc := 13) X (v := ush (x ^^^ (x + (x &&& (-x)))) 2) dX8_nextOfSameSize_13 (rfl) ?_
  refine j_istore_n (pc := 14) X (lv' := [(3, .int (ush (x ^^^ (x + (x &&& (-x)))) 2)), (2, .int (x + (x &&& (-x)))), (1, .int (x &&& (-x))), (0, .int x)]) dX8_nextOfSameSize_14 rfl (by decide) rfl ?_
  refine j_iload_n (pc := 15) X dX8_nextOfSameSize_15 rfl 1 rfl ?_
  refine j_iload_n (pc := 16) X dX8_nextOfSameSize_16 rfl 0 rfl ?_
  refine j_iload_n (pc := 17) X dX8_nextOfSameSize_17 rfl 2 rfl ?_
  refine j_ciP (pc := 18) X [] rfl (j_rS X (As := [.int (x &&& (-x))]) (rest := [.int (ush (x ^^^ (x + (x &&& (-x)))) 2), .int (x + (x &&& (-x)))]) 1 (mJ6_numberOfTrailingZeros_0f7a4 l G (x &&& (-x)) ) gX8_nextOfSameSize_J6_numberOfTrailingZeros_0f7a4 rfl rfl rfl (by decide +kernel) ⟨Nat.le_of_ble_eq_true rfl, Nat.le_of_ble_eq_true rfl⟩ rfl [] rfl rfl rfl (Nat.le_of_ble_eq_true rfl) dX8_nextOfSameSize_18 ⟨Nat.le_of_ble_eq_true rfl, Nat.le_of_ble_eq_true rfl⟩) ?_
  refine j_iushr (pc := 21) X (v := ((ush (x ^^^ (x + (x &&& (-x)))) 2).toUInt32 >>> ((tzF (x &&& (-x))).toUInt32 &&& Int32.toUInt32 31)).toInt32) dX8_nextOfSameSize_21 (rfl) ?_
  refine j_ior (pc := 22) X dX8_nextOfSameSize_22 ?_
  exact j_iret (pc := 23) X dX8_nextOfSameSize_23 ⟨by rfl, rfl⟩

set_option maxHeartbeats 4000000 in
set_option maxRecDepth 100000 in
theorem mX8_drawnSet_L12 (l : Launch) (G : jG) (n : Nat) (k : Nat) (seed : Nat) (hn : n ≤ 16) (κ : jK) (X : CX κ l yX8_drawnSet cX8_drawnSet 8 RX8 wsX8_drawnSet (some .int) ({ frames := 0, cells := 0, slots := 0, locals := 0 }) G (va_A [] (js κ).heap.size))    : ∀ (fu : Nat) (i : Nat) (s : Int64) (lf : Int32) (se : Int32) (hi : i ≤ n) (hq : drF n (n - i) s lf se = drF n n (nI seed).toInt64 (nI k) (nI 0)) (_ : n - i < fu), JJ κ 8 G (va_A [] (js κ).heap.size) 0 0 (jQ κ G [] (fun r w' => r = some (.int (drF n n (nI seed).toInt64 (nI k) (nI 0))) ∧ w' = []) 0 0) 12 [(0, .int (nI n)), (3, .long s), (5, .int lf), (6, .int se), (7, .int (nI i))] [] [] := by
  intro fu
  induction fu with
  | zero => intro i s lf se hi hq hms; exact absurd hms (Nat.not_lt_zero _)
  | succ fu ih =>
    intro i s lf se hi hq hms
    refine j_iload (pc := 12) X dX8_drawnSet_12 4 rfl ?_
    refine j_iload_n (pc := 14) X dX8_drawnSet_14 rfl 0 rfl ?_
    refine j_icmpN_ge (pc := 15) X (a := i) (b := n) (by omega) (by omega) (tgt := 67) dX8_drawnSet_15 (by decide) (fun c_15 => ?_) (fun c_15 => ?_)
    · skip
      refine j_iload (pc := 67) X dX8_drawnSet_67 3 rfl ?_
      exact j_iret (pc := 69) X dX8_drawnSet_69 ⟨by rw [← hq, show n - i = 0 by omega]; rfl, rfl⟩
    · skip
      refine j_ldc2 (pc := 18) X (v := 1103515245) dX8_drawnSet_18 (by decide +kernel) ?_
      refine j_lload_n (pc := 21) X dX8_drawnSet_21 rfl 1 rfl ?_
      refine j_lmul (pc := 22) X dX8_drawnSet_22 ?_
      refine j_ldc2 (pc := 23) X (v := 12345) dX8_drawnSet_23 (by decide +kernel) ?_
      refine j_ladd (pc := 26) X dX8_drawnSet_26 ?_
      refine j_ldc2 (pc := 27) X (v := 2147483647) dX8_drawnSet_27 (by decide +kernel) ?_
      refine j_land (pc := 30) X dX8_drawnSet_30 ?_
      refine j_topl (z := lotS s) (rfl) ?_
      refine j_lstore_n (pc := 31) X (lv' := [(3, .long (lotS s)), (0, .int (nI n)), (5, .int lf), (6, .int se), (7, .int (nI i))]) dX8_drawnSet_31 rfl (by decide) rfl ?_
      refine j_lload_n (pc := 32) X dX8_drawnSet_32 rfl 0 rfl ?_
      refine j_bipush (pc := 33) X (v := nI 16) dX8_drawnSet_33 (by decide) ?_
      refine j_lshr (pc := 35) X (v := (lotS s) >>> ((nI 16).toInt64 &&& 63)) dX8_drawnSet_35 (rfl) ?_
      refine j_iload_n (pc := 36) X dX8_drawnSet_36 rfl 1 rfl ?_
      refine j_iload (pc := 37) X dX8_drawnSet_37 4 rfl ?_
      refine j_isub (pc := 39) X dX8_drawnSet_39 ?_
      refine j_topi (z := nI (n - i)) (pk_sub (by omega)) ?_
      refine j_i2l (pc := 40) X (v := (nI (n - i)).toInt64) dX8_drawnSet_40 (rfl) ?_
      refine j_lrem (pc := 41) X dX8_drawnSet_41 (by rw [nI_l (by omega)]; exact lN_ne0 (by omega) (by omega)) ?_
      refine j_iload (pc := 42) X dX8_drawnSet_42 2 rfl ?_
      refine j_i2l (pc := 44) X (v := lf.toInt64) dX8_drawnSet_44 (rfl) ?_
      refine j_lcmp (pc := 45) X dX8_drawnSet_45 ?_
      refine j_ifc_ge (pc := 46) X (tgt := 61) dX8_drawnSet_46 (by decide) (fun c_46 => ?_) (fun c_46 => ?_)
      · skip
        refine j_iinc (pc := 61) X (v := nI (i + 1)) (lv' := [(7, .int (nI (i + 1))), (3, .long (lotS s)), (0, .int (nI n)), (5, .int lf), (6, .int se)]) dX8_drawnSet_61 4 rfl (nI_1 _) (by decide) rfl ?_
        refine j_goto (pc := 64) X (tgt := 12) dX8_drawnSet_64 (by decide) ?_
        refine j_lv [2, 1, 3, 4, 0] (lv' := [(0, .int (nI n)), (3, .long (lotS s)), (5, .int lf), (6, .int se), (7, .int (nI (i + 1)))]) rfl ?_
        exact ih (i + 1) (lotS s) lf se (by omega) (by rw [← hq, show n - i = (n - (i + 1)) + 1 by omega]; simp only [drF]; rw [show n - (n - (i + 1) + 1) = i by omega, show n - (i + 1) + 1 = n - i by omega]; simp only [lotS] at c_46 ⊢; simp [c_46]) (by omega)
      · skip
        refine j_iload (pc := 49) X dX8_drawnSet_49 3 rfl ?_
        refine j_iconst (pc := 51) X (v := nI 1) dX8_drawnSet_51 (by decide) ?_
        refine j_iload (pc := 52) X dX8_drawnSet_52 4 rfl ?_
        refine j_ishl (pc := 54) X dX8_drawnSet_54 ?_
        refine j_ior (pc := 55) X dX8_drawnSet_55 ?_
        refine j_istore (pc := 56) X (lv' := [(6, .int (se ||| ((nI 1) <<< ((nI i) &&& 31)))), (3, .long (lotS s)), (0, .int (nI n)), (5, .int lf), (7, .int (nI i))]) dX8_drawnSet_56 (by decide) rfl ?_
        refine j_iinc (pc := 58) X (v := lf + (-1)) (lv' := [(5, .int (lf + (-1))), (6, .int (se ||| ((nI 1) <<< ((nI i) &&& 31)))), (3, .long (lotS s)), (0, .int (nI n)), (7, .int (nI i))]) dX8_drawnSet_58 3 rfl (rfl) (by decide) rfl ?_
        refine j_iinc (pc := 61) X (v := nI (i + 1)) (lv' := [(7, .int (nI (i + 1))), (5, .int (lf + (-1))), (6, .int (se ||| ((nI 1) <<< ((nI i) &&& 31)))), (3, .long (lotS s)), (0, .int (nI n))]) dX8_drawnSet_61 4 rfl (nI_1 _) (by decide) rfl ?_
        refine j_goto (pc := 64) X (tgt := 12) dX8_drawnSet_64 (by decide) ?_
        refine j_lv [4, 3, 1, 2, 0] (lv' := [(0, .int (nI n)), (3, .long (lotS s)), (5, .int (lf + (-1))), (6, .int (se ||| ((nI 1) <<< ((nI i) &&& 31)))), (7, .int (nI (i + 1)))]) rfl ?_
        exact ih (i + 1) (lotS s) (lf + (-1)) (se ||| ((nI 1) <<< ((nI i) &&& 31))) (by omega) (by rw [← hq, show n - i = (n - (i + 1)) + 1 by omega]; simp only [drF]; rw [show n - (n - (i + 1) + 1) = i by omega, show n - (i + 1) + 1 = n - i by omega]; simp only [lotS] at c_46 ⊢; simp [c_46]) (by omega)
set_option maxHeartbeats 4000000 in
set_option maxRecDepth 100000 in
theorem mX8_drawnSet (l : Launch) (G : jG) (n : Nat) (k : Nat) (seed : Nat) (hn : n ≤ 16) : MV l yX8_drawnSet wsX8_drawnSet ({ frames := 0, cells := 0, slots := 0, locals := 0 }) G [.int (nI n), .int (nI k), .int (nI seed)] [] (some (.int (drF n n (nI seed).toInt64 (nI k) (nI 0)))) [] := by
  refine MF.ofJ (cc := cX8_drawnSet) (maxL := 8) (ret := (some .int)) (own := RX8) (lv := [(0, .int (nI n)), (1, .int (nI k)), (2, .int (nI seed))]) (by decide) rfl rfl (Nat.le_of_ble_eq_true rfl) rfl ?_
  intro κ X
  refine j_iload_n (pc := 0) X dX8_drawnSet_0 rfl 2 rfl ?_
  refine j_i2l (pc := 1) X (v := (nI seed).toInt64) dX8_drawnSet_1 (rfl) ?_
  refine j_lstore_n (pc := 2) X (lv' := [(3, .long ((nI seed).toInt64)), (0, .int (nI n)), (1, .int (nI k)), (2, .int (nI seed))]) dX8_drawnSet_2 rfl (by decide) rfl ?_
  refine j_iload_n (pc := 3) X dX8_drawnSet_3 rfl 2 rfl ?_
  refine j_istore (pc := 4) X (lv' := [(5, .int (nI k)), (3, .long ((nI seed).toInt64)), (0, .int (nI n)), (1, .int (nI k)), (2, .int (nI seed))]) dX8_drawnSet_4 (by decide) rfl ?_
  refine j_iconst (pc := 6) X (v := nI 0) dX8_drawnSet_6 (by decide) ?_
  refine j_istore (pc := 7) X (lv' := [(6, .int (nI 0)), (5, .int (nI k)), (3, .long ((nI seed).toInt64)), (0, .int (nI n)), (1, .int (nI k)), (2, .int (nI seed))]) dX8_drawnSet_7 (by decide) rfl ?_
  refine j_iconst (pc := 9) X (v := nI 0) dX8_drawnSet_9 (by decide) ?_
  refine j_istore (pc := 10) X (lv' := [(7, .int (nI 0)), (6, .int (nI 0)), (5, .int (nI k)), (3, .long ((nI seed).toInt64)), (0, .int (nI n)), (1, .int (nI k)), (2, .int (nI seed))]) dX8_drawnSet_10 (by decide) rfl ?_
  refine j_lv [4, 3, 2, 1, 0] (lv' := [(0, .int (nI n)), (3, .long ((nI seed).toInt64)), (5, .int (nI k)), (6, .int (nI 0)), (7, .int (nI 0))]) rfl ?_
  exact mX8_drawnSet_L12 l G n k seed hn κ X    (n - 0 + 1) 0 ((nI seed).toInt64) (nI k) (nI 0) (by omega) (by rfl) (Nat.lt_succ_self _)

set_option maxHeartbeats 4000000 in
set_option maxRecDepth 100000 in
theorem mX8_gainOf (l : Launch) (G : jG) (ql : Nat) (ql0 : Nat) (ql1 : Nat) (tn : Nat) (f1 : Nat → Int64) (f2 : Nat → Int64) (qf : Nat) (fa : Int64) (fb : Int64) (s : Nat) (k : Nat) (a : Nat) (b : Nat) (htn : tn ≤ 16) (hs : s < 2147483648) (hk : bcF (nI s) = nI k) (hk0 : 0 < k) (hkn : k < tn) (hS : sm2 f1 f2 s = lN a) (hF : sm2 f1 f2 (2 ^ tn - 1) = lN b) (hab : a ≤ b) (hx : (lN a * lN (tn - k) - lN (b - a) * lN k).toInt.natAbs < 2 ^ 49) : MV l yX8_gainOf wsX8_gainOf ({ frames := 2, cells := 0, slots := 0, locals := 56 }) G [.ref ql, .int (nI s), .ref qf] [(ql, .inr (8, [.ref ql0, .ref ql1, .int (nI tn)])), kJ G ql0 256 f1, kJ G ql1 256 f2, (qf, .inr (1, [.long fa, .long fb]))] (none) [(ql, .inr (8, [.ref ql0, .ref ql1, .int (nI tn)])), kJ G ql0 256 f1, kJ G ql1 256 f2, (qf, .inr (1, [.long ((lN a * lN (tn - k) - lN (b - a) * lN k) / lN (gdl (lN a * lN (tn - k) - lN (b - a) * lN k) (k * (tn - k)))), .long (lN (k * (tn - k)) / lN (gdl (lN a * lN (tn - k) - lN (b - a) * lN k) (k * (tn - k))))]))] := by
  refine MF.ofJ (cc := cX8_gainOf) (maxL := 11) (ret := none) (own := RX8) (lv := [(0, .ref ql), (1, .int (nI s)), (2, .ref qf)]) (by decide) rfl rfl (Nat.le_of_ble_eq_true rfl) rfl ?_
  intro κ X
  have i_X1 : ∀ w ∈ wsX10, w ∈ wsX8_gainOf := by decide +kernel
  have i_X8 : ∀ w ∈ wsX80, w ∈ wsX8_gainOf := by decide +kernel
  refine j_iload_n (pc := 0) X dX8_gainOf_0 rfl 1 rfl ?_
  refine j_ciP (pc := 1) X [] rfl (j_rS X (As := [.int (nI s)]) (rest := []) 1 (mJ6_bitCount_0f7a4 l G (nI s) ) gX8_gainOf_J6_bitCount_0f7a4 rfl rfl rfl (by decide +kernel) ⟨Nat.le_of_ble_eq_true rfl, Nat.le_of_ble_eq_true rfl⟩ rfl [] rfl rfl rfl (Nat.le_of_ble_eq_true rfl) dX8_gainOf_1 ⟨Nat.le_of_ble_eq_true rfl, Nat.le_of_ble_eq_true rfl⟩) ?_
  refine j_topi (z := nI k) (hk) ?_
  refine j_i2l (pc := 4) X (v := lN k) dX8_gainOf_4 (nI_l (by omega)) ?_
  refine j_lstore_n (pc := 5) X (lv' := [(3, .long (lN k)), (0, .ref ql), (1, .int (nI s)), (2, .ref qf)]) dX8_gainOf_5 rfl (by decide) rfl ?_
  refine j_aload_n (pc := 6) X dX8_gainOf_6 rfl 1 rfl ?_
  refine j_get (pc := 7) X 8 i_X8 0 rfl rfl 2 (by decide) (by decide +kernel) rfl dX8_gainOf_7 ?_
  refine j_i2l (pc := 10) X (v := lN tn) dX8_gainOf_10 (nI_l (by omega)) ?_
  refine j_lload_n (pc := 11) X dX8_gainOf_11 rfl 0 rfl ?_
  refine j_lsub (pc := 12) X dX8_gainOf_12 ?_
  refine j_topl (z := lN (tn - k)) (lN_sub (by omega)) ?_
  refine j_lstore (pc := 13) X (lv' := [(5, .long (lN (tn - k))), (3, .long (lN k)), (0, .ref ql), (1, .int (nI s)), (2, .ref qf)]) dX8_gainOf_13 (by decide) rfl ?_
  refine j_aload_n (pc := 15) X dX8_gainOf_15 rfl 2 rfl ?_
  refine j_iload_n (pc := 16) X dX8_gainOf_16 rfl 3 rfl ?_
  refine j_clP (pc := 17) X [0, 1, 2] rfl (j_rV X (b := ql) (As := [.int (nI s)]) (ci := 8) (rest := []) 1 (mX8_sumOf l G ql ql0 ql1 tn f1 f2 s (by first | assumption | omega | exact ob_s (by omega) | exact ob_n)) gX8_gainOf_X8_sumOf rfl rfl rfl (by decide +kernel) ⟨Nat.le_of_ble_eq_true rfl, Nat.le_of_ble_eq_true rfl⟩ rfl rfl 0 rfl [0, 1, 2] rfl rfl rfl (Nat.le_of_ble_eq_true rfl) dX8_gainOf_17 ⟨Nat.le_of_ble_eq_true rfl, Nat.le_of_ble_eq_true rfl⟩) ?_
  refine j_topl (z := lN a) (hS) ?_
  refine j_lstore (pc := 20) X (lv' := [(7, .long (lN a)), (5, .long (lN (tn - k))), (3, .long (lN k)), (0, .ref ql), (1, .int (nI s)), (2, .ref qf)]) dX8_gainOf_20 (by decide) rfl ?_
  refine j_aload_n (pc := 22) X dX8_gainOf_22 rfl 3 rfl ?_
  refine j_iconst (pc := 23) X (v := nI 1) dX8_gainOf_23 (by decide) ?_
  refine j_aload_n (pc := 24) X dX8_gainOf_24 rfl 3 rfl ?_
  refine j_get (pc := 25) X 8 i_X8 0 rfl rfl 2 (by decide) (by decide +kernel) rfl dX8_gainOf_25 ?_
  refine j_ishl (pc := 28) X dX8_gainOf_28 ?_
  refine j_topi (z := nI (2 ^ tn)) (shl1 (by omega)) ?_
  refine j_iconst (pc := 29) X (v := nI 1) dX8_gainOf_29 (by decide) ?_
  refine j_isub (pc := 30) X dX8_gainOf_30 ?_
  refine j_topi (z := nI (2 ^ tn - 1)) (pk_sub (by exact Nat.one_le_two_pow)) ?_
  refine j_clP (pc := 31) X [0, 1, 2] rfl (j_rV X (b := ql) (As := [.int (nI (2 ^ tn - 1))]) (ci := 8) (rest := []) 1 (mX8_sumOf l G ql ql0 ql1 tn f1 f2 (2 ^ tn - 1) (by have h9 := two_pow_le (n := tn) (m := 16) (by omega); omega)) gX8_gainOf_X8_sumOf rfl rfl rfl (by decide +kernel) ⟨Nat.le_of_ble_eq_true rfl, Nat.le_of_ble_eq_true rfl⟩ rfl rfl 0 rfl [0, 1, 2] rfl rfl rfl (Nat.le_of_ble_eq_true rfl) dX8_gainOf_31 ⟨Nat.le_of_ble_eq_true rfl, Nat.le_of_ble_eq_true rfl⟩) ?_
  refine j_topl (z := lN b) (hF) ?_
  refine j_lload (pc := 34) X dX8_gainOf_34 0 rfl ?_
  refine j_lsub (pc := 36) X dX8_gainOf_36 ?_
  refine j_topl (z := lN (b - a)) (lN_sub hab) ?_
  refine j_lstore (pc := 37) X (lv' := [(9, .long (lN (b - a))), (7, .long (lN a)), (5, .long (lN (tn - k))), (3, .long (lN k)), (0, .ref ql), (1, .int (nI s)), (2, .ref qf)]) dX8_gainOf_37 (by decide) rfl ?_
  refine j_aload_n (pc := 39) X dX8_gainOf_39 rfl 6 rfl ?_
  refine j_lload (pc := 40) X dX8_gainOf_40 1 rfl ?_
  refine j_lload (pc := 42) X dX8_gainOf_42 2 rfl ?_
  refine j_lmul (pc := 44) X dX8_gainOf_44 ?_
  refine j_lload (pc := 45) X dX8_gainOf_45 0 rfl ?_
  refine j_lload_n (pc := 47) X dX8_gainOf_47 rfl 3 rfl ?_
  refine j_lmul (pc := 48) X dX8_gainOf_48 ?_
  refine j_lsub (pc := 49) X dX8_gainOf_49 ?_
  refine j_lload_n (pc := 50) X dX8_gainOf_50 rfl 3 rfl ?_
  refine j_lload (pc := 51) X dX8_gainOf_51 2 rfl ?_
  refine j_lmul (pc := 53) X dX8_gainOf_53 ?_
  refine j_topl (z := lN (k * (tn - k))) (lN_mul _ _) ?_
  refine j_cv (pc := 54) X (ws' := [(ql, .inr (8, [.ref ql0, .ref ql1, .int (nI tn)])), kJ G ql0 256 f1, kJ G ql1 256 f2, (qf, .inr (1, [.long ((((lN a) * (lN (tn - k))) - ((lN (b - a)) * (lN k))) / lN (gdl (((lN a) * (lN (tn - k))) - ((lN (b - a)) * (lN k))) (k * (tn - k)))), .long (lN (k * (tn - k)) / lN (gdl (((lN a) * (lN (tn - k))) - ((lN (b - a)) * (lN k))) (k * (tn - k))))]))]) [3] rfl (j_rVN X (b := qf) (As := [.long (((lN a) * (lN (tn - k))) - ((lN (b - a)) * (lN k))), .long (lN (k * (tn - k)))]) (ci := 1) (rest := []) 2 (mX1_become l G qf fa fb (((lN a) * (lN (tn - k))) - ((lN (b - a)) * (lN k))) (k * (tn - k)) (by exact hx) (by exact Nat.mul_pos hk0 (by omega)) (by have h9 : k * (tn - k) ≤ 16 * 16 := Nat.mul_le_mul (by omega) (by omega); omega)) gX8_gainOf_X1_become_n42 rfl rfl rfl (by decide +kernel) (by decide +kernel) (by decide +kernel) (by decide +kernel) (by decide +kernel) ⟨Nat.le_of_ble_eq_true rfl, Nat.le_of_ble_eq_true rfl⟩ rfl rfl 0 rfl [3] rfl rfl rfl (Nat.le_of_ble_eq_true rfl) dX8_gainOf_54 ⟨Nat.le_of_ble_eq_true rfl, Nat.le_of_ble_eq_true rfl⟩) rfl rfl ?_
  exact j_vret (pc := 57) X dX8_gainOf_57 ⟨rfl, by simp⟩

set_option maxHeartbeats 4000000 in
set_option maxRecDepth 100000 in
theorem mX8_chanceOf_L35 (l : Launch) (G : jG) (ql : Nat) (ql0 : Nat) (ql1 : Nat) (tn : Nat) (f1 : Nat → Int64) (f2 : Nat → Int64) (qf : Nat) (fa : Int64) (fb : Int64) (s : Nat) (k : Nat) (o : Nat → Nat) (htn : tn ≤ 16) (hs : s < 2147483648) (hk : bcF (nI s) = nI k) (hk0 : 0 < k) (hkn : k < tn) (hc0 : 0 < csF tn k k) (ho0 : o 0 = 2 ^ k - 1) (ho : ∀ i, i < csF tn k k → o i < 65536 ∧ nxF (nI (o i)) = nI (o (i + 1))) (κ : jK) (X : CX κ l yX8_chanceOf cX8_chanceOf 10 RX8 wsX8_chanceOf none ({ frames := 2, cells := 0, slots := 0, locals := 56 }) G (va_A [(ql, .inr (8, [.ref ql0, .ref ql1, .int (nI tn)])), kJ G ql0 256 f1, kJ G ql1 256 f2, (qf, .inr (1, [.long fa, .long fb]))] (js κ).heap.size))    : ∀ (fu : Nat) (j : Nat) (hj : j ≤ csF tn k k) (_ : csF tn k k - j < fu), JJ κ 10 G (va_A [(ql, .inr (8, [.ref ql0, .ref ql1, .int (nI tn)])), kJ G ql0 256 f1, kJ G ql1 256 f2, (qf, .inr (1, [.long fa, .long fb]))] (js κ).heap.size) 0 0 (jQ κ G [(ql, .inr (8, [.ref ql0, .ref ql1, .int (nI tn)])), kJ G ql0 256 f1, kJ G ql1 256 f2, (qf, .inr (1, [.long fa, .long fb]))] (fun r w' => r = none ∧ w' = [(ql, .inr (8, [.ref ql0, .ref ql1, .int (nI tn)])), kJ G ql0 256 f1, kJ G ql1 256 f2, (qf, .inr (1, [.long (lN (ngF (sm2 f1 f2) (sm2 f1 f2 s) o (csF tn k k)) / lN (gdl (lN (ngF (sm2 f1 f2) (sm2 f1 f2 s) o (csF tn k k))) (csF tn k k))), .long (lN (csF tn k k) / lN (gdl (lN (ngF (sm2 f1 f2) (sm2 f1 f2 s) o (csF tn k k))) (csF tn k k)))]))]) 0 0) 35 [(0, .ref ql), (2, .ref qf), (4, .int (nI (csF tn k k))), (5, .long (sm2 f1 f2 s)), (7, .int (nI (ngF (sm2 f1 f2) (sm2 f1 f2 s) o j))), (8, .int (nI (o j))), (9, .int (nI j))] [] [(ql, .inr (8, [.ref ql0, .ref ql1, .int (nI tn)])), kJ G ql0 256 f1, kJ G ql1 256 f2, (qf, .inr (1, [.long fa, .long fb]))] := by
  have i_X1 : ∀ w ∈ wsX10, w ∈ wsX8_chanceOf := by decide +kernel
  have i_X8 : ∀ w ∈ wsX80, w ∈ wsX8_chanceOf := by decide +kernel
  intro fu
  induction fu with
  | zero => intro j hj hms; exact absurd hms (Nat.not_lt_zero _)
  | succ fu ih =>
    intro j hj hms
    refine j_iload (pc := 35) X dX8_chanceOf_35 6 rfl ?_
    refine j_iload (pc := 37) X dX8_chanceOf_37 2 rfl ?_
    refine j_icmpN_ge (pc := 39) X (a := j) (b := (csF tn k k)) (by have h9 := csF_le (n := tn) (k := k) (i := k) (by omega) (by omega) (by omega); omega) (by have h9 := csF_le (n := tn) (k := k) (i := k) (by omega) (by omega) (by omega); omega) (tgt := 70) dX8_chanceOf_39 (by decide) (fun c_39 => ?_) (fun c_39 => ?_)
    · skip
      obtain rfl : j = csF tn k k := by omega
      refine j_aload_n (pc := 70) X dX8_chanceOf_70 rfl 1 rfl ?_
      refine j_iload (pc := 71) X dX8_chanceOf_71 4 rfl ?_
      refine j_i2l (pc := 73) X (v := lN (ngF (sm2 f1 f2) (sm2 f1 f2 s) o (csF tn k k))) dX8_chanceOf_73 (nI_l (by have h9 := csF_le (n := tn) (k := k) (i := k) (by omega) (by omega) (by omega); have h8 := ngF_le (sm2 f1 f2) (sm2 f1 f2 s) o (csF tn k k); omega)) ?_
      refine j_iload (pc := 74) X dX8_chanceOf_74 2 rfl ?_
      refine j_i2l (pc := 76) X (v := lN (csF tn k k)) dX8_chanceOf_76 (nI_l (by have h9 := csF_le (n := tn) (k := k) (i := k) (by omega) (by omega) (by omega); omega)) ?_
      refine j_cv (pc := 77) X (ws' := [(ql, .inr (8, [.ref ql0, .ref ql1, .int (nI tn)])), kJ G ql0 256 f1, kJ G ql1 256 f2, (qf, .inr (1, [.long ((lN (ngF (sm2 f1 f2) (sm2 f1 f2 s) o (csF tn k k))) / lN (gdl (lN (ngF (sm2 f1 f2) (sm2 f1 f2 s) o (csF tn k k))) (csF tn k k))), .long (lN (csF tn k k) / lN (gdl (lN (ngF (sm2 f1 f2) (sm2 f1 f2 s) o (csF tn k k))) (csF tn k k)))]))]) [3] rfl (j_rVN X (b := qf) (As := [.long (lN (ngF (sm2 f1 f2) (sm2 f1 f2 s) o (csF tn k k))), .long (lN (csF tn k k))]) (ci := 1) (rest := []) 2 (mX1_become l G qf fa fb (lN (ngF (sm2 f1 f2) (sm2 f1 f2 s) o (csF tn k k))) (csF tn k k) (by have h9 := csF_le (n := tn) (k := k) (i := k) (by omega) (by omega) (by omega); have h8 := ngF_le (sm2 f1 f2) (sm2 f1 f2 s) o (csF tn k k); rw [pk_lT (by omega)]; omega) (by first | assumption | omega | exact ob_s (by omega) | exact ob_n) (by have h9 := csF_le (n := tn) (k := k) (i := k) (by omega) (by omega) (by omega); omega)) gX8_chanceOf_X1_become_n42 rfl rfl rfl (by decide +kernel) (by decide +kernel) (by decide +kernel) (by decide +kernel) (by decide +kernel) ⟨Nat.le_of_ble_eq_true rfl, Nat.le_of_ble_eq_true rfl⟩ rfl rfl 0 rfl [3] rfl rfl rfl (Nat.le_of_ble_eq_true rfl) dX8_chanceOf_77 ⟨Nat.le_of_ble_eq_true rfl, Nat.le_of_ble_eq_true rfl⟩) rfl rfl ?_
      exact j_vret (pc := 80) X dX8_chanceOf_80 ⟨rfl, by simp⟩
    · skip
      refine j_aload_n (pc := 42) X dX8_chanceOf_42 rfl 0 rfl ?_
      refine j_iload (pc := 43) X dX8_chanceOf_43 5 rfl ?_
      refine j_clP (pc := 45) X [0, 1, 2] rfl (j_rV X (b := ql) (As := [.int (nI (o j))]) (ci := 8) (rest := []) 1 (mX8_sumOf l G ql ql0 ql1 tn f1 f2 (o j) (by have h9 := (ho j (by omega)).1; omega)) gX8_chanceOf_X8_sumOf rfl rfl rfl (by decide +kernel) ⟨Nat.le_of_ble_eq_true rfl, Nat.le_of_ble_eq_true rfl⟩ rfl rfl 0 rfl [0, 1, 2] rfl rfl rfl (Nat.le_of_ble_eq_true rfl) dX8_chanceOf_45 ⟨Nat.le_of_ble_eq_true rfl, Nat.le_of_ble_eq_true rfl⟩) ?_
      refine j_lload (pc := 48) X dX8_chanceOf_48 3 rfl ?_
      refine j_lcmp (pc := 50) X dX8_chanceOf_50 ?_
      refine j_ifc_lt (pc := 51) X (tgt := 57) dX8_chanceOf_51 (by decide) (fun c_51 => ?_) (fun c_51 => ?_)
      · skip
        refine j_iload (pc := 57) X dX8_chanceOf_57 5 rfl ?_
        refine j_ciP (pc := 59) X [] rfl (j_rS X (As := [.int (nI (o j))]) (rest := []) 1 (mX8_nextOfSameSize l G (nI (o j)) ) gX8_chanceOf_X8_nextOfSameSize rfl rfl rfl (by decide +kernel) ⟨Nat.le_of_ble_eq_true rfl, Nat.le_of_ble_eq_true rfl⟩ rfl [] rfl rfl rfl (Nat.le_of_ble_eq_true rfl) dX8_chanceOf_59 ⟨Nat.le_of_ble_eq_true rfl, Nat.le_of_ble_eq_true rfl⟩) ?_
        refine j_topi (z := nI (o (j + 1))) ((ho j (by omega)).2) ?_
        refine j_istore (pc := 62) X (lv' := [(8, .int (nI (o (j + 1)))), (0, .ref ql), (2, .ref qf), (4, .int (nI (csF tn k k))), (5, .long (sm2 f1 f2 s)), (7, .int (nI (ngF (sm2 f1 f2) (sm2 f1 f2 s) o j))), (9, .int (nI j))]) dX8_chanceOf_62 (by decide) rfl ?_
        refine j_iinc (pc := 64) X (v := nI (j + 1)) (lv' := [(9, .int (nI (j + 1))), (8, .int (nI (o (j + 1)))), (0, .ref ql), (2, .ref qf), (4, .int (nI (csF tn k k))), (5, .long (sm2 f1 f2 s)), (7, .int (nI (ngF (sm2 f1 f2) (sm2 f1 f2 s) o j)))]) dX8_chanceOf_64 6 rfl (nI_1 _) (by decide) rfl ?_
        refine j_goto (pc := 67) X (tgt := 35) dX8_chanceOf_67 (by decide) ?_
        refine j_lv [2, 3, 4, 5, 6, 1, 0] (lv' := [(0, .ref ql), (2, .ref qf), (4, .int (nI (csF tn k k))), (5, .long (sm2 f1 f2 s)), (7, .int (nI (ngF (sm2 f1 f2) (sm2 f1 f2 s) o j))), (8, .int (nI (o (j + 1)))), (9, .int (nI (j + 1)))]) rfl ?_
        refine j_lvq (lv' := [(0, .ref ql), (2, .ref qf), (4, .int (nI (csF tn k k))), (5, .long (sm2 f1 f2 s)), (7, .int (nI (ngF (sm2 f1 f2) (sm2 f1 f2 s) o (j + 1)))), (8, .int (nI (o (j + 1)))), (9, .int (nI (j + 1)))]) ?_ ?_
        · rw [show (ngF (sm2 f1 f2) (sm2 f1 f2 s) o j) = ngF (sm2 f1 f2) (sm2 f1 f2 s) o (j + 1) from by (simp only [ngF]; simp [c_39, c_51])]
        exact ih (j + 1) (by omega) (by omega)
      · skip
        refine j_iinc (pc := 54) X (v := nI (ngF (sm2 f1 f2) (sm2 f1 f2 s) o j + 1)) (lv' := [(7, .int (nI (ngF (sm2 f1 f2) (sm2 f1 f2 s) o j + 1))), (0, .ref ql), (2, .ref qf), (4, .int (nI (csF tn k k))), (5, .long (sm2 f1 f2 s)), (8, .int (nI (o j))), (9, .int (nI j))]) dX8_chanceOf_54 4 rfl (nI_1 _) (by decide) rfl ?_
        refine j_iload (pc := 57) X dX8_chanceOf_57 5 rfl ?_
        refine j_ciP (pc := 59) X [] rfl (j_rS X (As := [.int (nI (o j))]) (rest := []) 1 (mX8_nextOfSameSize l G (nI (o j)) ) gX8_chanceOf_X8_nextOfSameSize rfl rfl rfl (by decide +kernel) ⟨Nat.le_of_ble_eq_true rfl, Nat.le_of_ble_eq_true rfl⟩ rfl [] rfl rfl rfl (Nat.le_of_ble_eq_true rfl) dX8_chanceOf_59 ⟨Nat.le_of_ble_eq_true rfl, Nat.le_of_ble_eq_true rfl⟩) ?_
        refine j_topi (z := nI (o (j + 1))) ((ho j (by omega)).2) ?_
        refine j_istore (pc := 62) X (lv' := [(8, .int (nI (o (j + 1)))), (7, .int (nI (ngF (sm2 f1 f2) (sm2 f1 f2 s) o j + 1))), (0, .ref ql), (2, .ref qf), (4, .int (nI (csF tn k k))), (5, .long (sm2 f1 f2 s)), (9, .int (nI j))]) dX8_chanceOf_62 (by decide) rfl ?_
        refine j_iinc (pc := 64) X (v := nI (j + 1)) (lv' := [(9, .int (nI (j + 1))), (8, .int (nI (o (j + 1)))), (7, .int (nI (ngF (sm2 f1 f2) (sm2 f1 f2 s) o j + 1))), (0, .ref ql), (2, .ref qf), (4, .int (nI (csF tn k k))), (5, .long (sm2 f1 f2 s))]) dX8_chanceOf_64 6 rfl (nI_1 _) (by decide) rfl ?_
        refine j_goto (pc := 67) X (tgt := 35) dX8_chanceOf_67 (by decide) ?_
        refine j_lv [3, 4, 5, 6, 2, 1, 0] (lv' := [(0, .ref ql), (2, .ref qf), (4, .int (nI (csF tn k k))), (5, .long (sm2 f1 f2 s)), (7, .int (nI (ngF (sm2 f1 f2) (sm2 f1 f2 s) o j + 1))), (8, .int (nI (o (j + 1)))), (9, .int (nI (j + 1)))]) rfl ?_
        refine j_lvq (lv' := [(0, .ref ql), (2, .ref qf), (4, .int (nI (csF tn k k))), (5, .long (sm2 f1 f2 s)), (7, .int (nI (ngF (sm2 f1 f2) (sm2 f1 f2 s) o (j + 1)))), (8, .int (nI (o (j + 1)))), (9, .int (nI (j + 1)))]) ?_ ?_
        · rw [show (ngF (sm2 f1 f2) (sm2 f1 f2 s) o j + 1) = ngF (sm2 f1 f2) (sm2 f1 f2 s) o (j + 1) from by (simp only [ngF]; simp [c_39, c_51])]
        exact ih (j + 1) (by omega) (by omega)
set_option maxHeartbeats 4000000 in
set_option maxRecDepth 100000 in
theorem mX8_chanceOf (l : Launch) (G : jG) (ql : Nat) (ql0 : Nat) (ql1 : Nat) (tn : Nat) (f1 : Nat → Int64) (f2 : Nat → Int64) (qf : Nat) (fa : Int64) (fb : Int64) (s : Nat) (k : Nat) (o : Nat → Nat) (htn : tn ≤ 16) (hs : s < 2147483648) (hk : bcF (nI s) = nI k) (hk0 : 0 < k) (hkn : k < tn) (hc0 : 0 < csF tn k k) (ho0 : o 0 = 2 ^ k - 1) (ho : ∀ i, i < csF tn k k → o i < 65536 ∧ nxF (nI (o i)) = nI (o (i + 1))) : MV l yX8_chanceOf wsX8_chanceOf ({ frames := 2, cells := 0, slots := 0, locals := 56 }) G [.ref ql, .int (nI s), .ref qf] [(ql, .inr (8, [.ref ql0, .ref ql1, .int (nI tn)])), kJ G ql0 256 f1, kJ G ql1 256 f2, (qf, .inr (1, [.long fa, .long fb]))] (none) [(ql, .inr (8, [.ref ql0, .ref ql1, .int (nI tn)])), kJ G ql0 256 f1, kJ G ql1 256 f2, (qf, .inr (1, [.long (lN (ngF (sm2 f1 f2) (sm2 f1 f2 s) o (csF tn k k)) / lN (gdl (lN (ngF (sm2 f1 f2) (sm2 f1 f2 s) o (csF tn k k))) (csF tn k k))), .long (lN (csF tn k k) / lN (gdl (lN (ngF (sm2 f1 f2) (sm2 f1 f2 s) o (csF tn k k))) (csF tn k k)))]))] := by
  refine MF.ofJ (cc := cX8_chanceOf) (maxL := 10) (ret := none) (own := RX8) (lv := [(0, .ref ql), (1, .int (nI s)), (2, .ref qf)]) (by decide) rfl rfl (Nat.le_of_ble_eq_true rfl) rfl ?_
  intro κ X
  have i_X1 : ∀ w ∈ wsX10, w ∈ wsX8_chanceOf := by decide +kernel
  have i_X8 : ∀ w ∈ wsX80, w ∈ wsX8_chanceOf := by decide +kernel
  refine j_iload_n (pc := 0) X dX8_chanceOf_0 rfl 1 rfl ?_
  refine j_ciP (pc := 1) X [] rfl (j_rS X (As := [.int (nI s)]) (rest := []) 1 (mJ6_bitCount_0f7a4 l G (nI s) ) gX8_chanceOf_J6_bitCount_0f7a4 rfl rfl rfl (by decide +kernel) ⟨Nat.le_of_ble_eq_true rfl, Nat.le_of_ble_eq_true rfl⟩ rfl [] rfl rfl rfl (Nat.le_of_ble_eq_true rfl) dX8_chanceOf_1 ⟨Nat.le_of_ble_eq_true rfl, Nat.le_of_ble_eq_true rfl⟩) ?_
  refine j_topi (z := nI k) (hk) ?_
  refine j_istore_n (pc := 4) X (lv' := [(3, .int (nI k)), (0, .ref ql), (1, .int (nI s)), (2, .ref qf)]) dX8_chanceOf_4 rfl (by decide) rfl ?_
  refine j_aload_n (pc := 5) X dX8_chanceOf_5 rfl 1 rfl ?_
  refine j_get (pc := 6) X 8 i_X8 0 rfl rfl 2 (by decide) (by decide +kernel) rfl dX8_chanceOf_6 ?_
  refine j_iload_n (pc := 9) X dX8_chanceOf_9 rfl 0 rfl ?_
  refine j_ciP (pc := 10) X [] rfl (j_rS X (As := [.int (nI tn), .int (nI k)]) (rest := []) 2 (mX8_countSets l G tn k (by first | assumption | omega | exact ob_s (by omega) | exact ob_n) (by first | assumption | omega | exact ob_s (by omega) | exact ob_n)) gX8_chanceOf_X8_countSets rfl rfl rfl (by decide +kernel) ⟨Nat.le_of_ble_eq_true rfl, Nat.le_of_ble_eq_true rfl⟩ rfl [] rfl rfl rfl (Nat.le_of_ble_eq_true rfl) dX8_chanceOf_10 ⟨Nat.le_of_ble_eq_true rfl, Nat.le_of_ble_eq_true rfl⟩) ?_
  refine j_istore (pc := 13) X (lv' := [(4, .int (nI (csF tn k k))), (3, .int (nI k)), (0, .ref ql), (1, .int (nI s)), (2, .ref qf)]) dX8_chanceOf_13 (by decide) rfl ?_
  refine j_aload_n (pc := 15) X dX8_chanceOf_15 rfl 2 rfl ?_
  refine j_iload_n (pc := 16) X dX8_chanceOf_16 rfl 3 rfl ?_
  refine j_clP (pc := 17) X [0, 1, 2] rfl (j_rV X (b := ql) (As := [.int (nI s)]) (ci := 8) (rest := []) 1 (mX8_sumOf l G ql ql0 ql1 tn f1 f2 s (by first | assumption | omega | exact ob_s (by omega) | exact ob_n)) gX8_chanceOf_X8_sumOf rfl rfl rfl (by decide +kernel) ⟨Nat.le_of_ble_eq_true rfl, Nat.le_of_ble_eq_true rfl⟩ rfl rfl 0 rfl [0, 1, 2] rfl rfl rfl (Nat.le_of_ble_eq_true rfl) dX8_chanceOf_17 ⟨Nat.le_of_ble_eq_true rfl, Nat.le_of_ble_eq_true rfl⟩) ?_
  refine j_lstore (pc := 20) X (lv' := [(5, .long (sm2 f1 f2 s)), (4, .int (nI (csF tn k k))), (3, .int (nI k)), (0, .ref ql), (1, .int (nI s)), (2, .ref qf)]) dX8_chanceOf_20 (by decide) rfl ?_
  refine j_iconst (pc := 22) X (v := nI 0) dX8_chanceOf_22 (by decide) ?_
  refine j_istore (pc := 23) X (lv' := [(7, .int (nI 0)), (5, .long (sm2 f1 f2 s)), (4, .int (nI (csF tn k k))), (3, .int (nI k)), (0, .ref ql), (1, .int (nI s)), (2, .ref qf)]) dX8_chanceOf_23 (by decide) rfl ?_
  refine j_iconst (pc := 25) X (v := nI 1) dX8_chanceOf_25 (by decide) ?_
  refine j_iload_n (pc := 26) X dX8_chanceOf_26 rfl 3 rfl ?_
  refine j_ishl (pc := 27) X dX8_chanceOf_27 ?_
  refine j_topi (z := nI (2 ^ k)) (shl1 (by omega)) ?_
  refine j_iconst (pc := 28) X (v := nI 1) dX8_chanceOf_28 (by decide) ?_
  refine j_isub (pc := 29) X dX8_chanceOf_29 ?_
  refine j_topi (z := nI (o 0)) ((pk_sub Nat.one_le_two_pow).trans (by rw [ho0])) ?_
  refine j_istore (pc := 30) X (lv' := [(8, .int (nI (o 0))), (7, .int (nI 0)), (5, .long (sm2 f1 f2 s)), (4, .int (nI (csF tn k k))), (3, .int (nI k)), (0, .ref ql), (1, .int (nI s)), (2, .ref qf)]) dX8_chanceOf_30 (by decide) rfl ?_
  refine j_iconst (pc := 32) X (v := nI 0) dX8_chanceOf_32 (by decide) ?_
  refine j_istore (pc := 33) X (lv' := [(9, .int (nI 0)), (8, .int (nI (o 0))), (7, .int (nI 0)), (5, .long (sm2 f1 f2 s)), (4, .int (nI (csF tn k k))), (3, .int (nI k)), (0, .ref ql), (1, .int (nI s)), (2, .ref qf)]) dX8_chanceOf_33 (by decide) rfl ?_
  refine j_lv [6, 8, 4, 3, 2, 1, 0] (lv' := [(0, .ref ql), (2, .ref qf), (4, .int (nI (csF tn k k))), (5, .long (sm2 f1 f2 s)), (7, .int (nI 0)), (8, .int (nI (o 0))), (9, .int (nI 0))]) rfl ?_
  refine j_lvq (lv' := [(0, .ref ql), (2, .ref qf), (4, .int (nI (csF tn k k))), (5, .long (sm2 f1 f2 s)), (7, .int (nI (ngF (sm2 f1 f2) (sm2 f1 f2 s) o 0))), (8, .int (nI (o 0))), (9, .int (nI 0))]) ?_ ?_
  · first | rfl | (rw [show (0) = ngF (sm2 f1 f2) (sm2 f1 f2 s) o 0 from by (simp only [ngF]; simp [ne_eq])])
  exact mX8_chanceOf_L35 l G ql ql0 ql1 tn f1 f2 qf fa fb s k o htn hs hk hk0 hkn hc0 ho0 ho κ X    (csF tn k k - 0 + 1) 0 (by omega) (Nat.lt_succ_self _)
end
