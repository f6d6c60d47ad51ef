section
-- ===== PART A: goes FIRST, ahead of the names: the tables' words, and 'selects' of the private methods out of them =====
/-- a private method of a class that the tables say can be made, by its rows of tables_1 -/
def lw_okq (q : MethodName × Nat) : Prop := (q.1.cls ≠ "java/lang/invoke/MethodHandle" ∧ q.1.cls ≠ "java/lang/invoke/VarHandle") ∧ Cond.instantiable q.1.cls q.2 ∈ tables_1 ∧ Cond.privateMethod q.1 ∈ tables_1 ∧ Cond.instanceMethod q.1 ∈ tables_1
theorem lw_p0 : lw_okq (⟨"SalonBook", "chairsTakenAt", "(I)I"⟩, 6) := ⟨⟨by decide +kernel, by decide +kernel⟩, List.mem_of_getElem? (i := 26) (by decide +kernel), List.mem_of_getElem? (i := 121) (by decide +kernel), List.mem_of_getElem? (i := 122) (by decide +kernel)⟩
theorem lw_p1 : lw_okq (⟨"java/lang/Throwable", "fillInStackTrace", "(I)Ljava/lang/Throwable;"⟩, 6) := ⟨⟨by decide +kernel, by decide +kernel⟩, List.mem_of_getElem? (i := 180) (by decide +kernel), List.mem_of_getElem? (i := 178) (by decide +kernel), List.mem_of_getElem? (i := 179) (by decide +kernel)⟩
theorem lw_p2 : lw_okq (⟨"java/util/ArrayList", "add", "(Ljava/lang/Object;[Ljava/lang/Object;I)V"⟩, 3) := ⟨⟨by decide +kernel, by decide +kernel⟩, List.mem_of_getElem? (i := 34) (by decide +kernel), List.mem_of_getElem? (i := 255) (by decide +kernel), List.mem_of_getElem? (i := 256) (by decide +kernel)⟩
theorem lw_p3 : lw_okq (⟨"java/util/ArrayList", "grow", "()[Ljava/lang/Object;"⟩, 3) := ⟨⟨by decide +kernel, by decide +kernel⟩, List.mem_of_getElem? (i := 34) (by decide +kernel), List.mem_of_getElem? (i := 259) (by decide +kernel), List.mem_of_getElem? (i := 260) (by decide +kernel)⟩
theorem lw_p4 : lw_okq (⟨"java/util/ArrayList", "grow", "(I)[Ljava/lang/Object;"⟩, 3) := ⟨⟨by decide +kernel, by decide +kernel⟩, List.mem_of_getElem? (i := 34) (by decide +kernel), List.mem_of_getElem? (i := 263) (by decide +kernel), List.mem_of_getElem? (i := 264) (by decide +kernel)⟩
theorem lw_p5 : lw_okq (⟨"SalonBook", "requireRoomForService", "()V"⟩, 6) := ⟨⟨by decide +kernel, by decide +kernel⟩, List.mem_of_getElem? (i := 26) (by decide +kernel), List.mem_of_getElem? (i := 326) (by decide +kernel), List.mem_of_getElem? (i := 327) (by decide +kernel)⟩
theorem lw_p6 : lw_okq (⟨"SalonBook", "newService", "()LSalonBook$Service;"⟩, 6) := ⟨⟨by decide +kernel, by decide +kernel⟩, List.mem_of_getElem? (i := 26) (by decide +kernel), List.mem_of_getElem? (i := 331) (by decide +kernel), List.mem_of_getElem? (i := 332) (by decide +kernel)⟩
theorem lw_p7 : lw_okq (⟨"SalonBook", "requireService", "(I)V"⟩, 6) := ⟨⟨by decide +kernel, by decide +kernel⟩, List.mem_of_getElem? (i := 26) (by decide +kernel), List.mem_of_getElem? (i := 389) (by decide +kernel), List.mem_of_getElem? (i := 390) (by decide +kernel)⟩
theorem lw_p8 : lw_okq (⟨"SalonBook", "requireRoomForVisit", "()V"⟩, 6) := ⟨⟨by decide +kernel, by decide +kernel⟩, List.mem_of_getElem? (i := 26) (by decide +kernel), List.mem_of_getElem? (i := 448) (by decide +kernel), List.mem_of_getElem? (i := 449) (by decide +kernel)⟩
theorem lw_p9 : lw_okq (⟨"SalonBook", "bookFirst", "(LSalonBook$Service;II)I"⟩, 6) := ⟨⟨by decide +kernel, by decide +kernel⟩, List.mem_of_getElem? (i := 26) (by decide +kernel), List.mem_of_getElem? (i := 453) (by decide +kernel), List.mem_of_getElem? (i := 454) (by decide +kernel)⟩
theorem lw_p10 : lw_okq (⟨"SalonBook", "firstStart", "(LSalonBook$Service;II)I"⟩, 6) := ⟨⟨by decide +kernel, by decide +kernel⟩, List.mem_of_getElem? (i := 26) (by decide +kernel), List.mem_of_getElem? (i := 457) (by decide +kernel), List.mem_of_getElem? (i := 458) (by decide +kernel)⟩
theorem lw_p11 : lw_okq (⟨"SalonBook", "gatherCandidates", "(LSalonBook$Service;I)V"⟩, 6) := ⟨⟨by decide +kernel, by decide +kernel⟩, List.mem_of_getElem? (i := 26) (by decide +kernel), List.mem_of_getElem? (i := 461) (by decide +kernel), List.mem_of_getElem? (i := 462) (by decide +kernel)⟩
theorem lw_p12 : lw_okq (⟨"SalonBook", "addStartsBehindSteps", "(LSalonBook$Visit;LSalonBook$Service;)V"⟩, 6) := ⟨⟨by decide +kernel, by decide +kernel⟩, List.mem_of_getElem? (i := 26) (by decide +kernel), List.mem_of_getElem? (i := 479) (by decide +kernel), List.mem_of_getElem? (i := 480) (by decide +kernel)⟩
theorem lw_p13 : lw_okq (⟨"SalonBook", "hasRoom", "(LSalonBook$Service;II)Z"⟩, 6) := ⟨⟨by decide +kernel, by decide +kernel⟩, List.mem_of_getElem? (i := 26) (by decide +kernel), List.mem_of_getElem? (i := 499) (by decide +kernel), List.mem_of_getElem? (i := 500) (by decide +kernel)⟩
theorem lw_p14 : lw_okq (⟨"SalonBook", "chairFor", "(LSalonBook$Service;I)I"⟩, 6) := ⟨⟨by decide +kernel, by decide +kernel⟩, List.mem_of_getElem? (i := 26) (by decide +kernel), List.mem_of_getElem? (i := 503) (by decide +kernel), List.mem_of_getElem? (i := 504) (by decide +kernel)⟩
theorem lw_p15 : lw_okq (⟨"SalonBook", "memberFor", "(LSalonBook$Service;II)I"⟩, 6) := ⟨⟨by decide +kernel, by decide +kernel⟩, List.mem_of_getElem? (i := 26) (by decide +kernel), List.mem_of_getElem? (i := 511) (by decide +kernel), List.mem_of_getElem? (i := 512) (by decide +kernel)⟩
def lw_privs_1 : List (MethodName × Nat) := [(⟨"SalonBook", "chairsTakenAt", "(I)I"⟩, 6), (⟨"java/lang/Throwable", "fillInStackTrace", "(I)Ljava/lang/Throwable;"⟩, 6), (⟨"java/util/ArrayList", "add", "(Ljava/lang/Object;[Ljava/lang/Object;I)V"⟩, 3), (⟨"java/util/ArrayList", "grow", "()[Ljava/lang/Object;"⟩, 3), (⟨"java/util/ArrayList", "grow", "(I)[Ljava/lang/Object;"⟩, 3), (⟨"SalonBook", "requireRoomForService", "()V"⟩, 6), (⟨"SalonBook", "newService", "()LSalonBook$Service;"⟩, 6), (⟨"SalonBook", "requireService", "(I)V"⟩, 6), (⟨"SalonBook", "requireRoomForVisit", "()V"⟩, 6), (⟨"SalonBook", "bookFirst", "(LSalonBook$Service;II)I"⟩, 6), (⟨"SalonBook", "firstStart", "(LSalonBook$Service;II)I"⟩, 6), (⟨"SalonBook", "gatherCandidates", "(LSalonBook$Service;I)V"⟩, 6), (⟨"SalonBook", "addStartsBehindSteps", "(LSalonBook$Visit;LSalonBook$Service;)V"⟩, 6), (⟨"SalonBook", "hasRoom", "(LSalonBook$Service;II)Z"⟩, 6), (⟨"SalonBook", "chairFor", "(LSalonBook$Service;I)I"⟩, 6), (⟨"SalonBook", "memberFor", "(LSalonBook$Service;II)I"⟩, 6)]
theorem lw_r1 : ∀ q ∈ lw_privs_1, lw_okq q := List.forall_mem_cons.mpr ⟨lw_p0, List.forall_mem_cons.mpr ⟨lw_p1, List.forall_mem_cons.mpr ⟨lw_p2, List.forall_mem_cons.mpr ⟨lw_p3, List.forall_mem_cons.mpr ⟨lw_p4, List.forall_mem_cons.mpr ⟨lw_p5, List.forall_mem_cons.mpr ⟨lw_p6, List.forall_mem_cons.mpr ⟨lw_p7, List.forall_mem_cons.mpr ⟨lw_p8, List.forall_mem_cons.mpr ⟨lw_p9, List.forall_mem_cons.mpr ⟨lw_p10, List.forall_mem_cons.mpr ⟨lw_p11, List.forall_mem_cons.mpr ⟨lw_p12, List.forall_mem_cons.mpr ⟨lw_p13, List.forall_mem_cons.mpr ⟨lw_p14, List.forall_mem_cons.mpr ⟨lw_p15, fun _ h => absurd h List.not_mem_nil⟩⟩⟩⟩⟩⟩⟩⟩⟩⟩⟩⟩⟩⟩⟩⟩
theorem lw_p16 : lw_okq (⟨"SalonBook", "workBookedWith", "(I)I"⟩, 6) := ⟨⟨by decide +kernel, by decide +kernel⟩, List.mem_of_getElem? (i := 26) (by decide +kernel), List.mem_of_getElem? (i := 523) (by decide +kernel), List.mem_of_getElem? (i := 524) (by decide +kernel)⟩
theorem lw_p17 : lw_okq (⟨"SalonBook", "bookAt", "(LSalonBook$Service;II)I"⟩, 6) := ⟨⟨by decide +kernel, by decide +kernel⟩, List.mem_of_getElem? (i := 26) (by decide +kernel), List.mem_of_getElem? (i := 543) (by decide +kernel), List.mem_of_getElem? (i := 544) (by decide +kernel)⟩
theorem lw_p18 : lw_okq (⟨"SalonBook", "putAt", "(LSalonBook$Visit;II)V"⟩, 6) := ⟨⟨by decide +kernel, by decide +kernel⟩, List.mem_of_getElem? (i := 26) (by decide +kernel), List.mem_of_getElem? (i := 573) (by decide +kernel), List.mem_of_getElem? (i := 574) (by decide +kernel)⟩
theorem lw_p19 : lw_okq (⟨"SalonBook", "put", "(LSalonBook$Visit;III)V"⟩, 6) := ⟨⟨by decide +kernel, by decide +kernel⟩, List.mem_of_getElem? (i := 26) (by decide +kernel), List.mem_of_getElem? (i := 577) (by decide +kernel), List.mem_of_getElem? (i := 578) (by decide +kernel)⟩
theorem lw_p20 : lw_okq (⟨"SalonBook", "write", "(LSalonBook$Visit;I)V"⟩, 6) := ⟨⟨by decide +kernel, by decide +kernel⟩, List.mem_of_getElem? (i := 26) (by decide +kernel), List.mem_of_getElem? (i := 581) (by decide +kernel), List.mem_of_getElem? (i := 582) (by decide +kernel)⟩
theorem lw_p21 : lw_okq (⟨"SalonBook", "isMember", "(I)Z"⟩, 6) := ⟨⟨by decide +kernel, by decide +kernel⟩, List.mem_of_getElem? (i := 26) (by decide +kernel), List.mem_of_getElem? (i := 585) (by decide +kernel), List.mem_of_getElem? (i := 586) (by decide +kernel)⟩
theorem lw_p22 : lw_okq (⟨"SalonBook", "requireMember", "(I)V"⟩, 6) := ⟨⟨by decide +kernel, by decide +kernel⟩, List.mem_of_getElem? (i := 26) (by decide +kernel), List.mem_of_getElem? (i := 603) (by decide +kernel), List.mem_of_getElem? (i := 604) (by decide +kernel)⟩
theorem lw_p23 : lw_okq (⟨"SalonBook", "requireUndropped", "(I)V"⟩, 6) := ⟨⟨by decide +kernel, by decide +kernel⟩, List.mem_of_getElem? (i := 26) (by decide +kernel), List.mem_of_getElem? (i := 615) (by decide +kernel), List.mem_of_getElem? (i := 616) (by decide +kernel)⟩
theorem lw_p24 : lw_okq (⟨"SalonBook", "requireVisit", "(I)V"⟩, 6) := ⟨⟨by decide +kernel, by decide +kernel⟩, List.mem_of_getElem? (i := 26) (by decide +kernel), List.mem_of_getElem? (i := 619) (by decide +kernel), List.mem_of_getElem? (i := 620) (by decide +kernel)⟩
theorem lw_p25 : lw_okq (⟨"SalonBook", "takeOut", "(LSalonBook$Visit;)V"⟩, 6) := ⟨⟨by decide +kernel, by decide +kernel⟩, List.mem_of_getElem? (i := 26) (by decide +kernel), List.mem_of_getElem? (i := 625) (by decide +kernel), List.mem_of_getElem? (i := 626) (by decide +kernel)⟩
theorem lw_p26 : lw_okq (⟨"SalonBook", "serveWaiting", "()I"⟩, 6) := ⟨⟨by decide +kernel, by decide +kernel⟩, List.mem_of_getElem? (i := 26) (by decide +kernel), List.mem_of_getElem? (i := 630) (by decide +kernel), List.mem_of_getElem? (i := 631) (by decide +kernel)⟩
theorem lw_p27 : lw_okq (⟨"java/util/ArrayList", "fastRemove", "([Ljava/lang/Object;I)V"⟩, 3) := ⟨⟨by decide +kernel, by decide +kernel⟩, List.mem_of_getElem? (i := 34) (by decide +kernel), List.mem_of_getElem? (i := 639) (by decide +kernel), List.mem_of_getElem? (i := 640) (by decide +kernel)⟩
theorem lw_p28 : lw_okq (⟨"SalonBook", "firstStartByScan", "(LSalonBook$Service;III)I"⟩, 6) := ⟨⟨by decide +kernel, by decide +kernel⟩, List.mem_of_getElem? (i := 26) (by decide +kernel), List.mem_of_getElem? (i := 766) (by decide +kernel), List.mem_of_getElem? (i := 767) (by decide +kernel)⟩
theorem lw_p29 : lw_okq (⟨"SalonBook", "lengthOfAll", "(I)I"⟩, 6) := ⟨⟨by decide +kernel, by decide +kernel⟩, List.mem_of_getElem? (i := 26) (by decide +kernel), List.mem_of_getElem? (i := 791) (by decide +kernel), List.mem_of_getElem? (i := 792) (by decide +kernel)⟩
theorem lw_p30 : lw_okq (⟨"SalonBookModel", "isFine", "(I)Z"⟩, 22) := ⟨⟨by decide +kernel, by decide +kernel⟩, List.mem_of_getElem? (i := 795) (by decide +kernel), List.mem_of_getElem? (i := 879) (by decide +kernel), List.mem_of_getElem? (i := 880) (by decide +kernel)⟩
theorem lw_p31 : lw_okq (⟨"SalonBookModel", "puts", "(III)V"⟩, 22) := ⟨⟨by decide +kernel, by decide +kernel⟩, List.mem_of_getElem? (i := 795) (by decide +kernel), List.mem_of_getElem? (i := 887) (by decide +kernel), List.mem_of_getElem? (i := 888) (by decide +kernel)⟩
def lw_privs_2 : List (MethodName × Nat) := [(⟨"SalonBook", "workBookedWith", "(I)I"⟩, 6), (⟨"SalonBook", "bookAt", "(LSalonBook$Service;II)I"⟩, 6), (⟨"SalonBook", "putAt", "(LSalonBook$Visit;II)V"⟩, 6), (⟨"SalonBook", "put", "(LSalonBook$Visit;III)V"⟩, 6), (⟨"SalonBook", "write", "(LSalonBook$Visit;I)V"⟩, 6), (⟨"SalonBook", "isMember", "(I)Z"⟩, 6), (⟨"SalonBook", "requireMember", "(I)V"⟩, 6), (⟨"SalonBook", "requireUndropped", "(I)V"⟩, 6), (⟨"SalonBook", "requireVisit", "(I)V"⟩, 6), (⟨"SalonBook", "takeOut", "(LSalonBook$Visit;)V"⟩, 6), (⟨"SalonBook", "serveWaiting", "()I"⟩, 6), (⟨"java/util/ArrayList", "fastRemove", "([Ljava/lang/Object;I)V"⟩, 3), (⟨"SalonBook", "firstStartByScan", "(LSalonBook$Service;III)I"⟩, 6), (⟨"SalonBook", "lengthOfAll", "(I)I"⟩, 6), (⟨"SalonBookModel", "isFine", "(I)Z"⟩, 22), (⟨"SalonBookModel", "puts", "(III)V"⟩, 22)]
theorem lw_r2 : ∀ q ∈ lw_privs_2, lw_okq q := List.forall_mem_cons.mpr ⟨lw_p16, List.forall_mem_cons.mpr ⟨lw_p17, List.forall_mem_cons.mpr ⟨lw_p18, List.forall_mem_cons.mpr ⟨lw_p19, List.forall_mem_cons.mpr ⟨lw_p20, List.forall_mem_cons.mpr ⟨lw_p21, List.forall_mem_cons.mpr ⟨lw_p22, List.forall_mem_cons.mpr ⟨lw_p23, List.forall_mem_cons.mpr ⟨lw_p24, List.forall_mem_cons.mpr ⟨lw_p25, List.forall_mem_cons.mpr ⟨lw_p26, List.forall_mem_cons.mpr ⟨lw_p27, List.forall_mem_cons.mpr ⟨lw_p28, List.forall_mem_cons.mpr ⟨lw_p29, List.forall_mem_cons.mpr ⟨lw_p30, List.forall_mem_cons.mpr ⟨lw_p31, fun _ h => absurd h List.not_mem_nil⟩⟩⟩⟩⟩⟩⟩⟩⟩⟩⟩⟩⟩⟩⟩⟩
theorem lw_p32 : lw_okq (⟨"SalonBookModel", "isService", "(I)Z"⟩, 22) := ⟨⟨by decide +kernel, by decide +kernel⟩, List.mem_of_getElem? (i := 795) (by decide +kernel), List.mem_of_getElem? (i := 895) (by decide +kernel), List.mem_of_getElem? (i := 896) (by decide +kernel)⟩
theorem lw_p33 : lw_okq (⟨"SalonBookModel", "find", "(III)I"⟩, 22) := ⟨⟨by decide +kernel, by decide +kernel⟩, List.mem_of_getElem? (i := 795) (by decide +kernel), List.mem_of_getElem? (i := 910) (by decide +kernel), List.mem_of_getElem? (i := 911) (by decide +kernel)⟩
theorem lw_p34 : lw_okq (⟨"SalonBookModel", "length", "(I)I"⟩, 22) := ⟨⟨by decide +kernel, by decide +kernel⟩, List.mem_of_getElem? (i := 795) (by decide +kernel), List.mem_of_getElem? (i := 914) (by decide +kernel), List.mem_of_getElem? (i := 915) (by decide +kernel)⟩
theorem lw_p35 : lw_okq (⟨"SalonBookModel", "takerOf", "(III)I"⟩, 22) := ⟨⟨by decide +kernel, by decide +kernel⟩, List.mem_of_getElem? (i := 795) (by decide +kernel), List.mem_of_getElem? (i := 918) (by decide +kernel), List.mem_of_getElem? (i := 919) (by decide +kernel)⟩
theorem lw_p36 : lw_okq (⟨"SalonBookModel", "canTake", "(III)Z"⟩, 22) := ⟨⟨by decide +kernel, by decide +kernel⟩, List.mem_of_getElem? (i := 795) (by decide +kernel), List.mem_of_getElem? (i := 922) (by decide +kernel), List.mem_of_getElem? (i := 923) (by decide +kernel)⟩
theorem lw_p37 : lw_okq (⟨"SalonBookModel", "asked", "(I)I"⟩, 22) := ⟨⟨by decide +kernel, by decide +kernel⟩, List.mem_of_getElem? (i := 795) (by decide +kernel), List.mem_of_getElem? (i := 926) (by decide +kernel), List.mem_of_getElem? (i := 927) (by decide +kernel)⟩
theorem lw_p38 : lw_okq (⟨"SalonBookModel", "load", "(I)I"⟩, 22) := ⟨⟨by decide +kernel, by decide +kernel⟩, List.mem_of_getElem? (i := 795) (by decide +kernel), List.mem_of_getElem? (i := 930) (by decide +kernel), List.mem_of_getElem? (i := 931) (by decide +kernel)⟩
theorem lw_p39 : lw_okq (⟨"SalonBookModel", "work", "(I)I"⟩, 22) := ⟨⟨by decide +kernel, by decide +kernel⟩, List.mem_of_getElem? (i := 795) (by decide +kernel), List.mem_of_getElem? (i := 934) (by decide +kernel), List.mem_of_getElem? (i := 935) (by decide +kernel)⟩
theorem lw_p40 : lw_okq (⟨"SalonBookModel", "chairFor", "(II)I"⟩, 22) := ⟨⟨by decide +kernel, by decide +kernel⟩, List.mem_of_getElem? (i := 795) (by decide +kernel), List.mem_of_getElem? (i := 938) (by decide +kernel), List.mem_of_getElem? (i := 939) (by decide +kernel)⟩
theorem lw_p41 : lw_okq (⟨"SalonBookModel", "books", "(II)I"⟩, 22) := ⟨⟨by decide +kernel, by decide +kernel⟩, List.mem_of_getElem? (i := 795) (by decide +kernel), List.mem_of_getElem? (i := 942) (by decide +kernel), List.mem_of_getElem? (i := 943) (by decide +kernel)⟩
theorem lw_p42 : lw_okq (⟨"SalonBookModel", "lays", "(III)V"⟩, 22) := ⟨⟨by decide +kernel, by decide +kernel⟩, List.mem_of_getElem? (i := 795) (by decide +kernel), List.mem_of_getElem? (i := 946) (by decide +kernel), List.mem_of_getElem? (i := 947) (by decide +kernel)⟩
theorem lw_p43 : lw_okq (⟨"SalonBookModel", "marks", "(II)V"⟩, 22) := ⟨⟨by decide +kernel, by decide +kernel⟩, List.mem_of_getElem? (i := 795) (by decide +kernel), List.mem_of_getElem? (i := 950) (by decide +kernel), List.mem_of_getElem? (i := 951) (by decide +kernel)⟩
theorem lw_p44 : lw_okq (⟨"SalonBookModel", "isStaff", "(I)Z"⟩, 22) := ⟨⟨by decide +kernel, by decide +kernel⟩, List.mem_of_getElem? (i := 795) (by decide +kernel), List.mem_of_getElem? (i := 958) (by decide +kernel), List.mem_of_getElem? (i := 959) (by decide +kernel)⟩
theorem lw_p45 : lw_okq (⟨"SalonBookModel", "isThere", "(I)Z"⟩, 22) := ⟨⟨by decide +kernel, by decide +kernel⟩, List.mem_of_getElem? (i := 795) (by decide +kernel), List.mem_of_getElem? (i := 966) (by decide +kernel), List.mem_of_getElem? (i := 967) (by decide +kernel)⟩
theorem lw_p46 : lw_okq (⟨"SalonBookModel", "isVisit", "(I)Z"⟩, 22) := ⟨⟨by decide +kernel, by decide +kernel⟩, List.mem_of_getElem? (i := 795) (by decide +kernel), List.mem_of_getElem? (i := 970) (by decide +kernel), List.mem_of_getElem? (i := 971) (by decide +kernel)⟩
theorem lw_p47 : lw_okq (⟨"SalonBookModel", "serves", "()I"⟩, 22) := ⟨⟨by decide +kernel, by decide +kernel⟩, List.mem_of_getElem? (i := 795) (by decide +kernel), List.mem_of_getElem? (i := 974) (by decide +kernel), List.mem_of_getElem? (i := 975) (by decide +kernel)⟩
def lw_privs_3 : List (MethodName × Nat) := [(⟨"SalonBookModel", "isService", "(I)Z"⟩, 22), (⟨"SalonBookModel", "find", "(III)I"⟩, 22), (⟨"SalonBookModel", "length", "(I)I"⟩, 22), (⟨"SalonBookModel", "takerOf", "(III)I"⟩, 22), (⟨"SalonBookModel", "canTake", "(III)Z"⟩, 22), (⟨"SalonBookModel", "asked", "(I)I"⟩, 22), (⟨"SalonBookModel", "load", "(I)I"⟩, 22), (⟨"SalonBookModel", "work", "(I)I"⟩, 22), (⟨"SalonBookModel", "chairFor", "(II)I"⟩, 22), (⟨"SalonBookModel", "books", "(II)I"⟩, 22), (⟨"SalonBookModel", "lays", "(III)V"⟩, 22), (⟨"SalonBookModel", "marks", "(II)V"⟩, 22), (⟨"SalonBookModel", "isStaff", "(I)Z"⟩, 22), (⟨"SalonBookModel", "isThere", "(I)Z"⟩, 22), (⟨"SalonBookModel", "isVisit", "(I)Z"⟩, 22), (⟨"SalonBookModel", "serves", "()I"⟩, 22)]
theorem lw_r3 : ∀ q ∈ lw_privs_3, lw_okq q := List.forall_mem_cons.mpr ⟨lw_p32, List.forall_mem_cons.mpr ⟨lw_p33, List.forall_mem_cons.mpr ⟨lw_p34, List.forall_mem_cons.mpr ⟨lw_p35, List.forall_mem_cons.mpr ⟨lw_p36, List.forall_mem_cons.mpr ⟨lw_p37, List.forall_mem_cons.mpr ⟨lw_p38, List.forall_mem_cons.mpr ⟨lw_p39, List.forall_mem_cons.mpr ⟨lw_p40, List.forall_mem_cons.mpr ⟨lw_p41, List.forall_mem_cons.mpr ⟨lw_p42, List.forall_mem_cons.mpr ⟨lw_p43, List.forall_mem_cons.mpr ⟨lw_p44, List.forall_mem_cons.mpr ⟨lw_p45, List.forall_mem_cons.mpr ⟨lw_p46, List.forall_mem_cons.mpr ⟨lw_p47, fun _ h => absurd h List.not_mem_nil⟩⟩⟩⟩⟩⟩⟩⟩⟩⟩⟩⟩⟩⟩⟩⟩
def lw_privs : List (MethodName × Nat) := lw_privs_1 ++ (lw_privs_2 ++ (lw_privs_3))
def lw_tbl : List Cond := k2_sels lw_privs ++ tables_1
theorem lw_privs_ok : ∀ q ∈ lw_privs, lw_okq q := by
  show ∀ q ∈ lw_privs_1 ++ (lw_privs_2 ++ (lw_privs_3)), lw_okq q
  exact List.forall_mem_append.mpr ⟨lw_r1, List.forall_mem_append.mpr ⟨lw_r2, lw_r3⟩⟩
-- ===== end of PART A; then your names; then what follows =====
end
section
/-! ===== BEGIN words of one list among another's, by their places ===== -/
theorem goodIn_r {big : List Cond} (ws : List Cond) (ps : List Nat) (hp : ws = ps.filterMap (fun i => big[i]?)) (h : ws.all goodWord = true) : GoodIn big ws := by
  intro w hw
  have h1 := List.all_eq_true.mp h w hw
  rw [hp] at hw
  obtain ⟨i, -, hi⟩ := List.mem_filterMap.mp hw
  have hm : w ∈ big := by first | exact List.mem_of_getElem? hi | exact List.getElem?_mem hi
  exact ⟨hm, good_of_word h1⟩
theorem goodIn_app {big a b : List Cond} (ha : GoodIn big a) (hb : GoodIn big b) : GoodIn big (a ++ b) := fun w h => (List.mem_append.mp h).elim (ha w) (hb w)
theorem goodIn_ca {big a b : List Cond} {c : Cond} (ha : GoodIn big (c :: a)) (hb : GoodIn big b) : GoodIn big (c :: (a ++ b)) := fun w h => (List.mem_cons.mp h).elim (fun e => ha w (List.mem_cons.mpr (Or.inl e))) (fun h => (List.mem_append.mp h).elim (fun h => ha w (List.mem_cons.mpr (Or.inr h))) (hb w))
theorem goodIn_sub {big ws : List Cond} (hm : ∀ w ∈ ws, w ∈ big) (h : ws.all goodWord = true) : GoodIn big ws := fun w hw => ⟨hm w hw, good_of_word (List.all_eq_true.mp h w hw)⟩
/-! ===== END ===== -/

/-! ===== BEGIN exceptions that leave a method, and their catching by the caller (launches without stack traces) ===== -/
section VXA
/-! The laws vx_back, vx_callV, vx_callS, vx_callSW, vx_throw0, vx_throwS follow proofs of the library, with one case more: JvmDerived/Free/Laws.lean (Back.of_free), Shelf42/LK1.lean (callV, callS), Shelf/KitTraced.lean (throwNew0V, throwNewS). -/
/-- where a method has thrown q: the class by its name, the cell, what was written, the world -/
def vx_T (XC : String → State → State → Prop) (st : State) (q : Addr) (t : State) (mc ms : Nat) (free : Addr → Prop) : Prop :=
  ∃ (E : String) (ce : Cell) (L : List Loc), XC E st t ∧ t.heap[q]? = some ce ∧ ce.vm = .none ∧ st.vm.findClass E = some ce.cls ∧ st.WarmedH t.vm ∧ st.sameButNew ({ t with vm := st.vm } : State) L mc ms ∧ ∀ z ∈ L, free z.base
def vx_Q (Qc : Array Value → State → Outcome → State → Prop) (XC : String → State → State → Prop) (mc ms : Nat) (free : Addr → Prop) : Array Value → State → Outcome → State → Prop := fun a st o t =>
  (Qc a st o t ∧ ∃ L, FrameEnd st o t L mc ms ∧ ∀ q ∈ L, free q.base) ∨ ∃ q, o = .threw q ∧ vx_T XC st q t mc ms free
/-- a callee that returns or throws -/
def vx_Met (l : Launch) (y : MethodName) (ws : List Cond) (rm : Room) (Pc : Array Value → State → Prop) (Qc : Array Value → State → Outcome → State → Prop) (XC : String → State → State → Prop) (mc ms : Nat) (free : Addr → Prop) : Prop :=
  MetFree l y (headSpec ws rm) Pc (fun _ _ _ _ _ => True) (vx_Q Qc XC mc ms free)
def vx_Post (XC : String → State → State → Prop) (mc ms : Nat) (free : Addr → Prop) : Pt → Array Value → Addr → Pt → Prop := fun A a q B =>
  ∃ (g : JFrame) (mk : MethodId) (t : State) (L : List Loc) (E : String) (ce : Cell), B.U.heap = t.heap ∧ B.U.vm = t.vm ∧ XC E (A.U.calling g mk a) t ∧ t.heap[q]? = some ce ∧ ce.vm = .none ∧ A.U.vm.findClass E = some ce.cls ∧ B.locs = A.locs ++ L ∧ (∀ z ∈ L, free z.base) ∧ B.cells = A.cells + mc ∧ B.slots = A.slots + ms
def vx_Back (l : Launch) (R : Room) (p : Program) (e : Env) (below : List Frame) (s : State) (sargs : Array Value) (y : MethodName) (len W9 : Nat)
    (Pre : Pt → Array Value → Prop) (Post : Pt → Array Value → Option Value → Pt → Prop) (PostX : Pt → Array Value → Addr → Pt → Prop) : Prop :=
  ∀ (m : MethodId) (meth : Method) (c : Code) (A : Pt) (g : JFrame) (ig : Instr) (mk : MethodId) (a : Array Value),
    Stand p l e R s m sargs below meth c A.U A.locs A.cells A.slots → g.method = m → g.locals.size = c.maxLocals → decode c.code g.pc = .ok (ig, len) →
    2 * g.monitorRoom + (g.stack.map fun v => v.category).sum ≤ W9 → A.U.methodNamed? y = some mk → Pre A a →
    (∃ (v : Option Value) (B : Pt), Stand p l e R s m sargs below meth c B.U B.locs B.cells B.slots ∧ Post A a v B ∧
      Steps p.tables e below (doInvoke e (A.U.setTop g) [] mk a).1 (B.U.setTop { g with pc := g.pc + len, stack := v.toList ++ g.stack })) ∨
    (∃ (q : Addr) (B : Pt), Stand p l e R s m sargs below meth c B.U B.locs B.cells B.slots ∧ PostX A a q B ∧
      Steps p.tables e below (doInvoke e (A.U.setTop g) [] mk a).1 ((B.U.setTop g).pushFrame (.throwing q)))
section Payer
variable {l : Launch} {R : Room} {p : Program} {e : Env} {below : List Frame} {s : State} {sargs : Array Value} {y : MethodName} {len W9 : Nat}
theorem vx_back {ws : List Cond} {rm : Room} {Pc : Array Value → State → Prop} {Qc : Array Value → State → Outcome → State → Prop} {XC : String → State → State → Prop} {mc ms : Nat} {free : Addr → Prop} {bytes : ByteArray} {maxL : Nat} {ret : Option FieldType}
    (hM : vx_Met l y ws rm Pc Qc XC mc ms free) (hblind : FrameBlind Pc) (hrc : rm.cells = mc) (hrs : rm.slots = ms)
    (hframes : rm.frames + 1 ≤ R.frames) (hlocals : W9 + (maxL + 11) + rm.locals ≤ R.locals)
    (hws : ∀ w ∈ ws, ∀ a' U, s.WarmedH U.vm → w.before a' U = true) (hcode : Cond.code y bytes maxL ret ∈ ws) (hinit : ∀ a' U, s.WarmedH U.vm → (Cond.initialized y.cls).before a' U = true) :
    vx_Back l R p e below s sargs y len W9 (PreOf R mc ms Pc) (PostOf Qc mc ms free) (vx_Post XC mc ms free) := by
  intro m meth c A g ig mk a X hg hsize hdg hW hn hp
  have h1 : (headSpec ws rm).pre.before a A.U = true := atoms_intro fun w hw => hws w hw _ _ X.warmed
  have h2 : (Cond.code y bytes maxL ret).before a A.U = true := hws _ hcode _ _ X.warmed
  have h3 : (Cond.initialized y.cls).before a A.U = true := hinit _ _ X.warmed
  have h4 : A.cells + (headSpec ws rm).room.cells ≤ R.cells := by rw [show (headSpec ws rm).room.cells = mc from hrc]; exact hp.1
  have h5 : A.slots + (headSpec ws rm).room.slots ≤ R.slots := by rw [show (headSpec ws rm).room.slots = ms from hrs]; exact hp.2.1
  have hPc : Pc a (A.U.calling g mk a) := hblind _ _ _ _ hp.2.2
  obtain ⟨U, Ls, c0, s0⟩ := A
  dsimp only [Pt.U, Pt.locs, Pt.cells, Pt.slots] at h1 h2 h3 h4 h5 X hn hPc ⊢
  obtain ⟨methY, cY, hmY, hcY, -, hlY, -, -, -, -⟩ := Cond.code_spec hn h2
  obtain ⟨kY, hkY, -⟩ := className_of_methodNamed hn
  have hinitY : kY.init = .initialized := Cond.initialized_spec (findClass_of_methodNamed hn) hkY h3
  have h : At U g.method c below := by rw [hg]; exact X.here
  have hlocals9 : W9 + (maxL + 11) + (headSpec ws rm).room.locals ≤ R.locals := hlocals
  have happ : (headSpec ws rm).appliesLoose y e.platform (U.calling g mk a) = true :=
    Spec.appliesLoose_calling (g := g) h hdg hn hkY hinitY
      (X.room_calling (g := g) (R' := (headSpec ws rm).room) hsize hmY hcY hframes (by rw [hlY]; omega) h4 h5) h1
  obtain ⟨mid, hmid⟩ := h.above
  have hfr : (U.setTop g).frames = (.java g :: mid) ++ below := by rw [State.frames_setTop' g h.top, hmid]; rfl
  obtain ⟨o, s₂, hsteps, -, hend, hq⟩ := Steps.callFree hM p X.admits X.cas X.clock (acts := []) hfr happ hPc trivial
  have hq' : vx_Q Qc XC mc ms free a (U.calling g mk a) o s₂ := hq
  rw [State.frames_setTop' g h.top] at hend
  obtain ⟨g₀, hg0⟩ := Option.isSome_iff_exists.mp h.top
  obtain ⟨r, hr⟩ := State.topJava?_eq_some.mp hg0
  have hr' : (({ U with heap := s₂.heap, slotsUsed := s₂.slotsUsed } : State).setVm s₂.vm).frames = .java g₀ :: r := hr
  rcases hq' with ⟨hqc, L, hfe, hL⟩ | ⟨q, rfl, E, ce, L, hx, hce, hcv, hcl, hW₂, hsm, hL⟩
  · obtain ⟨⟨v, rfl⟩, hW₂, e2, q2, q3, q4, q5, q6⟩ := id hfe
    have e3 : s₂ = ({ (U.calling g mk a).setFrames s₂.frames with heap := s₂.heap, slotsUsed := s₂.slotsUsed } : State).setVm s₂.vm := by
      have : s₂ = ({ s₂ with vm := (U.calling g mk a).vm } : State).setVm s₂.vm := rfl
      rw [e2] at this
      exact this
    obtain ⟨c₂, i₂, len₂, hc₂, hd₂, hf₂⟩ := hend
    have hW' : U.WarmedH s₂.vm := hW₂
    have hcc : c₂ = c := by
      have h1 : s₂.code? g.method = U.code? g.method := by
        rw [State.code?_eq, State.code?_eq, hW'.alike.method?]
      exact Option.some.inj (hc₂.symm.trans (h1.trans h.code))
    subst hcc
    have hlen : len₂ = len := by rw [hdg] at hd₂; cases hd₂; rfl
    subst hlen
    have hs₂ : s₂ = (({ U with heap := s₂.heap, slotsUsed := s₂.slotsUsed } : State).setVm s₂.vm).setTop { g with pc := g.pc + len₂, stack := v.toList ++ g.stack } := by
      refine e3.trans ?_
      rw [hf₂, State.calling_eq h.top, State.setFrames_setFrames, State.setTop_of_frames _ hr', hr]
      rfl
    have hsame : U.sameButNew ({ U with heap := s₂.heap, slotsUsed := s₂.slotsUsed } : State) L mc ms := by
      refine ⟨?_, q2, q3, q4, q5, q6⟩
      obtain ⟨t, ht, -⟩ := State.frames_cons hr
      show ({ U with heap := s₂.heap, slotsUsed := s₂.slotsUsed } : State) = { U.setFrames U.frames with heap := s₂.heap, slotsUsed := s₂.slotsUsed }
      rw [State.setFrames_self ht]
    subst hg
    refine Or.inl ⟨v, ⟨(({ U with heap := s₂.heap, slotsUsed := s₂.slotsUsed } : State).setVm s₂.vm), Ls ++ L, c0 + mc, s0 + ms⟩,
      ⟨X.admits, X.cas, X.clock, X.frames, X.room, X.hears, X.method, X.code, (X.here.setHeapUsed s₂.heap s₂.slotsUsed).setVm hW'.alike, X.tail, State.WarmedH.trans X.warmed hW', X.limits, X.bytes, X.same.trans (hsame.setVm s.vm)⟩,
      ⟨g, mk, s₂, L, rfl, rfl, hqc, rfl, hL, rfl, rfl⟩, ?_⟩
    show Steps p.tables e below _ ((({ U with heap := s₂.heap, slotsUsed := s₂.slotsUsed } : State).setVm s₂.vm).setTop { g with pc := g.pc + len₂, stack := v.toList ++ g.stack })
    rw [← hs₂]
    exact hsteps
  · obtain ⟨e2, q2, q3, q4, q5, q6⟩ := id hsm
    have e3 : s₂ = ({ (U.calling g mk a).setFrames s₂.frames with heap := s₂.heap, slotsUsed := s₂.slotsUsed } : State).setVm s₂.vm := by
      have : s₂ = ({ s₂ with vm := (U.calling g mk a).vm } : State).setVm s₂.vm := rfl
      rw [e2] at this
      exact this
    have hf₂ : s₂.frames = .throwing q :: .java g :: U.frames.tail := hend
    have hW' : U.WarmedH s₂.vm := hW₂
    have hs₂ : s₂ = ((({ U with heap := s₂.heap, slotsUsed := s₂.slotsUsed } : State).setVm s₂.vm).setTop g).pushFrame (.throwing q) := by
      refine e3.trans ?_
      rw [hf₂, State.calling_eq h.top, State.setFrames_setFrames, State.pushFrame, State.frames_setTop _ hr', State.setTop_of_frames _ hr', State.setFrames_setFrames, hr]
      rfl
    have hsame : U.sameButNew ({ U with heap := s₂.heap, slotsUsed := s₂.slotsUsed } : State) L mc ms := by
      refine ⟨?_, q2, q3, q4, q5, q6⟩
      obtain ⟨t, ht, -⟩ := State.frames_cons hr
      show ({ U with heap := s₂.heap, slotsUsed := s₂.slotsUsed } : State) = { U.setFrames U.frames with heap := s₂.heap, slotsUsed := s₂.slotsUsed }
      rw [State.setFrames_self ht]
    subst hg
    refine Or.inr ⟨q, ⟨(({ U with heap := s₂.heap, slotsUsed := s₂.slotsUsed } : State).setVm s₂.vm), Ls ++ L, c0 + mc, s0 + ms⟩,
      ⟨X.admits, X.cas, X.clock, X.frames, X.room, X.hears, X.method, X.code, (X.here.setHeapUsed s₂.heap s₂.slotsUsed).setVm hW'.alike, X.tail, State.WarmedH.trans X.warmed hW', X.limits, X.bytes, X.same.trans (hsame.setVm s.vm)⟩,
      ⟨g, mk, s₂, L, E, ce, rfl, rfl, hx, hce, hcv, hcl, rfl, hL, rfl, rfl⟩, ?_⟩
    show Steps p.tables e below _ (((({ U with heap := s₂.heap, slotsUsed := s₂.slotsUsed } : State).setVm s₂.vm).setTop g).pushFrame (.throwing q))
    rw [← hs₂]
    exact hsteps
end Payer
section Calls
variable {p : Program} {l : Launch} {e : Env} {R : Room} {s : State} {m : MethodId} {args : Array Value} {below : List Frame} {meth : Method} {c : Code} {T : State} {locs : List Loc} {cells slots : Nat}
theorem vx_callV (X : Stand p l e R s m args below meth c T locs cells slots) (hexec : p.tables.exec = Jvm.exec) {own C : String} {index : Nat} {y : MethodName} {bytes : ByteArray} {maxL : Nat} {ret : Option FieldType}
    (hown : s.vm.findClass own = some m.cls) (hlink : (Cond.methodLink own index y).before args s = true) (hinst : (Cond.instanceMethod y).before args s = true) (hsel : (Cond.selects C y y).before args s = true)
    (hcode : (Cond.code y bytes maxL ret).before args s = true) (hy : y.cls ≠ "java/lang/invoke/MethodHandle" ∧ y.cls ≠ "java/lang/invoke/VarHandle")
    {W9 : Nat} {Pre : Pt → Array Value → Prop} {Post : Pt → Array Value → Option Value → Pt → Prop} {PostX : Pt → Array Value → Addr → Pt → Prop} (hK : vx_Back l R p e below s args y 3 W9 Pre Post PostX)
    {b : Addr} {cellB : Cell} (hcell : T.heap[b]? = some cellB) (hobj : cellB.vm.isStatics = false) (hcls : s.vm.findClass C = some cellB.cls)
    {g : JFrame} (hg : g.method = m) (hsize : g.locals.size = c.maxLocals) {argsL rest : List Value} (hlen : ∀ sig, parseMethodDescriptor y.desc = some sig → argsL.length = sig.parameters.length)
    (hstack : g.stack = argsL.reverse ++ .ref b :: rest) (hW : 2 * g.monitorRoom + (rest.map fun v => v.category).sum ≤ W9) (hdg : decode c.code g.pc = .ok (.invokevirtual index, 3))
    (hpre : ∀ vm₁, s.WarmedH vm₁ → Pre ⟨T.setVm vm₁, locs, cells, slots⟩ (Value.ref b :: argsL).toArray) :
    (∃ (v : Option Value) (vm₁ : Vm) (B : Pt), s.WarmedH vm₁ ∧ Stand p l e R s m args below meth c B.U B.locs B.cells B.slots ∧ Post ⟨T.setVm vm₁, locs, cells, slots⟩ (Value.ref b :: argsL).toArray v B ∧
      ∀ target, Steps p.tables e below (B.U.setTop { g with pc := g.pc + 3, stack := v.toList ++ rest }) target → Steps p.tables e below (T.setTop g) target) ∨
    (∃ (q : Addr) (vm₁ : Vm) (B : Pt), s.WarmedH vm₁ ∧ Stand p l e R s m args below meth c B.U B.locs B.cells B.slots ∧ PostX ⟨T.setVm vm₁, locs, cells, slots⟩ (Value.ref b :: argsL).toArray q B ∧
      Steps p.tables e below (T.setTop g) ((B.U.setTop { g with stack := rest }).pushFrame (.throwing q))) := by
  obtain ⟨mk, methM, hnamed, hmethM, hstM, habM⟩ := Cond.instanceMethod_spec hinst
  obtain ⟨methM', cM, hmethM', -, -, -, -, -, -, hsigM⟩ := Cond.code_spec hnamed hcode
  cases hmethM.symm.trans hmethM'
  obtain ⟨c2, r2, m2, q1, q2, q3, q4, kP, hkP, hkPi⟩ := Cond.selects_spec hsel
  cases hcls.symm.trans q1
  cases (State.methodFound?_of_named hnamed hy).symm.trans q2
  cases hnamed.symm.trans q3
  have hselP : selectMethod e.platform s.vm cellB.cls mk = .method mk := by rw [Launch.admits_selectMethod X.admits]; exact q4
  obtain ⟨vm₁, X₁, hstep₁⟩ := X.invokevirtual hexec hown hlink hnamed hmethM hstM hkP hkPi hy (a := b) (cell := cellB) hcell
    (fun z h => by rw [h] at hobj; cases hobj) hselP hmethM habM hkP hkPi (g := g) hg (argsL := argsL) (rest := rest) (hlen _ hsigM) hstack hdg
  rcases hK m meth c ⟨T.setVm vm₁, locs, cells, slots⟩ { g with stack := rest } (.invokevirtual index) mk (Value.ref b :: argsL).toArray X₁ hg hsize hdg hW (X₁.named hnamed) (hpre vm₁ X₁.warmed) with ⟨v, B, X', hpost, hsteps⟩ | ⟨q, B, X', hpost, hsteps⟩
  · exact Or.inl ⟨v, vm₁, B, X₁.warmed, X', hpost, fun target h => hstep₁ _ fun acts => by rw [doInvoke_state]; exact hsteps.trans h⟩
  · exact Or.inr ⟨q, vm₁, B, X₁.warmed, X', hpost, hstep₁ _ fun acts => by rw [doInvoke_state]; exact hsteps⟩
theorem vx_callS (X : Stand p l e R s m args below meth c T locs cells slots) (hexec : p.tables.exec = Jvm.exec) {own : String} {index : Nat} {y : MethodName} {bytes : ByteArray} {maxL : Nat} {ret : Option FieldType}
    (hown : s.vm.findClass own = some m.cls) (hlink : (Cond.methodLink own index y).before args s = true) (hstat : (Cond.static y).before args s = true) (hinit : (Cond.initialized y.cls).before args s = true)
    (hcode : (Cond.code y bytes maxL ret).before args s = true) (hy : y.cls ≠ "java/lang/invoke/MethodHandle" ∧ y.cls ≠ "java/lang/invoke/VarHandle")
    {W9 : Nat} {Pre : Pt → Array Value → Prop} {Post : Pt → Array Value → Option Value → Pt → Prop} {PostX : Pt → Array Value → Addr → Pt → Prop} (hK : vx_Back l R p e below s args y 3 W9 Pre Post PostX)
    {g : JFrame} (hg : g.method = m) (hsize : g.locals.size = c.maxLocals) {argsL rest : List Value} (hlen : ∀ sig, parseMethodDescriptor y.desc = some sig → argsL.length = sig.parameters.length)
    (hstack : g.stack = argsL.reverse ++ rest) (hW : 2 * g.monitorRoom + (rest.map fun v => v.category).sum ≤ W9) (hdg : decode c.code g.pc = .ok (.invokestatic index, 3))
    (hpre : ∀ vm₁, s.WarmedH vm₁ → Pre ⟨T.setVm vm₁, locs, cells, slots⟩ argsL.toArray) :
    (∃ (v : Option Value) (vm₁ : Vm) (B : Pt), s.WarmedH vm₁ ∧ Stand p l e R s m args below meth c B.U B.locs B.cells B.slots ∧ Post ⟨T.setVm vm₁, locs, cells, slots⟩ argsL.toArray v B ∧
      ∀ target, Steps p.tables e below (B.U.setTop { g with pc := g.pc + 3, stack := v.toList ++ rest }) target → Steps p.tables e below (T.setTop g) target) ∨
    (∃ (q : Addr) (vm₁ : Vm) (B : Pt), s.WarmedH vm₁ ∧ Stand p l e R s m args below meth c B.U B.locs B.cells B.slots ∧ PostX ⟨T.setVm vm₁, locs, cells, slots⟩ argsL.toArray q B ∧
      Steps p.tables e below (T.setTop g) ((B.U.setTop { g with stack := rest }).pushFrame (.throwing q))) := by
  obtain ⟨mk, hnamed⟩ := Cond.code_named hcode
  obtain ⟨methM, cM, hmethM, -, -, -, -, -, -, hsigM⟩ := Cond.code_spec hnamed hcode
  have hstatic : methM.isStatic = true := Cond.static_spec hnamed hmethM hstat
  obtain ⟨kP, hkP, -⟩ := className_of_methodNamed hnamed
  have hinitP : kP.init = .initialized := Cond.initialized_spec (findClass_of_methodNamed hnamed) hkP hinit
  obtain ⟨vm₁, X₁, hstep₁⟩ := X.invokestatic hexec hown hlink hnamed hmethM hstatic hkP hinitP hy (g := g) hg (argsL := argsL) (rest := rest) (hlen _ hsigM) hstack hdg
  rcases hK m meth c ⟨T.setVm vm₁, locs, cells, slots⟩ { g with stack := rest } (.invokestatic index) mk argsL.toArray X₁ hg hsize hdg hW (X₁.named hnamed) (hpre vm₁ X₁.warmed) with ⟨v, B, X', hpost, hsteps⟩ | ⟨q, B, X', hpost, hsteps⟩
  · exact Or.inl ⟨v, vm₁, B, X₁.warmed, X', hpost, fun target h => hstep₁ _ fun acts => by rw [doInvoke_state]; exact hsteps.trans h⟩
  · exact Or.inr ⟨q, vm₁, B, X₁.warmed, X', hpost, hstep₁ _ fun acts => by rw [doInvoke_state]; exact hsteps⟩
end Calls
theorem vx_cls {s : State} {T : State} {vm₁ : Vm} {E : String} {k : ClassId} (hW : s.WarmedH vm₁) (h : (T.setVm vm₁).vm.findClass E = some k) : s.vm.findClass E = some k := by
  have h1 : vm₁.findClass E = some k := h
  rw [hW.alike.findClass] at h1
  exact h1
/-- the method's frame g, with q thrown over it -/
def vx_W (p : Program) (l : Launch) (e : Env) (R : Room) (s : State) (m : MethodId) (args : Array Value) (below : List Frame) (meth : Method) (c : Code) (H : Heap) (locs : List Loc) (cells slots : Nat) (Q : State → Prop) (g : JFrame) (q : Addr) : Prop :=
  ∀ T : State, T.heap = H → Stand p l e R s m args below meth c T locs cells slots → ∃ t, Steps p.tables e below ((T.setTop g).pushFrame (.throwing q)) t ∧ Q t
def vx_Run (p : Program) (l : Launch) (e : Env) (R : Room) (s : State) (m : MethodId) (args : Array Value) (below : List Frame) (meth : Method) (c : Code) (H : Heap) (locs : List Loc) (cells slots mc ms : Nat) (g : JFrame) (rest : List Value) (Qa : State → Outcome → State → Prop) (XC : String → State → State → Prop) (free : Addr → Prop) : Prop :=
  ∀ T : State, T.heap = H → Stand p l e R s m args below meth c T locs cells slots →
    (∃ (v : Option Value) (st₀ t T' : State) (L : List Loc), st₀.heap = H ∧ Stand p l e R s m args below meth c T' (locs ++ L) (cells + mc) (slots + ms) ∧ (∀ q ∈ L, free q.base) ∧ T'.heap = t.heap ∧ T'.vm = t.vm ∧ Qa st₀ (.returned v) t ∧
      Goes p e below T g T' { g with pc := g.pc + 3, stack := v.toList ++ rest }) ∨
    (∃ (q : Addr) (st₀ t T' : State) (L : List Loc) (E : String) (ce : Cell), st₀.heap = H ∧ Stand p l e R s m args below meth c T' (locs ++ L) (cells + mc) (slots + ms) ∧ (∀ z ∈ L, free z.base) ∧ T'.heap = t.heap ∧ T'.vm = t.vm ∧ XC E st₀ t ∧ t.heap[q]? = some ce ∧ ce.vm = .none ∧ s.vm.findClass E = some ce.cls ∧
      Steps p.tables e below (T.setTop g) ((T'.setTop { g with stack := rest }).pushFrame (.throwing q)))
def vx_X {S : Type} (px : S → Prop) (B : String → S → State → Prop) (A : Nat → Prop) : String → State → State → Prop := fun E st t => ∃ u : S, px u ∧ B E u t ∧ va_F A st t
section Runs
variable {p : Program} {l : Launch} {e : Env} {R : Room} {s : State} {m : MethodId} {args : Array Value} {below : List Frame} {meth : Method} {c : Code} {H : Heap} {locs : List Loc} {cells slots : Nat}
variable {y : MethodName} {bytes cc : ByteArray} {maxL nL mc ms n index : Nat} {ret : Option FieldType} {ws : List Cond} {rm : Room} {Pc : Array Value → State → Prop} {Qc : Array Value → State → Outcome → State → Prop} {XC : String → State → State → Prop} {free : Addr → Prop} {Ts : List Cond} {own C : String} {b : Addr} {As rest : List Value} {g : JFrame}
theorem vx_callBack (cb : CallB R s args own index y bytes maxL ret ws rm mc ms n) (hM : vx_Met l y ws rm Pc Qc XC mc ms free) (hbl : FrameBlind Pc) : vx_Back l R p e below s args y 3 8 (PreOf R mc ms Pc) (PostOf Qc mc ms free) (vx_Post XC mc ms free) := by
  obtain ⟨hrc, hrs, hfr, hlo, hws, hcw, -, hini, -⟩ := cb
  exact vx_back (bytes := bytes) (maxL := maxL) (ret := ret) hM hbl hrc hrs hfr hlo hws hcw (fun a' U hW => word_at hW (Or.inl (by first | rfl | simp [Cond.onTables, Cond.keeps, Cond.steady])) hini)
theorem vx_runV (S : CallFix p m c cc nL s args Ts own) (hM : vx_Met l y ws rm Pc Qc XC mc ms free) (cw : CallW R s args own C index y bytes maxL ret ws rm mc ms n) (hp : PreV s H C b Pc As)
    (hg : g.method = m) (hn : As.length = n) (hsize : g.locals.size = nL) (hstack : g.stack = As.reverse ++ .ref b :: rest) (hW : 2 * g.monitorRoom + (rest.map fun v => v.category).sum ≤ 8) (hdg : decode cc g.pc = .ok (.invokevirtual index, 3)) (hf : cells + mc ≤ R.cells ∧ slots + ms ≤ R.slots) :
    vx_Run p l e R s m args below meth c H locs cells slots mc ms g rest (Qc (Value.ref b :: As).toArray) XC free := by
  have hK : vx_Back l R p e below s args y 3 8 (PreOf R mc ms Pc) (PostOf Qc mc ms free) (vx_Post XC mc ms free) := vx_callBack cw.1 hM hp.1
  obtain ⟨⟨-, -, -, -, -, -, hcode, -, hy, hlen, hl⟩, hin, hse⟩ := cw
  obtain ⟨hx, hb, hml, ho, -⟩ := S
  obtain ⟨-, ⟨cellB, hcB, hoB, hclB⟩, hPc⟩ := hp
  intro T hT X
  rcases vx_callV X hx (C := C) (bytes := bytes) (maxL := maxL) (ret := ret) ho hl hin hse hcode hy hK (by rw [hT]; exact hcB) hoB hclB hg (hsize.trans hml.symm) (argsL := As) (rest := rest) (fun sig h => hn.trans (hlen sig h)) hstack hW (by rw [hb]; exact hdg)
    (fun vm₁ hW₁ => ⟨hf.1, hf.2, hPc (T.setVm vm₁) hT hW₁⟩) with ⟨v, vm₁, ⟨U', l2, c2, s2⟩, hW₁, X', ⟨g', mk, t, L, e1, e2, hq, h1, hL, h2, h3⟩, st⟩ | ⟨q, vm₁, ⟨U', l2, c2, s2⟩, hW₁, X', ⟨g', mk, t, L, E, ce, e1, e2, hq, hce, hcv, hcl, h1, hL, h2, h3⟩, st⟩
  · dsimp only [Pt.U, Pt.locs, Pt.cells, Pt.slots] at X' e1 e2 h1 h2 h3 st
    subst h1; subst h2; subst h3
    exact Or.inl ⟨v, (T.setVm vm₁).calling g' mk (Value.ref b :: As).toArray, t, U', L, hT, X', hL, e1, e2, hq, st⟩
  · dsimp only [Pt.U, Pt.locs, Pt.cells, Pt.slots] at X' e1 e2 h1 h2 h3 st hcl
    subst h1; subst h2; subst h3
    exact Or.inr ⟨q, (T.setVm vm₁).calling g' mk (Value.ref b :: As).toArray, t, U', L, E, ce, hT, X', hL, e1, e2, hq, hce, hcv, vx_cls hW₁ hcl, st⟩
theorem vx_runS (S : CallFix p m c cc nL s args Ts own) (hM : vx_Met l y ws rm Pc Qc XC mc ms free) (cw : CallB R s args own index y bytes maxL ret ws rm mc ms n ∧ (Cond.static y).before args s = true) (hp : PreS s H Pc As)
    (hg : g.method = m) (hn : As.length = n) (hsize : g.locals.size = nL) (hstack : g.stack = As.reverse ++ rest) (hW : 2 * g.monitorRoom + (rest.map fun v => v.category).sum ≤ 8) (hdg : decode cc g.pc = .ok (.invokestatic index, 3)) (hf : cells + mc ≤ R.cells ∧ slots + ms ≤ R.slots) :
    vx_Run p l e R s m args below meth c H locs cells slots mc ms g rest (Qc As.toArray) XC free := by
  have hK : vx_Back l R p e below s args y 3 8 (PreOf R mc ms Pc) (PostOf Qc mc ms free) (vx_Post XC mc ms free) := vx_callBack cw.1 hM hp.1
  obtain ⟨⟨-, -, -, -, -, -, hcode, hini, hy, hlen, hl⟩, hstt⟩ := cw
  obtain ⟨hx, hb, hml, ho, -⟩ := S
  intro T hT X
  rcases vx_callS X hx (bytes := bytes) (maxL := maxL) (ret := ret) ho hl hstt hini hcode hy hK hg (hsize.trans hml.symm) (argsL := As) (rest := rest) (fun sig h => hn.trans (hlen sig h)) hstack hW (by rw [hb]; exact hdg)
    (fun vm₁ hW₁ => ⟨hf.1, hf.2, hp.2 (T.setVm vm₁) hT hW₁⟩) with ⟨v, vm₁, ⟨U', l2, c2, s2⟩, hW₁, X', ⟨g', mk, t, L, e1, e2, hq, h1, hL, h2, h3⟩, st⟩ | ⟨q, vm₁, ⟨U', l2, c2, s2⟩, hW₁, X', ⟨g', mk, t, L, E, ce, e1, e2, hq, hce, hcv, hcl, h1, hL, h2, h3⟩, st⟩
  · dsimp only [Pt.U, Pt.locs, Pt.cells, Pt.slots] at X' e1 e2 h1 h2 h3 st
    subst h1; subst h2; subst h3
    exact Or.inl ⟨v, (T.setVm vm₁).calling g' mk As.toArray, t, U', L, hT, X', hL, e1, e2, hq, st⟩
  · dsimp only [Pt.U, Pt.locs, Pt.cells, Pt.slots] at X' e1 e2 h1 h2 h3 st hcl
    subst h1; subst h2; subst h3
    exact Or.inr ⟨q, (T.setVm vm₁).calling g' mk As.toArray, t, U', L, E, ce, hT, X', hL, e1, e2, hq, hce, hcv, vx_cls hW₁ hcl, st⟩
end Runs
section Rows
variable {p : Program} {l : Launch} {e : Env} {R : Room} {s : State} {m : MethodId} {args : Array Value} {below : List Frame} {meth : Method} {c : Code} {H : Heap} {locs : List Loc} {cells slots : Nat} {Q : State → Prop}
variable {mc ms : Nat} {free : Addr → Prop} {A0 A1 : Nat → Prop} {H0 : Heap} {a : Array Value} {pc : Nat} {ls : Array Slot} {st0 rest : List Value}
theorem vx_keep {st₀ t T' : State} {L : List Loc} (h0 : st₀.heap = H) (e1 : T'.heap = t.heap) (hS : va_S A0 H0 H locs) (hA : ∀ q, q < H.size → A1 q → A0 q) (hf : ∀ q, free q → A0 q) (hL : ∀ q ∈ L, free q.base) (hF : va_F A1 st₀ t) :
    H.size ≤ T'.heap.size ∧ (∀ q : Nat, q < H.size → ¬ A1 q → T'.heap[q]? = H[q]?) ∧ va_S A0 H0 T'.heap (locs ++ L) := by
  obtain ⟨hz, hk⟩ := hF
  rw [h0] at hz hk
  exact ⟨by rw [e1]; exact hz, fun q h1 h2 => by rw [e1]; exact hk q h1 h2,
    ⟨Nat.le_trans hS.1 (by rw [e1]; exact hz), fun q h1 h2 => by rw [e1, hk q (Nat.lt_of_lt_of_le h1 hS.1) (fun z => h2 (hA q (Nat.lt_of_lt_of_le h1 hS.1) z))]; exact hS.2.1 q h1 h2, fun q hq => by
      rcases List.mem_append.mp hq with h | h
      · exact hS.2.2 q h
      · exact hf _ (hL q h)⟩⟩
theorem vx_calli {S SX : Type} {post : Int32 → S → Prop} {px : SX → Prop} {B : S → State → Prop} {BX : String → SX → State → Prop} {AX : Nat → Prop} (hr : vx_Run p l e R s m args below meth c H locs cells slots mc ms (F0 m pc ls st0) rest (va_Qi post B A1 a) (vx_X px BX AX) free) (hS : va_S A0 H0 H locs) (hA : ∀ q, q < H.size → A1 q → A0 q) (hf : ∀ q, free q → A0 q) (hAX : ∀ q, q < H.size → AX q → A0 q)
    (kx : ∀ (E : String) (ce : Cell) (q9 : Addr) (u : SX) (t : State) (H1 : Heap) (locs1 : List Loc), t.heap = H1 → s.vm.Alike t.vm → px u → BX E u t → H.size ≤ H1.size → (∀ q : Nat, q < H.size → ¬ AX q → H1[q]? = H[q]?) → va_S A0 H0 H1 locs1 → H1[q9]? = some ce → ce.vm = .none → s.vm.findClass E = some ce.cls → vx_W p l e R s m args below meth c H1 locs1 (cells + mc) (slots + ms) Q (F0 m pc ls rest) q9)
    (kk : ∀ (r : Int32) (u : S) (t : State) (H1 : Heap) (locs1 : List Loc), t.heap = H1 → s.vm.Alike t.vm → post r u → B u t → H.size ≤ H1.size → (∀ q : Nat, q < H.size → ¬ A1 q → H1[q]? = H[q]?) → va_S A0 H0 H1 locs1 → W p l e R s m args below meth c H1 locs1 (cells + mc) (slots + ms) Q (F0 m (pc + 3) ls (.int r :: rest))) : W p l e R s m args below meth c H locs cells slots Q (F0 m pc ls st0) := by
  intro T hT X
  rcases hr T hT X with ⟨v, st₀, t, T', L, h0, X', hL, e1, e2, ⟨⟨r, u, hv, hp, hb⟩, hF⟩, st⟩ | ⟨q, st₀, t, T', L, E, ce, h0, X', hL, e1, e2, ⟨u, hp, hb, hF⟩, hce, hcv, hcl, st⟩
  · cases hv
    obtain ⟨k1, k2, k3⟩ := vx_keep h0 e1 hS hA hf hL hF
    obtain ⟨t2, a1, b1⟩ := kk r u t T'.heap (locs ++ L) e1.symm (by rw [← e2]; exact X'.warmed.alike) hp hb k1 k2 k3 T' rfl X'
    exact ⟨t2, st t2 a1, b1⟩
  · obtain ⟨k1, k2, k3⟩ := vx_keep h0 e1 hS hAX hf hL hF
    obtain ⟨t2, a1, b1⟩ := kx E ce q u t T'.heap (locs ++ L) e1.symm (by rw [← e2]; exact X'.warmed.alike) hp hb k1 k2 k3 (by rw [e1]; exact hce) hcv hcl T' rfl X'
    exact ⟨t2, st.trans a1, b1⟩
theorem vx_calll {S SX : Type} {post : Int64 → S → Prop} {px : SX → Prop} {B : S → State → Prop} {BX : String → SX → State → Prop} {AX : Nat → Prop} (hr : vx_Run p l e R s m args below meth c H locs cells slots mc ms (F0 m pc ls st0) rest (va_Ql post B A1 a) (vx_X px BX AX) free) (hS : va_S A0 H0 H locs) (hA : ∀ q, q < H.size → A1 q → A0 q) (hf : ∀ q, free q → A0 q) (hAX : ∀ q, q < H.size → AX q → A0 q)
    (kx : ∀ (E : String) (ce : Cell) (q9 : Addr) (u : SX) (t : State) (H1 : Heap) (locs1 : List Loc), t.heap = H1 → s.vm.Alike t.vm → px u → BX E u t → H.size ≤ H1.size → (∀ q : Nat, q < H.size → ¬ AX q → H1[q]? = H[q]?) → va_S A0 H0 H1 locs1 → H1[q9]? = some ce → ce.vm = .none → s.vm.findClass E = some ce.cls → vx_W p l e R s m args below meth c H1 locs1 (cells + mc) (slots + ms) Q (F0 m pc ls rest) q9)
    (kk : ∀ (r : Int64) (u : S) (t : State) (H1 : Heap) (locs1 : List Loc), t.heap = H1 → s.vm.Alike t.vm → post r u → B u t → H.size ≤ H1.size → (∀ q : Nat, q < H.size → ¬ A1 q → H1[q]? = H[q]?) → va_S A0 H0 H1 locs1 → W p l e R s m args below meth c H1 locs1 (cells + mc) (slots + ms) Q (F0 m (pc + 3) ls (.long r :: rest))) : W p l e R s m args below meth c H locs cells slots Q (F0 m pc ls st0) := by
  intro T hT X
  rcases hr T hT X with ⟨v, st₀, t, T', L, h0, X', hL, e1, e2, ⟨⟨r, u, hv, hp, hb⟩, hF⟩, st⟩ | ⟨q, st₀, t, T', L, E, ce, h0, X', hL, e1, e2, ⟨u, hp, hb, hF⟩, hce, hcv, hcl, st⟩
  · cases hv
    obtain ⟨k1, k2, k3⟩ := vx_keep h0 e1 hS hA hf hL hF
    obtain ⟨t2, a1, b1⟩ := kk r u t T'.heap (locs ++ L) e1.symm (by rw [← e2]; exact X'.warmed.alike) hp hb k1 k2 k3 T' rfl X'
    exact ⟨t2, st t2 a1, b1⟩
  · obtain ⟨k1, k2, k3⟩ := vx_keep h0 e1 hS hAX hf hL hF
    obtain ⟨t2, a1, b1⟩ := kx E ce q u t T'.heap (locs ++ L) e1.symm (by rw [← e2]; exact X'.warmed.alike) hp hb k1 k2 k3 (by rw [e1]; exact hce) hcv hcl T' rfl X'
    exact ⟨t2, st.trans a1, b1⟩
theorem vx_callf {S SX : Type} {post : UInt32 → S → Prop} {px : SX → Prop} {B : S → State → Prop} {BX : String → SX → State → Prop} {AX : Nat → Prop} (hr : vx_Run p l e R s m args below meth c H locs cells slots mc ms (F0 m pc ls st0) rest (va_Qf post B A1 a) (vx_X px BX AX) free) (hS : va_S A0 H0 H locs) (hA : ∀ q, q < H.size → A1 q → A0 q) (hf : ∀ q, free q → A0 q) (hAX : ∀ q, q < H.size → AX q → A0 q)
    (kx : ∀ (E : String) (ce : Cell) (q9 : Addr) (u : SX) (t : State) (H1 : Heap) (locs1 : List Loc), t.heap = H1 → s.vm.Alike t.vm → px u → BX E u t → H.size ≤ H1.size → (∀ q : Nat, q < H.size → ¬ AX q → H1[q]? = H[q]?) → va_S A0 H0 H1 locs1 → H1[q9]? = some ce → ce.vm = .none → s.vm.findClass E = some ce.cls → vx_W p l e R s m args below meth c H1 locs1 (cells + mc) (slots + ms) Q (F0 m pc ls rest) q9)
    (kk : ∀ (r : UInt32) (u : S) (t : State) (H1 : Heap) (locs1 : List Loc), t.heap = H1 → s.vm.Alike t.vm → post r u → B u t → H.size ≤ H1.size → (∀ q : Nat, q < H.size → ¬ A1 q → H1[q]? = H[q]?) → va_S A0 H0 H1 locs1 → W p l e R s m args below meth c H1 locs1 (cells + mc) (slots + ms) Q (F0 m (pc + 3) ls (.float r :: rest))) : W p l e R s m args below meth c H locs cells slots Q (F0 m pc ls st0) := by
  intro T hT X
  rcases hr T hT X with ⟨v, st₀, t, T', L, h0, X', hL, e1, e2, ⟨⟨r, u, hv, hp, hb⟩, hF⟩, st⟩ | ⟨q, st₀, t, T', L, E, ce, h0, X', hL, e1, e2, ⟨u, hp, hb, hF⟩, hce, hcv, hcl, st⟩
  · cases hv
    obtain ⟨k1, k2, k3⟩ := vx_keep h0 e1 hS hA hf hL hF
    obtain ⟨t2, a1, b1⟩ := kk r u t T'.heap (locs ++ L) e1.symm (by rw [← e2]; exact X'.warmed.alike) hp hb k1 k2 k3 T' rfl X'
    exact ⟨t2, st t2 a1, b1⟩
  · obtain ⟨k1, k2, k3⟩ := vx_keep h0 e1 hS hAX hf hL hF
    obtain ⟨t2, a1, b1⟩ := kx E ce q u t T'.heap (locs ++ L) e1.symm (by rw [← e2]; exact X'.warmed.alike) hp hb k1 k2 k3 (by rw [e1]; exact hce) hcv hcl T' rfl X'
    exact ⟨t2, st.trans a1, b1⟩
theorem vx_calld {S SX : Type} {post : UInt64 → S → Prop} {px : SX → Prop} {B : S → State → Prop} {BX : String → SX → State → Prop} {AX : Nat → Prop} (hr : vx_Run p l e R s m args below meth c H locs cells slots mc ms (F0 m pc ls st0) rest (va_Qd post B A1 a) (vx_X px BX AX) free) (hS : va_S A0 H0 H locs) (hA : ∀ q, q < H.size → A1 q → A0 q) (hf : ∀ q, free q → A0 q) (hAX : ∀ q, q < H.size → AX q → A0 q)
    (kx : ∀ (E : String) (ce : Cell) (q9 : Addr) (u : SX) (t : State) (H1 : Heap) (locs1 : List Loc), t.heap = H1 → s.vm.Alike t.vm → px u → BX E u t → H.size ≤ H1.size → (∀ q : Nat, q < H.size → ¬ AX q → H1[q]? = H[q]?) → va_S A0 H0 H1 locs1 → H1[q9]? = some ce → ce.vm = .none → s.vm.findClass E = some ce.cls → vx_W p l e R s m args below meth c H1 locs1 (cells + mc) (slots + ms) Q (F0 m pc ls rest) q9)
    (kk : ∀ (r : UInt64) (u : S) (t : State) (H1 : Heap) (locs1 : List Loc), t.heap = H1 → s.vm.Alike t.vm → post r u → B u t → H.size ≤ H1.size → (∀ q : Nat, q < H.size → ¬ A1 q → H1[q]? = H[q]?) → va_S A0 H0 H1 locs1 → W p l e R s m args below meth c H1 locs1 (cells + mc) (slots + ms) Q (F0 m (pc + 3) ls (.double r :: rest))) : W p l e R s m args below meth c H locs cells slots Q (F0 m pc ls st0) := by
  intro T hT X
  rcases hr T hT X with ⟨v, st₀, t, T', L, h0, X', hL, e1, e2, ⟨⟨r, u, hv, hp, hb⟩, hF⟩, st⟩ | ⟨q, st₀, t, T', L, E, ce, h0, X', hL, e1, e2, ⟨u, hp, hb, hF⟩, hce, hcv, hcl, st⟩
  · cases hv
    obtain ⟨k1, k2, k3⟩ := vx_keep h0 e1 hS hA hf hL hF
    obtain ⟨t2, a1, b1⟩ := kk r u t T'.heap (locs ++ L) e1.symm (by rw [← e2]; exact X'.warmed.alike) hp hb k1 k2 k3 T' rfl X'
    exact ⟨t2, st t2 a1, b1⟩
  · obtain ⟨k1, k2, k3⟩ := vx_keep h0 e1 hS hAX hf hL hF
    obtain ⟨t2, a1, b1⟩ := kx E ce q u t T'.heap (locs ++ L) e1.symm (by rw [← e2]; exact X'.warmed.alike) hp hb k1 k2 k3 (by rw [e1]; exact hce) hcv hcl T' rfl X'
    exact ⟨t2, st.trans a1, b1⟩
theorem vx_callv {S SX : Type} {post : S → Prop} {px : SX → Prop} {B : S → State → Prop} {BX : String → SX → State → Prop} {AX : Nat → Prop} (hr : vx_Run p l e R s m args below meth c H locs cells slots mc ms (F0 m pc ls st0) rest (va_Qv post B A1 a) (vx_X px BX AX) free) (hS : va_S A0 H0 H locs) (hA : ∀ q, q < H.size → A1 q → A0 q) (hf : ∀ q, free q → A0 q) (hAX : ∀ q, q < H.size → AX q → A0 q)
    (kx : ∀ (E : String) (ce : Cell) (q9 : Addr) (u : SX) (t : State) (H1 : Heap) (locs1 : List Loc), t.heap = H1 → s.vm.Alike t.vm → px u → BX E u t → H.size ≤ H1.size → (∀ q : Nat, q < H.size → ¬ AX q → H1[q]? = H[q]?) → va_S A0 H0 H1 locs1 → H1[q9]? = some ce → ce.vm = .none → s.vm.findClass E = some ce.cls → vx_W p l e R s m args below meth c H1 locs1 (cells + mc) (slots + ms) Q (F0 m pc ls rest) q9)
    (kk : ∀ (u : S) (t : State) (H1 : Heap) (locs1 : List Loc), t.heap = H1 → s.vm.Alike t.vm → post u → B u t → H.size ≤ H1.size → (∀ q : Nat, q < H.size → ¬ A1 q → H1[q]? = H[q]?) → va_S A0 H0 H1 locs1 → W p l e R s m args below meth c H1 locs1 (cells + mc) (slots + ms) Q (F0 m (pc + 3) ls (rest))) : W p l e R s m args below meth c H locs cells slots Q (F0 m pc ls st0) := by
  intro T hT X
  rcases hr T hT X with ⟨v, st₀, t, T', L, h0, X', hL, e1, e2, ⟨⟨u, hv, hp, hb⟩, hF⟩, st⟩ | ⟨q, st₀, t, T', L, E, ce, h0, X', hL, e1, e2, ⟨u, hp, hb, hF⟩, hce, hcv, hcl, st⟩
  · cases hv
    obtain ⟨k1, k2, k3⟩ := vx_keep h0 e1 hS hA hf hL hF
    obtain ⟨t2, a1, b1⟩ := kk u t T'.heap (locs ++ L) e1.symm (by rw [← e2]; exact X'.warmed.alike) hp hb k1 k2 k3 T' rfl X'
    exact ⟨t2, st t2 a1, b1⟩
  · obtain ⟨k1, k2, k3⟩ := vx_keep h0 e1 hS hAX hf hL hF
    obtain ⟨t2, a1, b1⟩ := kx E ce q u t T'.heap (locs ++ L) e1.symm (by rw [← e2]; exact X'.warmed.alike) hp hb k1 k2 k3 (by rw [e1]; exact hce) hcv hcl T' rfl X'
    exact ⟨t2, st.trans a1, b1⟩
/-- caught by the row x of this method's table; the rows ahead don't take it -/
theorem vx_catch {own name : String} {E : String} {ce : Cell} {q : Addr} (hown : s.vm.findClass own = some m.cls) (pre : List ExceptionTableEntry) (x : ExceptionTableEntry) (suf : List ExceptionTableEntry) (hsplit : c.exceptionTable.toList = pre ++ x :: suf)
    (hpass : ∀ z ∈ pre, covers z pc = false ∨ (z.catchType ≠ 0 ∧ ∃ nm : String, (Cond.classLink own z.catchType nm).before args s = true ∧ va_Nc E nm s)) (hx : covers x pc = true) (h0 : x.catchType ≠ 0)
    (hlink : (Cond.classLink own x.catchType name).before args s = true) (hcast : (Cond.castable E name).before args s = true) (hcell : H[q]? = some ce) (hv : ce.vm = .none) (hcl : s.vm.findClass E = some ce.cls)
    (kk : W p l e R s m args below meth c H locs cells slots Q (F0 m x.handlerPc ls [.ref q])) : vx_W p l e R s m args below meth c H locs cells slots Q (F0 m pc ls rest) q := by
  intro T hT X
  have hpl : e.platform.magicAccessors = ({} : Platform).magicAccessors := by rw [X.admits.platform]
  obtain ⟨c3, c4, hc3, hc4, hasg⟩ := Cond.castable_spec hcast
  cases Option.some.inj (hc3.symm.trans hcl)
  obtain ⟨c5, hc5, hcl5⟩ := Cond.classLink_spec hown hlink e.platform hpl
  cases Option.some.inj (hc4.symm.trans hc5)
  obtain ⟨vm', X', st⟩ := X.thenCaughtThrough q (g := F0 m pc ls rest) rfl (Steps.refl _) (by rw [hT]; exact hcell) (by rw [hv]; rfl) (by obtain ⟨k9, h9, -⟩ := Vm.findClass_spec hcl; exact ⟨k9, h9⟩) pre x suf hsplit
    (fun z hz => by
      rcases hpass z hz with h | ⟨hz0, nm, hl1, hn1⟩
      · exact Or.inl h
      · obtain ⟨c6, hc6, hcl6⟩ := Cond.classLink_spec hown hl1 e.platform hpl
        obtain ⟨a8, b8, h1, h2, h3⟩ := hn1
        cases Option.some.inj (h1.symm.trans hcl)
        cases Option.some.inj (h2.symm.trans hc6)
        exact Or.inr ⟨hz0, _, hcl6, h3⟩) hx (Or.inr ⟨h0, c4, hcl5, hasg⟩)
  obtain ⟨t, a1, b1⟩ := kk (T.setVm vm') hT X'
  exact ⟨t, st.trans a1, b1⟩
end Rows
section Ends
variable {p : Program} {l : Launch} {e : Env} {R : Room} {s : State} {m : MethodId} {args : Array Value} {below : List Frame} {meth : Method} {c : Code} {H : Heap} {locs : List Loc} {cells slots : Nat} {Q : State → Prop}
variable {mc ms : Nat} {free : Addr → Prop} {A0 A1 : Nat → Prop} {H0 : Heap} {a : Array Value} {ls : Array Slot} {st0 rest : List Value}
variable {Qc : Array Value → State → Outcome → State → Prop} {XC : String → State → State → Prop}
/-- what a body that may throw owes at its end -/
def vx_MQ (below : List Frame) (Qc : Array Value → State → Outcome → State → Prop) (XC : String → State → State → Prop) (a : Array Value) (s : State) (mc ms : Nat) (free : Addr → Prop) : State → Prop := fun t =>
  ∃ o, t.status = .running ∧ Ended t below o ∧ vx_Q Qc XC mc ms free a s o t
theorem vx_ret {g : JFrame} {mc ms : Nat} (k : W p l e R s m args below meth c H locs cells slots (MQ below Qc args s mc ms free) g) : W p l e R s m args below meth c H locs cells slots (vx_MQ below Qc XC args s mc ms free) g := by
  intro T hT X
  obtain ⟨t, a1, o, b1, b2, b3, b4⟩ := k T hT X
  exact ⟨t, a1, o, b1, b2, Or.inl ⟨b3, b4⟩⟩
/-- not caught here: it goes on to the caller -/
theorem vx_widen {g : JFrame} {q : Addr} {k n : Nat} (h1 : cells ≤ k) (h2 : slots ≤ n) (kk : vx_W p l e R s m args below meth c H locs k n Q g q) : vx_W p l e R s m args below meth c H locs cells slots Q g q := fun T hT X => kk T hT (stand_widen X h1 h2)
theorem vx_out {pc : Nat} {E : String} {ce : Cell} {q : Addr} {mc ms : Nat} (hout : ∀ x ∈ c.exceptionTable.toList, covers x pc = false) (hlocks : meth.locks = false) (hcell : H[q]? = some ce) (hv : ce.vm = .none) (hcl : s.vm.findClass E = some ce.cls)
    (hx : ∀ t : State, t.heap = H → s.vm.Alike t.vm → XC E s t) (hf : ∀ z ∈ locs, free z.base) (hc : cells ≤ mc) (hs : slots ≤ ms) :
    vx_W p l e R s m args below meth c H locs cells slots (vx_MQ below Qc XC args s mc ms free) (F0 m pc ls rest) q := by
  intro T hT X
  obtain ⟨st1, hrun, hend, hW, hsm⟩ := X.leaveThrown q (g := F0 m pc ls rest) rfl rfl rfl hout hlocks
  have hcell9 : (T.setFrames (.throwing q :: below)).heap[q]? = some ce := by
    show T.heap[q]? = some ce
    rw [hT]; exact hcell
  exact ⟨_, st1, .threw q, hrun, hend, Or.inr ⟨q, rfl, E, ce, locs, hx _ hT hW.alike, hcell9, hv, hcl, hW, hsm.mono hc hs, hf⟩⟩
theorem vx_frame {U : State} {k n : Nat} (h : s.sameButNew ({ U with vm := s.vm } : State) locs k n) : s.heap.size ≤ U.heap.size ∧ ∀ q : Nat, q < s.heap.size → (∀ z ∈ locs, z.base ≠ q) → U.heap[q]? = s.heap[q]? := by
  obtain ⟨-, h2, -, -, -, h6⟩ := h
  refine ⟨h2, fun q hq hz => ?_⟩
  obtain ⟨c9, e1, e2, e3, e4⟩ := h6 q _ (Array.getElem?_eq_getElem hq)
  have hs : c9.slots = (s.heap[q]).slots := Array.ext_getElem? fun i => e4 i fun hm => hz _ hm rfl
  have h9 : c9 = s.heap[q] := by
    rw [hs] at e2
    exact e2
  have e5 : U.heap[q]? = some c9 := e1
  rw [e5, h9, Array.getElem?_eq_getElem hq]
/-- the words of a throw but the four that speak of the heap -/
def vx_no (w : Cond) : Bool := decide (w ≠ .isRef (.static Bundle.tN "UNASSIGNED_STACK" Bundle.steD)) && decide (w ≠ .isRef (.static Bundle.tN "SUPPRESSED_SENTINEL" Bundle.listD)) && decide (w ≠ .laysStatic Bundle.tN "UNASSIGNED_STACK" Bundle.steD) && decide (w ≠ .laysStatic Bundle.tN "SUPPRESSED_SENTINEL" Bundle.listD)
def vx_at0 (own : String) (ic : Nat) (X : String) (names : List String) : List Cond := (Bundle.ownAtoms0 own ic X names).filter vx_no
def vx_atS (own : String) (ic : Nat) (X : String) (names : List String) : List Cond := (Bundle.ownAtoms own ic X names).filter vx_no
/-- a word that the tables alone decide, or a good one -/
def vx_ot (w : Cond) : Bool := w.onTables || goodWord w
theorem vx_ot_at {args a' : Array Value} {s U : State} {w : Cond} (hW : s.WarmedH U.vm) (hvm : s.vm = U.vm) (hg : vx_ot w = true) (h : w.before args s = true) : w.before a' U = true := by
  simp only [vx_ot, Bool.or_eq_true] at hg
  rcases hg with hg | hg
  · exact va_tabs hg hvm h
  · exact word_at hW (good_of_word hg) h
/-- a list's words: the good ones out of the method's own list, the others by premises of their own -/
theorem vx_hat {args : Array Value} {s : State} {L B : List Cond} (h1 : ∀ w ∈ L.filter goodWord, w.before args s = true) (h2 : ∀ w ∈ L.filter (fun w => !goodWord w), w ∈ B) (h3 : ∀ w ∈ B, w.before args s = true) : ∀ w ∈ L, w.before args s = true := by
  intro w hw
  by_cases g : goodWord w = true
  · exact h1 w (List.mem_filter.mpr ⟨hw, g⟩)
  · refine h3 w (h2 w (List.mem_filter.mpr ⟨hw, ?_⟩))
    show (!goodWord w) = true
    cases hgw : goodWord w
    · rfl
    · exact absurd hgw g
theorem vx_c {args : Array Value} {s : State} {w : Cond} {B : List Cond} (h : w.before args s = true) (t : ∀ w ∈ B, w.before args s = true) : ∀ w' ∈ w :: B, w'.before args s = true := fun w' h' => (List.mem_cons.mp h').elim (fun e => by rw [e]; exact h) (t w')
theorem vx_n {args : Array Value} {s : State} : ∀ w ∈ ([] : List Cond), w.before args s = true := fun _ h => nomatch h
theorem vx_own {args : Array Value} {s : State} {L : List Cond} (h1 : ∀ w ∈ L.filter vx_no, w.before args s = true)
    (hU : (Cond.isRef (.static Bundle.tN "UNASSIGNED_STACK" Bundle.steD)).before args s = true) (hN : (Cond.isRef (.static Bundle.tN "SUPPRESSED_SENTINEL" Bundle.listD)).before args s = true)
    (lU : (Cond.laysStatic Bundle.tN "UNASSIGNED_STACK" Bundle.steD).before args s = true) (lN : (Cond.laysStatic Bundle.tN "SUPPRESSED_SENTINEL" Bundle.listD).before args s = true) : ∀ w ∈ L, w.before args s = true := by
  intro w hw
  by_cases e1 : w = .isRef (.static Bundle.tN "UNASSIGNED_STACK" Bundle.steD)
  · rw [e1]; exact hU
  · by_cases e2 : w = .isRef (.static Bundle.tN "SUPPRESSED_SENTINEL" Bundle.listD)
    · rw [e2]; exact hN
    · by_cases e3 : w = .laysStatic Bundle.tN "UNASSIGNED_STACK" Bundle.steD
      · rw [e3]; exact lU
      · by_cases e4 : w = .laysStatic Bundle.tN "SUPPRESSED_SENTINEL" Bundle.listD
        · rw [e4]; exact lN
        · exact h1 w (List.mem_filter.mpr ⟨hw, by unfold vx_no; rw [decide_eq_true e1, decide_eq_true e2, decide_eq_true e3, decide_eq_true e4]; rfl⟩)
/-- where a static field lies, its class's statics cell in H -/
def vx_L (C n d : String) (A : Nat → Prop) (U : State) (H : Heap) : Prop := ∃ (c : ClassId) (k : Class) (i : Nat) (f : Field) (a : Nat) (cell : Cell), U.vm.findClass C = some c ∧ U.fieldFound? C n d = some (c, k, i, f) ∧ f.isStatic = true ∧ k.statics = some a ∧ H[a]? = some cell ∧ cell.vm.isStatics = true ∧ cell.cls = c ∧ f.slot < cell.slots.size ∧ k.staticTypes[f.slot]? = some f.type ∧ ¬ A a
theorem vx_L.moved {C n d : String} {A : Nat → Prop} {u U : State} {H : Heap} (hvm : u.vm.Alike U.vm) (h : vx_L C n d A u H) : vx_L C n d A U H := by
  obtain ⟨c, k, i, f, a, cell, h1, h2, h3, h4, h5, h6, h7, h8, h9, h10⟩ := h
  obtain ⟨k', hi', he⟩ := State.fieldFound?_setVm hvm h2
  exact ⟨c, k', i, f, a, cell, by rw [hvm.findClass]; exact h1, hi', h3, by rw [he]; exact h4, h5, h6, h7, h8, by rw [he]; exact h9, h10⟩
theorem vx_L.kept {C n d : String} {A : Nat → Prop} {U : State} {H H1 : Heap} (h : vx_L C n d A U H) (hq : ∀ a : Nat, a < H.size → ¬ A a → H1[a]? = H[a]?) : vx_L C n d A U H1 := by
  obtain ⟨c, k, i, f, a, cell, h1, h2, h3, h4, h5, h6, h7, h8, h9, h10⟩ := h
  exact ⟨c, k, i, f, a, cell, h1, h2, h3, h4, by rw [hq a (Array.getElem?_eq_some_iff.mp h5).1 h10]; exact h5, h6, h7, h8, h9, h10⟩
theorem vx_L.narrow {C n d : String} {A B : Nat → Prop} {U : State} {H : Heap} (h : vx_L C n d A U H) (hAB : ∀ q, B q → A q) : vx_L C n d B U H := by
  obtain ⟨c, k, i, f, a, cell, h1, h2, h3, h4, h5, h6, h7, h8, h9, h10⟩ := h
  exact ⟨c, k, i, f, a, cell, h1, h2, h3, h4, h5, h6, h7, h8, h9, fun z => h10 (hAB _ z)⟩
theorem vx_L.word {C n d : String} {A : Nat → Prop} {s : State} {args : Array Value} (h : vx_L C n d A s s.heap) : (Cond.laysStatic C n d).before args s = true := by
  obtain ⟨c, k, i, f, a, cell, h1, h2, h3, h4, h5, h6, h7, h8, h9, -⟩ := h
  show (Cond.laysStatic C n d).holds args s none s [] = true
  exact Cond.laysStatic_of h1 h2 h3 h4 h5 h6 h7 h8 h9
/-- .. and what it holds: null or some reference -/
def vx_Zq (C n d : String) (A : Nat → Prop) (U : State) (H : Heap) : Prop := va_Zq C n d A U H ∧ vx_L C n d A U H
theorem vx_Zq.moved {C n d : String} {A : Nat → Prop} {u U : State} {H : Heap} (hvm : u.vm.Alike U.vm) (h : vx_Zq C n d A u H) : vx_Zq C n d A U H := ⟨va_Zq.moved hvm h.1, vx_L.moved hvm h.2⟩
theorem vx_Zq.kept {C n d : String} {A : Nat → Prop} {U : State} {H H1 : Heap} (h : vx_Zq C n d A U H) (hq : ∀ a : Nat, a < H.size → ¬ A a → H1[a]? = H[a]?) : vx_Zq C n d A U H1 := ⟨va_Zq.kept h.1 hq, vx_L.kept h.2 hq⟩
theorem vx_Zq.narrow {C n d : String} {A B : Nat → Prop} {U : State} {H : Heap} (h : vx_Zq C n d A U H) (hAB : ∀ q, B q → A q) : vx_Zq C n d B U H := ⟨va_Zq.narrow h.1 hAB, vx_L.narrow h.2 hAB⟩
theorem vx_Zqof {args : Array Value} {s : State} {C n d : String} {A : Nat → Prop} (hl : (Cond.laysStatic C n d).before args s = true) (hini : (Cond.initialized C).before args s = true) (h : (Cond.isRef (.static C n d)).before args s = true) (hA : ∀ a : Nat, a < s.heap.size → ¬ A a) : vx_Zq C n d A s s.heap := by
  refine ⟨va_Zqof hl hini h hA, ?_⟩
  obtain ⟨c, k, i, f, a, cell, h1, h2, h3, h4, h5, h6, h7, h8, h9⟩ := Cond.laysStatic_spec hl
  exact ⟨c, k, i, f, a, cell, h1, h2, h3, h4, h5, h6, h7, h8, h9, hA a (Array.getElem?_eq_some_iff.mp h5).1⟩
theorem vx_isRef {C n d : String} {v : Value} {A : Nat → Prop} {s : State} {args : Array Value} (h : va_Z C n d v A s s.heap) (hv : v.isRef = true) : (Cond.isRef (.static C n d)).before args s = true := by
  obtain ⟨cf, kf, fi, f, a, cell, h1, h2, h3, h4, h5, h6, h7, -⟩ := h
  have he : (Term.static C n d).eval args s none [] s = some v := by
    simp [Term.eval, State.fieldNamed?, h1, h2, h4, h5, h6, h7]
  simp only [Cond.before, Cond.holds, Cond.value, he]
  cases v <;> simp_all [Value.isRef]
theorem vx_isRefq {C n d : String} {A : Nat → Prop} {s : State} {args : Array Value} (h : va_Zq C n d A s s.heap) : (Cond.isRef (.static C n d)).before args s = true := by
  rcases h with h | ⟨t, h⟩
  · exact vx_isRef h rfl
  · exact vx_isRef h rfl
/-- the same frame, seen from here: as if the method were called anew in this heap -/
theorem vx_rebase {T : State} (X : Stand p l e R s m args below meth c T locs cells slots) {R' : Room} (hf : R'.frames ≤ R.frames) (hl : R'.locals ≤ R.locals) (hc : cells + R'.cells ≤ R.cells) (hs : slots + R'.slots ≤ R.slots) :
    Stand p l e R' ((T.setVm s.vm).setFrames (.invoking m args :: below)) m args below meth c T [] 0 0 := by
  have htop : (T.setVm s.vm).topJava?.isSome := X.here.top
  have hF : ((T.setVm s.vm).setFrames (.invoking m args :: below)).frames = .invoking m args :: below := State.frames_setFrames _ (State.cur_lt_of_top htop)
  obtain ⟨g₀, hg0⟩ := Option.isSome_iff_exists.mp htop
  obtain ⟨r, hr⟩ := State.topJava?_eq_some.mp hg0
  have hl9 : e.platform.stackLimits (T.setVm s.vm).me = e.platform.stackLimits s.me := X.limits
  have hb9 : (T.setVm s.vm).me.stackBytes = s.me.stackBytes := X.bytes
  refine ⟨X.admits, X.cas, X.clock, hF, ?_, X.hears, X.method, X.code, X.here, X.tail, X.warmed, ?_, ?_, ?_⟩
  · have h := X.room
    have hU : ((T.setVm s.vm).setFrames (.invoking m args :: below)).localsInUse = s.localsInUse := by
      rw [State.localsInUse_invoking hF (meth := meth) (c := c) X.method X.code, State.localsInUse_invoking X.frames X.method X.code]
    simp only [State.hasRoom, Bool.and_eq_true, decide_eq_true_eq] at h ⊢
    obtain ⟨⟨⟨⟨h1, h2, h3, h4, h5, h6⟩, h7⟩, h8⟩, h9⟩ := h
    rw [X.frames, List.length_cons] at h2 h3
    have q1 := X.heapSize
    have q2 := X.used
    simp only [hF, hU, List.length_cons, State.stackLimits_setFrames, State.stackBytes_setFrames, hl9, hb9]
    refine ⟨⟨⟨⟨by omega, by omega, by omega, by omega, by omega, h6⟩, ?_⟩, ?_⟩, X.book⟩
    · show T.heap.size + R'.cells ≤ e.platform.maxCells
      omega
    · show T.slotsUsed + R'.slots ≤ e.platform.maxSlots
      omega
  · rw [State.stackLimits_setFrames]; rfl
  · rw [State.stackBytes_setFrames]; rfl
  · refine ⟨?_, Nat.le_refl _, Nat.le_refl _, ?_, ?_, fun a c9 h9 => ⟨c9, h9, rfl, rfl, fun _ _ => rfl⟩⟩
    · obtain ⟨t, ht, -⟩ := State.frames_cons hr
      show T.setVm s.vm = { ((T.setVm s.vm).setFrames (.invoking m args :: below)).setFrames (T.setVm s.vm).frames with heap := T.heap, slotsUsed := T.slotsUsed }
      rw [State.setFrames_setFrames, State.setFrames_self ht]
      rfl
    · show T.slotsUsed = T.slotsUsed + ((T.heap.toList.drop T.heap.size).map (·.slots.size)).sum
      rw [List.drop_eq_nil_of_le (Nat.le_of_eq Array.length_toList)]
      rfl
    · show ((T.heap.toList.drop T.heap.size).map (·.slots.size)).sum ≤ 0
      rw [List.drop_eq_nil_of_le (Nat.le_of_eq Array.length_toList)]
      exact Nat.le_refl _
/-- 'throw new E()': new; dup; invokespecial; athrow -/
theorem vx_throw0 {cc : ByteArray} {pc : Nat} (hexec : p.tables.exec = Jvm.exec) (hb : c.code = cc) (hl : l.stackTraces = false) {own cls : String} {names : List String} {ik ic mc ms : Nat} {A : Nat → Prop}
    (hown : s.vm.findClass own = some m.cls) (hcls : Bundle.fit cls = true) (hnames : ∀ n ∈ names, Bundle.fit n = true)
    (hk : (Cond.classLink own ik cls).before args s = true) (hini : (Cond.initialized cls).before args s = true) (hat : ∀ w ∈ vx_at0 own ic cls names, w.before args s = true)
    (hgood : ∀ w ∈ Cond.classLink own ik cls :: Cond.initialized cls :: vx_at0 own ic cls names, vx_ot w = true)
    (hU : vx_Zq Bundle.tN "UNASSIGNED_STACK" Bundle.steD A s s.heap) (hN : vx_Zq Bundle.tN "SUPPRESSED_SENTINEL" Bundle.listD A s s.heap) (hS : va_S A s.heap H locs) (hsize : ls.size = c.maxLocals)
    (d0 : decode cc pc = .ok (.new ik, 3)) (d3 : decode cc (pc + 3) = .ok (.dup, 1)) (d4 : decode cc (pc + 4) = .ok (.invokespecial ic, 3)) (d7 : decode cc (pc + 7) = .ok (.athrow, 1))
    (hout : ∀ x ∈ c.exceptionTable.toList, covers x (pc + 7) = false)
    (hRframes : names.length + 3 < R.frames) (hRlocals : (rest.map fun v => v.category).sum + (13 * (names.length + 1) + 42) ≤ R.locals) (hRcells : cells + 1 ≤ R.cells) (hRslots : slots + 6 ≤ R.slots) (hlocks : meth.locks = false)
    (hx : ∀ t : State, s.vm.Alike t.vm → H.size ≤ t.heap.size → (∀ q : Nat, q < H.size → t.heap[q]? = H[q]?) → XC cls s t)
    (hf : ∀ z ∈ locs, free z.base) (hc : cells + 1 ≤ mc) (hs : slots + 6 ≤ ms) :
    W p l e R s m args below meth c H locs cells slots (vx_MQ below Qc XC args s mc ms free) (F0 m pc ls rest) := by
  intro T hT X
  have htr : e.platform.stackTraces = false := (show e.platform.stackTraces = l.stackTraces by rw [X.admits.platform]).trans hl
  have Y := vx_rebase X (R' := { frames := R.frames, locals := R.locals, cells := 1, slots := 6 }) (Nat.le_refl _) (Nat.le_refl _) hRcells hRslots
  obtain ⟨s', hA⟩ : ∃ z, z = (T.setVm s.vm).setFrames (.invoking m args :: below) := ⟨_, rfl⟩
  rw [← hA] at Y
  have hvm : s'.vm = s.vm := by rw [hA]; rfl
  have hhp : s'.heap = H := by rw [hA]; exact hT
  have hW0 : s.WarmedH s'.vm := by rw [hvm]; exact State.WarmedH.refl s
  have hat' : ∀ w ∈ vx_at0 own ic cls names, w.before args s' = true := fun w hw => vx_ot_at hW0 hvm.symm (hgood w (List.mem_cons_of_mem _ (List.mem_cons_of_mem _ hw))) (hat w hw)
  have hk' : (Cond.classLink own ik cls).before args s' = true := vx_ot_at hW0 hvm.symm (hgood _ List.mem_cons_self) hk
  have hini' : (Cond.initialized cls).before args s' = true := vx_ot_at hW0 hvm.symm (hgood _ (List.mem_cons_of_mem _ List.mem_cons_self)) hini
  have hU' : vx_Zq Bundle.tN "UNASSIGNED_STACK" Bundle.steD A s' s'.heap := by rw [hhp]; exact vx_Zq.moved hW0.alike (hU.kept hS.2.1)
  have hN' : vx_Zq Bundle.tN "SUPPRESSED_SENTINEL" Bundle.listD A s' s'.heap := by rw [hhp]; exact vx_Zq.moved hW0.alike (hN.kept hS.2.1)
  have h : ∀ w ∈ Bundle.ownAtoms0 own ic cls names, w.before args s' = true := vx_own hat' (vx_isRefq hU'.1) (vx_isRefq hN'.1) hU'.2.word hN'.2.word
  have hown' : s'.vm.findClass own = some m.cls := by rw [hvm]; exact hown
  have hins : (Cond.instantiable cls 6).before args s' = true := h _ (by simp [Bundle.ownAtoms0])
  obtain ⟨vm₁, cX, kX, hfX, hkX, -, -, X₁, st1⟩ := Y.newCold hexec (own := own) (C := cls) (index := ik) (n := 6) hown' hk' hins hini'
    (g := F0 m pc ls rest) rfl (by rw [hb]; exact d0) (Nat.le_refl _) (Nat.le_refl _)
  generalize hT1 : (T.setVm vm₁).pushCell { cls := cX, slots := kX.instanceTypes.map defaultValue, vm := .none } = T1 at X₁ st1
  have hcat : (Value.ref T.heap.size).category = 1 := rfl
  have hcellA : T1.heap[T.heap.size]? = some (freshCell cX kX) := by rw [← hT1]; exact State.heap_pushCell_size _ _
  have d3' : decode c.code (pc + 3) = .ok (.dup, 1) := by rw [hb]; exact d3
  obtain ⟨U, hsteps, hrun, hend, hW, hsame, ce, hce, hO⟩ := X₁.ctorThrow0 hexec htr (own := own) (cls := cls) (names := names) (ic := ic) hown' hcls hnames h (fun x hx => nomatch hx) hfX hkX hcellA (by rw [hhp, hT]; exact Nat.le_refl _)
    (g := { method := m, pc := pc + 4, locals := ls, stack := .ref T.heap.size :: .ref T.heap.size :: rest, locked := none }) rfl hsize rfl rfl (rest := rest) rfl
    (by rw [hb]; exact d4) (by rw [hb]; exact d7) hout hRframes (by simp only [List.map_cons, List.sum_cons, hcat]; omega) hlocks
  obtain ⟨f1, f2⟩ := vx_frame hsame
  rw [hhp] at f1 f2
  have hWs : s.WarmedH U.vm := State.WarmedH.trans hW0 hW
  have hcl : s.vm.findClass cls = some ce.cls := by
    have h9 := hO.cls
    rw [hvm] at h9
    exact h9
  have hall : s.sameButNew ({ U with vm := s.vm } : State) locs mc ms := by
    subst hA
    obtain ⟨e1, e2⟩ := hsame
    rw [State.setFrames_setFrames] at e1
    have h2 : (T.setVm s.vm).sameButNew ({ U with vm := s.vm } : State) [] (0 + 1) (0 + 6) := ⟨e1, e2⟩
    have h3 := X.same.trans h2
    rw [List.append_nil] at h3
    exact h3.mono hc hs
  refine ⟨U, ?_, .threw T.heap.size, hrun, hend, Or.inr ⟨T.heap.size, rfl, cls, ce, locs, hx U hWs.alike f1 (fun q hq => f2 q hq (fun z hz => nomatch hz)), hce, hO.vm, hcl, hWs, hall, hf⟩⟩
  refine st1 _ ?_
  show Steps p.tables e below (T1.setTop { method := m, pc := pc + 3, locals := ls, stack := .ref T.heap.size :: rest, locked := none }) _
  jvm_step X₁.here [X₁.here.top, hexec, d3', Value.category]
  exact hsteps
/-- 'throw new E("text")': new; dup; ldc; invokespecial; athrow -/
theorem vx_throwS {cc : ByteArray} {pc : Nat} (hexec : p.tables.exec = Jvm.exec) (hb : c.code = cc) (hl : l.stackTraces = false) {own cls text : String} {names : List String} {ik is ic mc ms sa : Nat} {A : Nat → Prop}
    (hown : s.vm.findClass own = some m.cls) (hcls : Bundle.fit cls = true) (hnames : ∀ n ∈ names, Bundle.fit n = true)
    (hk : (Cond.classLink own ik cls).before args s = true) (hini : (Cond.initialized cls).before args s = true) (hstr : vk_R own is text sa s) (hat : ∀ w ∈ vx_atS own ic cls names, w.before args s = true)
    (hgood : ∀ w ∈ Cond.classLink own ik cls :: Cond.initialized cls :: vx_atS own ic cls names, vx_ot w = true)
    (hU : vx_Zq Bundle.tN "UNASSIGNED_STACK" Bundle.steD A s s.heap) (hN : vx_Zq Bundle.tN "SUPPRESSED_SENTINEL" Bundle.listD A s s.heap) (hS : va_S A s.heap H locs) (hsize : ls.size = c.maxLocals)
    (d0 : decode cc pc = .ok (.new ik, 3)) (d3 : decode cc (pc + 3) = .ok (.dup, 1)) (d4 : decode cc (pc + 4) = .ok (.ldc is, 2)) (d6 : decode cc (pc + 6) = .ok (.invokespecial ic, 3)) (d9 : decode cc (pc + 9) = .ok (.athrow, 1))
    (hout : ∀ x ∈ c.exceptionTable.toList, covers x (pc + 9) = false)
    (hRframes : names.length + 3 < R.frames) (hRlocals : (rest.map fun v => v.category).sum + (13 * (names.length + 1) + 43) ≤ R.locals) (hRcells : cells + 1 ≤ R.cells) (hRslots : slots + 6 ≤ R.slots) (hlocks : meth.locks = false)
    (hx : ∀ t : State, s.vm.Alike t.vm → H.size ≤ t.heap.size → (∀ q : Nat, q < H.size → t.heap[q]? = H[q]?) → XC cls s t)
    (hf : ∀ z ∈ locs, free z.base) (hc : cells + 1 ≤ mc) (hs : slots + 6 ≤ ms) :
    W p l e R s m args below meth c H locs cells slots (vx_MQ below Qc XC args s mc ms free) (F0 m pc ls rest) := by
  intro T hT X
  have htr : e.platform.stackTraces = false := (show e.platform.stackTraces = l.stackTraces by rw [X.admits.platform]).trans hl
  have Y := vx_rebase X (R' := { frames := R.frames, locals := R.locals, cells := 1, slots := 6 }) (Nat.le_refl _) (Nat.le_refl _) hRcells hRslots
  obtain ⟨s', hA⟩ : ∃ z, z = (T.setVm s.vm).setFrames (.invoking m args :: below) := ⟨_, rfl⟩
  rw [← hA] at Y
  have hvm : s'.vm = s.vm := by rw [hA]; rfl
  have hhp : s'.heap = H := by rw [hA]; exact hT
  have hW0 : s.WarmedH s'.vm := by rw [hvm]; exact State.WarmedH.refl s
  have hat' : ∀ w ∈ vx_atS own ic cls names, w.before args s' = true := fun w hw => vx_ot_at hW0 hvm.symm (hgood w (List.mem_cons_of_mem _ (List.mem_cons_of_mem _ hw))) (hat w hw)
  have hk' : (Cond.classLink own ik cls).before args s' = true := vx_ot_at hW0 hvm.symm (hgood _ List.mem_cons_self) hk
  have hini' : (Cond.initialized cls).before args s' = true := vx_ot_at hW0 hvm.symm (hgood _ (List.mem_cons_of_mem _ List.mem_cons_self)) hini
  have hU' : vx_Zq Bundle.tN "UNASSIGNED_STACK" Bundle.steD A s' s'.heap := by rw [hhp]; exact vx_Zq.moved hW0.alike (hU.kept hS.2.1)
  have hN' : vx_Zq Bundle.tN "SUPPRESSED_SENTINEL" Bundle.listD A s' s'.heap := by rw [hhp]; exact vx_Zq.moved hW0.alike (hN.kept hS.2.1)
  have h : ∀ w ∈ Bundle.ownAtoms own ic cls names, w.before args s' = true := vx_own hat' (vx_isRefq hU'.1) (vx_isRefq hN'.1) hU'.2.word hN'.2.word
  have hown' : s'.vm.findClass own = some m.cls := by rw [hvm]; exact hown
  have hins : (Cond.instantiable cls 6).before args s' = true := h _ (by simp [Bundle.ownAtoms])
  obtain ⟨vm₁, cX, kX, hfX, hkX, -, -, X₁, st1⟩ := Y.newCold hexec (own := own) (C := cls) (index := ik) (n := 6) hown' hk' hins hini'
    (g := F0 m pc ls rest) rfl (by rw [hb]; exact d0) (Nat.le_refl _) (Nat.le_refl _)
  generalize hT1 : (T.setVm vm₁).pushCell { cls := cX, slots := kX.instanceTypes.map defaultValue, vm := .none } = T1 at X₁ st1
  have hcat : (Value.ref T.heap.size).category = 1 := rfl
  have hcellA : T1.heap[T.heap.size]? = some (freshCell cX kX) := by rw [← hT1]; exact State.heap_pushCell_size _ _
  have d3' : decode c.code (pc + 3) = .ok (.dup, 1) := by rw [hb]; exact d3
  have d4' : decode c.code (pc + 4) = .ok (.ldc is, 2) := by rw [hb]; exact d4
  have hstr' : vk_R own is text sa s' := vk_R.warm hW0 hstr
  obtain ⟨U, hsteps, hrun, hend, hW, hsame, ce, hce, hO⟩ := X₁.ctorThrowS hexec htr (own := own) (cls := cls) (names := names) (ic := ic) hown' hcls hnames h (fun x hx => nomatch hx) hfX hkX hcellA (by rw [hhp, hT]; exact Nat.le_refl _) (msg := .ref sa) rfl
    (g := { method := m, pc := pc + 6, locals := ls, stack := .ref sa :: .ref T.heap.size :: .ref T.heap.size :: rest, locked := none }) rfl hsize rfl rfl (rest := rest) rfl
    (by rw [hb]; exact d6) (by rw [hb]; exact d9) hout hRframes (by simp only [List.map_cons, List.sum_cons, hcat]; omega) hlocks
  obtain ⟨f1, f2⟩ := vx_frame hsame
  rw [hhp] at f1 f2
  have hWs : s.WarmedH U.vm := State.WarmedH.trans hW0 hW
  have hcl : s.vm.findClass cls = some ce.cls := by
    have h9 := hO.cls
    rw [hvm] at h9
    exact h9
  have hall : s.sameButNew ({ U with vm := s.vm } : State) locs mc ms := by
    subst hA
    obtain ⟨e1, e2⟩ := hsame
    rw [State.setFrames_setFrames] at e1
    have h2 : (T.setVm s.vm).sameButNew ({ U with vm := s.vm } : State) [] (0 + 1) (0 + 6) := ⟨e1, e2⟩
    have h3 := X.same.trans h2
    rw [List.append_nil] at h3
    exact h3.mono hc hs
  refine ⟨U, ?_, .threw T.heap.size, hrun, hend, Or.inr ⟨T.heap.size, rfl, cls, ce, locs, hx U hWs.alike f1 (fun q hq => f2 q hq (fun z hz => nomatch hz)), hce, hO.vm, hcl, hWs, hall, hf⟩⟩
  refine st1 _ ?_
  show Steps p.tables e below (T1.setTop { method := m, pc := pc + 3, locals := ls, stack := .ref T.heap.size :: rest, locked := none }) _
  jvm_step X₁.here [X₁.here.top, hexec, d3', Value.category]
  exact X₁.ldcString hexec (own := own) (text := text) (index := is) (a := sa) hown' hstr'.1 hstr'.2
    (g := { method := m, pc := pc + 4, locals := ls, stack := .ref T.heap.size :: .ref T.heap.size :: rest, locked := none }) rfl d4' _ hsteps
/-- 'throw new E("text")', the text by a wide index -/
theorem vx_throwSW {cc : ByteArray} {pc : Nat} (hexec : p.tables.exec = Jvm.exec) (hb : c.code = cc) (hl : l.stackTraces = false) {own cls text : String} {names : List String} {ik is ic mc ms sa : Nat} {A : Nat → Prop}
    (hown : s.vm.findClass own = some m.cls) (hcls : Bundle.fit cls = true) (hnames : ∀ n ∈ names, Bundle.fit n = true)
    (hk : (Cond.classLink own ik cls).before args s = true) (hini : (Cond.initialized cls).before args s = true) (hstr : vk_R own is text sa s) (hat : ∀ w ∈ vx_atS own ic cls names, w.before args s = true)
    (hgood : ∀ w ∈ Cond.classLink own ik cls :: Cond.initialized cls :: vx_atS own ic cls names, vx_ot w = true)
    (hU : vx_Zq Bundle.tN "UNASSIGNED_STACK" Bundle.steD A s s.heap) (hN : vx_Zq Bundle.tN "SUPPRESSED_SENTINEL" Bundle.listD A s s.heap) (hS : va_S A s.heap H locs) (hsize : ls.size = c.maxLocals)
    (d0 : decode cc pc = .ok (.new ik, 3)) (d3 : decode cc (pc + 3) = .ok (.dup, 1)) (d4 : decode cc (pc + 4) = .ok (.ldc_w is, 3)) (d7 : decode cc (pc + 7) = .ok (.invokespecial ic, 3)) (d10 : decode cc (pc + 10) = .ok (.athrow, 1))
    (hout : ∀ x ∈ c.exceptionTable.toList, covers x (pc + 10) = false)
    (hRframes : names.length + 3 < R.frames) (hRlocals : (rest.map fun v => v.category).sum + (13 * (names.length + 1) + 43) ≤ R.locals) (hRcells : cells + 1 ≤ R.cells) (hRslots : slots + 6 ≤ R.slots) (hlocks : meth.locks = false)
    (hx : ∀ t : State, s.vm.Alike t.vm → H.size ≤ t.heap.size → (∀ q : Nat, q < H.size → t.heap[q]? = H[q]?) → XC cls s t)
    (hf : ∀ z ∈ locs, free z.base) (hc : cells + 1 ≤ mc) (hs : slots + 6 ≤ ms) :
    W p l e R s m args below meth c H locs cells slots (vx_MQ below Qc XC args s mc ms free) (F0 m pc ls rest) := by
  intro T hT X
  have htr : e.platform.stackTraces = false := (show e.platform.stackTraces = l.stackTraces by rw [X.admits.platform]).trans hl
  have Y := vx_rebase X (R' := { frames := R.frames, locals := R.locals, cells := 1, slots := 6 }) (Nat.le_refl _) (Nat.le_refl _) hRcells hRslots
  obtain ⟨s', hA⟩ : ∃ z, z = (T.setVm s.vm).setFrames (.invoking m args :: below) := ⟨_, rfl⟩
  rw [← hA] at Y
  have hvm : s'.vm = s.vm := by rw [hA]; rfl
  have hhp : s'.heap = H := by rw [hA]; exact hT
  have hW0 : s.WarmedH s'.vm := by rw [hvm]; exact State.WarmedH.refl s
  have hat' : ∀ w ∈ vx_atS own ic cls names, w.before args s' = true := fun w hw => vx_ot_at hW0 hvm.symm (hgood w (List.mem_cons_of_mem _ (List.mem_cons_of_mem _ hw))) (hat w hw)
  have hk' : (Cond.classLink own ik cls).before args s' = true := vx_ot_at hW0 hvm.symm (hgood _ List.mem_cons_self) hk
  have hini' : (Cond.initialized cls).before args s' = true := vx_ot_at hW0 hvm.symm (hgood _ (List.mem_cons_of_mem _ List.mem_cons_self)) hini
  have hU' : vx_Zq Bundle.tN "UNASSIGNED_STACK" Bundle.steD A s' s'.heap := by rw [hhp]; exact vx_Zq.moved hW0.alike (hU.kept hS.2.1)
  have hN' : vx_Zq Bundle.tN "SUPPRESSED_SENTINEL" Bundle.listD A s' s'.heap := by rw [hhp]; exact vx_Zq.moved hW0.alike (hN.kept hS.2.1)
  have h : ∀ w ∈ Bundle.ownAtoms own ic cls names, w.before args s' = true := vx_own hat' (vx_isRefq hU'.1) (vx_isRefq hN'.1) hU'.2.word hN'.2.word
  have hown' : s'.vm.findClass own = some m.cls := by rw [hvm]; exact hown
  have hins : (Cond.instantiable cls 6).before args s' = true := h _ (by simp [Bundle.ownAtoms])
  obtain ⟨vm₁, cX, kX, hfX, hkX, -, -, X₁, st1⟩ := Y.newCold hexec (own := own) (C := cls) (index := ik) (n := 6) hown' hk' hins hini'
    (g := F0 m pc ls rest) rfl (by rw [hb]; exact d0) (Nat.le_refl _) (Nat.le_refl _)
  generalize hT1 : (T.setVm vm₁).pushCell { cls := cX, slots := kX.instanceTypes.map defaultValue, vm := .none } = T1 at X₁ st1
  have hcat : (Value.ref T.heap.size).category = 1 := rfl
  have hcellA : T1.heap[T.heap.size]? = some (freshCell cX kX) := by rw [← hT1]; exact State.heap_pushCell_size _ _
  have d3' : decode c.code (pc + 3) = .ok (.dup, 1) := by rw [hb]; exact d3
  have d4' : decode c.code (pc + 4) = .ok (.ldc_w is, 3) := by rw [hb]; exact d4
  have hstr' : vk_R own is text sa s' := vk_R.warm hW0 hstr
  obtain ⟨U, hsteps, hrun, hend, hW, hsame, ce, hce, hO⟩ := X₁.ctorThrowS hexec htr (own := own) (cls := cls) (names := names) (ic := ic) hown' hcls hnames h (fun x hx => nomatch hx) hfX hkX hcellA (by rw [hhp, hT]; exact Nat.le_refl _) (msg := .ref sa) rfl
    (g := { method := m, pc := pc + 7, locals := ls, stack := .ref sa :: .ref T.heap.size :: .ref T.heap.size :: rest, locked := none }) rfl hsize rfl rfl (rest := rest) rfl
    (by rw [hb]; exact d7) (by rw [hb]; exact d10) hout hRframes (by simp only [List.map_cons, List.sum_cons, hcat]; omega) hlocks
  obtain ⟨f1, f2⟩ := vx_frame hsame
  rw [hhp] at f1 f2
  have hWs : s.WarmedH U.vm := State.WarmedH.trans hW0 hW
  have hcl : s.vm.findClass cls = some ce.cls := by
    have h9 := hO.cls
    rw [hvm] at h9
    exact h9
  have hall : s.sameButNew ({ U with vm := s.vm } : State) locs mc ms := by
    subst hA
    obtain ⟨e1, e2⟩ := hsame
    rw [State.setFrames_setFrames] at e1
    have h2 : (T.setVm s.vm).sameButNew ({ U with vm := s.vm } : State) [] (0 + 1) (0 + 6) := ⟨e1, e2⟩
    have h3 := X.same.trans h2
    rw [List.append_nil] at h3
    exact h3.mono hc hs
  refine ⟨U, ?_, .threw T.heap.size, hrun, hend, Or.inr ⟨T.heap.size, rfl, cls, ce, locs, hx U hWs.alike f1 (fun q hq => f2 q hq (fun z hz => nomatch hz)), hce, hO.vm, hcl, hWs, hall, hf⟩⟩
  refine st1 _ ?_
  show Steps p.tables e below (T1.setTop { method := m, pc := pc + 3, locals := ls, stack := .ref T.heap.size :: rest, locked := none }) _
  jvm_step X₁.here [X₁.here.top, hexec, d3', Value.category]
  exact X₁.ldcStringW hexec (own := own) (text := text) (index := is) (a := sa) hown' hstr'.1 hstr'.2
    (g := { method := m, pc := pc + 4, locals := ls, stack := .ref T.heap.size :: .ref T.heap.size :: rest, locked := none }) rfl d4' _ hsteps
end Ends
section Bodies
variable {l : Launch}
theorem vx_ofW {y : MethodName} {ws ws' : List Cond} {rm : Room} {Pc : Array Value → State → Prop} {Qc : Array Value → State → Outcome → State → Prop} {XC : String → State → State → Prop} {mc ms : Nat} {free : Addr → Prop} {cc : ByteArray} {maxL : Nat} {ret : Option FieldType}
    (hy : plainName y.cls = true) (hw : ws = Cond.code y cc maxL ret :: ws')
    (body : ∀ p e s m args below meth c s₁, BodyLoose p l y (headSpec ws rm) cc maxL ret e s m args below meth c s₁ → c.maxLocals = maxL → (∀ x ∈ c.exceptionTable.toList, False) → Pc args s →
      W p l e (headSpec ws rm).room s m args below meth c s.heap [] 0 0 (vx_MQ below Qc XC args s mc ms free) (entryFrame m args maxL)) : vx_Met l y ws rm Pc Qc XC mc ms free := by
  refine MetFree.of_bodyS (code := cc) (maxLocals := maxL) (ret := ret) hy ?_ ?_
  · intro args s m h hn
    obtain ⟨meth, c, h1, h2, h3, h4, h5, h6, -, -⟩ := Cond.code_spec hn (atoms_spec (ws := ws) h _ (by rw [hw]; exact List.mem_cons_self))
    exact ⟨meth, c, h1, h2, h3, h4, h5, h6⟩
  · intro p e s m args below meth c s₁ B hml hP _
    have hh0 : s₁.heap = s.heap := by rw [B.state]; rfl
    have ht : ∀ x ∈ c.exceptionTable.toList, False := by
      obtain ⟨meth9, c9, h1, h2, -, -, -, -, h7, -⟩ := Cond.code_spec B.named (atoms_spec (ws := ws) B.pre _ (by rw [hw]; exact List.mem_cons_self))
      cases Option.some.inj (h1.symm.trans B.method)
      cases Option.some.inj (h2.symm.trans (Stand.of_body B).code)
      intro x hx
      rw [Array.isEmpty_iff.mp h7] at hx
      cases hx
    obtain ⟨t, a1, o, b1, b2, b3⟩ := body p e s m args below meth c s₁ B hml ht hP s₁ hh0 (Stand.of_body B)
    exact ⟨t, o, a1, b1, b2, b3⟩
/-- the table of a body with handlers -/
theorem vx_table {p : Program} {x y : MethodName} {S : Spec} {cc bytes : ByteArray} {maxL maxL' : Nat} {ret ret' : Option FieldType} {e : Env} {s s₁ : State} {m : MethodId} {args : Array Value} {below : List Frame} {meth : Method} {c : Code} {hh : List (Nat × Nat × Nat × Nat)}
    (B : BodyLoose p l y S cc maxL ret e s m args below meth c s₁) (h : (Cond.codeWith y bytes maxL' ret' hh).before args s = true) : c.exceptionTable.toList = tableOf hh := by
  obtain ⟨m9, meth9, c9, hn9, h1, h2, -, -, h6, -⟩ := Cond.codeWith_spec h
  cases Option.some.inj (hn9.symm.trans B.named)
  cases Option.some.inj (h1.symm.trans B.method)
  cases Option.some.inj (h2.symm.trans (Stand.of_body B).code)
  rw [← h6, table_eq]
end Bodies
end VXA
/-! ===== END ===== -/
/-! ===== BEGIN a static call of a method with an exception table ===== -/
section VXS
variable {p : Program} {l : Launch} {e : Env} {R : Room} {s : State} {m : MethodId} {args : Array Value} {below : List Frame} {meth : Method} {c : Code} {T : State} {H : Heap} {locs : List Loc} {cells slots : Nat}
abbrev vx_CSW (R : Room) (s : State) (args : Array Value) (own : String) (index : Nat) (y : MethodName) (bytes : ByteArray) (maxL : Nat) (ret : Option FieldType) (hh : List (Nat × Nat × Nat × Nat)) (ws : List Cond) (rm : Room) (mc ms n : Nat) : Prop :=
  (rm.cells = mc ∧ rm.slots = ms ∧ rm.frames + 1 ≤ R.frames ∧ 8 + (maxL + 11) + rm.locals ≤ R.locals ∧ (∀ w ∈ ws, ∀ (a' : Array Value) (U : State), s.WarmedH U.vm → w.before a' U = true) ∧ Cond.codeWith y bytes maxL ret hh ∈ ws) ∧
  (Cond.codeWith y bytes maxL ret hh).before args s = true ∧ (Cond.initialized y.cls).before args s = true ∧ (y.cls ≠ "java/lang/invoke/MethodHandle" ∧ y.cls ≠ "java/lang/invoke/VarHandle") ∧
  (∀ sig, parseMethodDescriptor y.desc = some sig → n = sig.parameters.length) ∧ (Cond.methodLink own index y).before args s = true ∧ (Cond.static y).before args s = true
theorem vx_cwSW {own : String} {index maxL mc ms : Nat} {y : MethodName} {bytes : ByteArray} {ret : Option FieldType} {hh : List (Nat × Nat × Nat × Nat)} {Ts ws ws' : List Cond} {rm : Room} (n : Nat) (ht : ∀ w ∈ Ts, w.before args s = true) (hT : GoodIn Ts (va_wsS own index y ws)) (hw : ws = Cond.codeWith y bytes maxL ret hh :: ws') (hrc : rm.cells = mc) (hrs : rm.slots = ms)
    (hd : y.cls ≠ "java/lang/invoke/MethodHandle" ∧ y.cls ≠ "java/lang/invoke/VarHandle" ∧ (parseMethodDescriptor y.desc).map (fun d => d.parameters.length) = some n) (hR : rm.frames + 1 ≤ R.frames ∧ 8 + (maxL + 11) + rm.locals ≤ R.locals) :
    vx_CSW R s args own index y bytes maxL ret hh ws rm mc ms n := by
  have ok : ∀ w ∈ va_wsS own index y ws, w.before args s = true := fun w h => ht w (hT w h).1
  have hG : GoodIn Ts ws := fun w h => hT w (by unfold va_wsS; exact List.mem_append_right _ h)
  have hc : Cond.codeWith y bytes maxL ret hh ∈ ws := by rw [hw]; exact List.mem_cons_self
  refine ⟨⟨hrc, hrs, hR.1, hR.2, pay_in ht hG, hc⟩, ht _ (hG _ hc).1, ok _ (by simp [va_wsS]), ⟨hd.1, hd.2.1⟩, fun sig h => ?_, ok _ (by simp [va_wsS]), ok _ (by simp [va_wsS])⟩
  have h2 := hd.2.2
  rw [h] at h2
  exact (Option.some.inj h2).symm
theorem vx_callSW (X : Stand p l e R s m args below meth c T locs cells slots) (hexec : p.tables.exec = Jvm.exec) {own : String} {index : Nat} {y : MethodName} {bytes : ByteArray} {maxL : Nat} {ret : Option FieldType} {hh : List (Nat × Nat × Nat × Nat)}
    (hown : s.vm.findClass own = some m.cls) (hlink : (Cond.methodLink own index y).before args s = true) (hstat : (Cond.static y).before args s = true) (hinit : (Cond.initialized y.cls).before args s = true)
    (hcode : (Cond.codeWith y bytes maxL ret hh).before args s = true) (hy : y.cls ≠ "java/lang/invoke/MethodHandle" ∧ y.cls ≠ "java/lang/invoke/VarHandle")
    {W9 : Nat} {Pre : Pt → Array Value → Prop} {Post : Pt → Array Value → Option Value → Pt → Prop} (hK : Back l R p e below s args y 3 W9 Pre Post)
    {g : JFrame} (hg : g.method = m) (hsize : g.locals.size = c.maxLocals) {argsL rest : List Value} (hlen : ∀ sig, parseMethodDescriptor y.desc = some sig → argsL.length = sig.parameters.length)
    (hstack : g.stack = argsL.reverse ++ rest) (hW : 2 * g.monitorRoom + (rest.map fun v => v.category).sum ≤ W9) (hdg : decode c.code g.pc = .ok (.invokestatic index, 3))
    (hpre : ∀ vm₁, s.WarmedH vm₁ → Pre ⟨T.setVm vm₁, locs, cells, slots⟩ argsL.toArray) :
    ∃ (v : Option Value) (vm₁ : Vm) (B : Pt), s.WarmedH vm₁ ∧ Stand p l e R s m args below meth c B.U B.locs B.cells B.slots ∧ Post ⟨T.setVm vm₁, locs, cells, slots⟩ argsL.toArray v B ∧
      ∀ target, Steps p.tables e below (B.U.setTop { g with pc := g.pc + 3, stack := v.toList ++ rest }) target → Steps p.tables e below (T.setTop g) target := by
  obtain ⟨mk, methM, cM, hnamed, hmethM, -, -, -, -, -, -, hsigM⟩ := Cond.codeWith_spec hcode
  have hstatic : methM.isStatic = true := Cond.static_spec hnamed hmethM hstat
  obtain ⟨kP, hkP, -⟩ := className_of_methodNamed hnamed
  have hinitP : kP.init = .initialized := Cond.initialized_spec (findClass_of_methodNamed hnamed) hkP hinit
  obtain ⟨vm₁, X₁, hstep₁⟩ := X.invokestatic hexec hown hlink hnamed hmethM hstatic hkP hinitP hy (g := g) hg (argsL := argsL) (rest := rest) (hlen _ hsigM) hstack hdg
  obtain ⟨v, B, X', hpost, hsteps⟩ := hK m meth c ⟨T.setVm vm₁, locs, cells, slots⟩ { g with stack := rest } (.invokestatic index) mk argsL.toArray X₁ hg hsize hdg hW (X₁.named hnamed) (hpre vm₁ X₁.warmed)
  exact ⟨v, vm₁, B, X₁.warmed, X', hpost, fun target h => hstep₁ _ fun acts => by rw [doInvoke_state]; exact hsteps.trans h⟩
theorem vx_runSW {y : MethodName} {bytes cc : ByteArray} {maxL nL mc ms n index : Nat} {ret : Option FieldType} {hh : List (Nat × Nat × Nat × Nat)} {ws : List Cond} {rm : Room} {Pc : Array Value → State → Prop} {Qc : Array Value → State → Outcome → State → Prop} {free : Addr → Prop} {Ts : List Cond} {own : String} {As rest : List Value} {g : JFrame}
    (S : CallFix p m c cc nL s args Ts own) (hM : Met l y ws rm Pc Qc mc ms free) (cw : vx_CSW R s args own index y bytes maxL ret hh ws rm mc ms n) (hp : PreS s H Pc As)
    (hg : g.method = m) (hn : As.length = n) (hsize : g.locals.size = nL) (hstack : g.stack = As.reverse ++ rest) (hW : 2 * g.monitorRoom + (rest.map fun v => v.category).sum ≤ 8) (hdg : decode cc g.pc = .ok (.invokestatic index, 3)) (hf : cells + mc ≤ R.cells ∧ slots + ms ≤ R.slots) :
    va_Run p l e R s m args below meth c H locs cells slots mc ms g rest (Qc As.toArray) (free) := by
  obtain ⟨⟨hrc, hrs, hfr, hlo, hws, hcw⟩, hcode, hini, hy, hlen, hl, hstt⟩ := cw
  have hK : Back l R p e below s args y 3 8 (PreOf R mc ms Pc) (PostOf Qc mc ms free) := va_backW (hh := hh) (bytes := bytes) (maxL := maxL) (ret := ret) hM hp.1 hrc hrs hfr hlo hws hcw (fun a' U hW => word_at hW (Or.inl (by first | rfl | simp [Cond.onTables, Cond.keeps, Cond.steady])) hini)
  obtain ⟨hx, hb, hml, ho, -⟩ := S
  intro T hT X
  obtain ⟨v, vm₁, ⟨U', l2, c2, s2⟩, hW₁, X', ⟨g', mk, t, L, e1, e2, hq, h1, hL, h2, h3⟩, st⟩ := vx_callSW X hx (hh := hh) (bytes := bytes) (maxL := maxL) (ret := ret) ho hl hstt hini hcode hy hK hg (hsize.trans hml.symm) (argsL := As) (rest := rest) (fun sig h => hn.trans (hlen sig h)) hstack hW (by rw [hb]; exact hdg)
    (fun vm₁ hW₁ => ⟨hf.1, hf.2, hp.2 (T.setVm vm₁) hT hW₁⟩)
  dsimp only [Pt.U, Pt.locs, Pt.cells, Pt.slots] at X' e1 e2 h1 h2 h3 st
  subst h1; subst h2; subst h3
  exact ⟨v, (T.setVm vm₁).calling g' mk As.toArray, t, U', L, hT, X', hL, e1, e2, hq, st⟩
/-- not caught here, past rows that name other classes: it goes on to the caller -/
theorem vx_outP {p : Program} {l : Launch} {e : Env} {R : Room} {s : State} {m : MethodId} {args : Array Value} {below : List Frame} {meth : Method} {c : Code} {H : Heap} {locs : List Loc} {cells slots : Nat} {free : Addr → Prop} {ls : Array Slot} {rest : List Value} {Qc : Array Value → State → Outcome → State → Prop} {XC : String → State → State → Prop}
    {pc : Nat} {own E : String} {ce : Cell} {q : Addr} {mc ms : Nat} (hown : s.vm.findClass own = some m.cls) (hlocks : meth.locks = false)
    (hpass : ∀ z ∈ c.exceptionTable.toList, covers z pc = false ∨ (z.catchType ≠ 0 ∧ ∃ nm : String, (Cond.classLink own z.catchType nm).before args s = true ∧ va_Nc E nm s)) (hcell : H[q]? = some ce) (hv : ce.vm = .none) (hcl : s.vm.findClass E = some ce.cls)
    (hx : ∀ t : State, t.heap = H → s.vm.Alike t.vm → XC E s t) (hf : ∀ z ∈ locs, free z.base) (hc : cells ≤ mc) (hs : slots ≤ ms) :
    vx_W p l e R s m args below meth c H locs cells slots (vx_MQ below Qc XC args s mc ms free) (F0 m pc ls rest) q := by
  intro T hT X
  have hpl : e.platform.magicAccessors = ({} : Platform).magicAccessors := by rw [X.admits.platform]
  obtain ⟨vm', hW', X', st⟩ := X.outThrough hlocks q (g := F0 m pc ls rest) rfl rfl rfl (cell := ce) (by rw [hT]; exact hcell) (by rw [hv]; rfl)
    (by obtain ⟨k9, h9, -⟩ := Vm.findClass_spec hcl; exact ⟨k9, h9⟩) (fun z hz => by
      rcases hpass z hz with h | ⟨hz0, nm, hl1, hn1⟩
      · exact Or.inl h
      · obtain ⟨c6, hc6, hcl6⟩ := Cond.classLink_spec hown hl1 e.platform hpl
        obtain ⟨a8, b8, h1, h2, h3⟩ := hn1
        cases Option.some.inj (h1.symm.trans hcl)
        cases Option.some.inj (h2.symm.trans hc6)
        exact Or.inr ⟨hz0, _, hcl6, h3⟩)
  obtain ⟨g₀, hfr⟩ := X'.frames_eq
  have hcell9 : ((T.setVm vm').setFrames (.throwing q :: below)).heap[q]? = some ce := by
    show T.heap[q]? = some ce
    rw [hT]; exact hcell
  have hend : Ended ((T.setVm vm').setFrames (.throwing q :: below)) below (.threw q) := State.frames_setFrames _ (State.cur_lt_of_frames hfr)
  refine ⟨(T.setVm vm').setFrames (.throwing q :: below), ?_, .threw q, X'.here.running, hend, Or.inr ⟨q, rfl, E, ce, locs, hx _ hT (X'.ends _).1.alike, hcell9, hv, hcl, (X'.ends _).1, (X'.ends _).2.mono hc hs, hf⟩⟩
  rw [X.pushThrowing_eq]
  exact st
/-- a thing of a world lies in the heap -/
theorem vx_lt {D : va_G} {cl : List vw_C} {ws : va_W} {H1 : Heap} (h : va_P D cl ws H1) {k : Nat} {q : Nat × va_E} (hk : ws[k]? = some q) : q.1 < H1.size := (h k q hk).lt
end VXS
/-! ===== END ===== -/
/-! ===== BEGIN methods with a table of their own: called by a name, returning or throwing ===== -/
section VXH
/-! vx_backW, vx_callVX, vx_callSX, vx_callVW, vx_runVW, vx_runVX, vx_runSX, vx_ofWH follow the same proofs as their sisters above (Free/Laws.lean, Shelf42/LK1.lean); vx_outP calls Shelf42/NT130.lean (outThrough). -/
section
variable {l : Launch} {R : Room} {p : Program} {e : Env} {below : List Frame} {s : State} {sargs : Array Value} {y : MethodName} {len W9 : Nat}
theorem vx_backW {ws : List Cond} {rm : Room} {Pc : Array Value → State → Prop} {Qc : Array Value → State → Outcome → State → Prop} {XC : String → State → State → Prop} {mc ms : Nat} {free : Addr → Prop} {bytes : ByteArray} {maxL : Nat} {ret : Option FieldType} {hh : List (Nat × Nat × Nat × Nat)}
    (hM : vx_Met l y ws rm Pc Qc XC mc ms free) (hblind : FrameBlind Pc) (hrc : rm.cells = mc) (hrs : rm.slots = ms)
    (hframes : rm.frames + 1 ≤ R.frames) (hlocals : W9 + (maxL + 11) + rm.locals ≤ R.locals)
    (hws : ∀ w ∈ ws, ∀ a' U, s.WarmedH U.vm → w.before a' U = true) (hcode : Cond.codeWith y bytes maxL ret hh ∈ ws) (hinit : ∀ a' U, s.WarmedH U.vm → (Cond.initialized y.cls).before a' U = true) :
    vx_Back l R p e below s sargs y len W9 (PreOf R mc ms Pc) (PostOf Qc mc ms free) (vx_Post XC mc ms free) := by
  intro m meth c A g ig mk a X hg hsize hdg hW hn hp
  have h1 : (headSpec ws rm).pre.before a A.U = true := atoms_intro fun w hw => hws w hw _ _ X.warmed
  have h2 : (Cond.codeWith y bytes maxL ret hh).before a A.U = true := hws _ hcode _ _ X.warmed
  have h3 : (Cond.initialized y.cls).before a A.U = true := hinit _ _ X.warmed
  have h4 : A.cells + (headSpec ws rm).room.cells ≤ R.cells := by rw [show (headSpec ws rm).room.cells = mc from hrc]; exact hp.1
  have h5 : A.slots + (headSpec ws rm).room.slots ≤ R.slots := by rw [show (headSpec ws rm).room.slots = ms from hrs]; exact hp.2.1
  have hPc : Pc a (A.U.calling g mk a) := hblind _ _ _ _ hp.2.2
  obtain ⟨U, Ls, c0, s0⟩ := A
  dsimp only [Pt.U, Pt.locs, Pt.cells, Pt.slots] at h1 h2 h3 h4 h5 X hn hPc ⊢
  obtain ⟨m9, methY, cY, hn9, hmY, hcY, -, hlY, -⟩ := Cond.codeWith_spec h2
  cases Option.some.inj (hn9.symm.trans hn)
  obtain ⟨kY, hkY, -⟩ := className_of_methodNamed hn
  have hinitY : kY.init = .initialized := Cond.initialized_spec (findClass_of_methodNamed hn) hkY h3
  have h : At U g.method c below := by rw [hg]; exact X.here
  have hlocals9 : W9 + (maxL + 11) + (headSpec ws rm).room.locals ≤ R.locals := hlocals
  have happ : (headSpec ws rm).appliesLoose y e.platform (U.calling g mk a) = true :=
    Spec.appliesLoose_calling (g := g) h hdg hn hkY hinitY
      (X.room_calling (g := g) (R' := (headSpec ws rm).room) hsize hmY hcY hframes (by rw [hlY]; omega) h4 h5) h1
  obtain ⟨mid, hmid⟩ := h.above
  have hfr : (U.setTop g).frames = (.java g :: mid) ++ below := by rw [State.frames_setTop' g h.top, hmid]; rfl
  obtain ⟨o, s₂, hsteps, -, hend, hq⟩ := Steps.callFree hM p X.admits X.cas X.clock (acts := []) hfr happ hPc trivial
  have hq' : vx_Q Qc XC mc ms free a (U.calling g mk a) o s₂ := hq
  rw [State.frames_setTop' g h.top] at hend
  obtain ⟨g₀, hg0⟩ := Option.isSome_iff_exists.mp h.top
  obtain ⟨r, hr⟩ := State.topJava?_eq_some.mp hg0
  have hr' : (({ U with heap := s₂.heap, slotsUsed := s₂.slotsUsed } : State).setVm s₂.vm).frames = .java g₀ :: r := hr
  rcases hq' with ⟨hqc, L, hfe, hL⟩ | ⟨q, rfl, E, ce, L, hx, hce, hcv, hcl, hW₂, hsm, hL⟩
  · obtain ⟨⟨v, rfl⟩, hW₂, e2, q2, q3, q4, q5, q6⟩ := id hfe
    have e3 : s₂ = ({ (U.calling g mk a).setFrames s₂.frames with heap := s₂.heap, slotsUsed := s₂.slotsUsed } : State).setVm s₂.vm := by
      have : s₂ = ({ s₂ with vm := (U.calling g mk a).vm } : State).setVm s₂.vm := rfl
      rw [e2] at this
      exact this
    obtain ⟨c₂, i₂, len₂, hc₂, hd₂, hf₂⟩ := hend
    have hW' : U.WarmedH s₂.vm := hW₂
    have hcc : c₂ = c := by
      have h1 : s₂.code? g.method = U.code? g.method := by
        rw [State.code?_eq, State.code?_eq, hW'.alike.method?]
      exact Option.some.inj (hc₂.symm.trans (h1.trans h.code))
    subst hcc
    have hlen : len₂ = len := by rw [hdg] at hd₂; cases hd₂; rfl
    subst hlen
    have hs₂ : s₂ = (({ U with heap := s₂.heap, slotsUsed := s₂.slotsUsed } : State).setVm s₂.vm).setTop { g with pc := g.pc + len₂, stack := v.toList ++ g.stack } := by
      refine e3.trans ?_
      rw [hf₂, State.calling_eq h.top, State.setFrames_setFrames, State.setTop_of_frames _ hr', hr]
      rfl
    have hsame : U.sameButNew ({ U with heap := s₂.heap, slotsUsed := s₂.slotsUsed } : State) L mc ms := by
      refine ⟨?_, q2, q3, q4, q5, q6⟩
      obtain ⟨t, ht, -⟩ := State.frames_cons hr
      show ({ U with heap := s₂.heap, slotsUsed := s₂.slotsUsed } : State) = { U.setFrames U.frames with heap := s₂.heap, slotsUsed := s₂.slotsUsed }
      rw [State.setFrames_self ht]
    subst hg
    refine Or.inl ⟨v, ⟨(({ U with heap := s₂.heap, slotsUsed := s₂.slotsUsed } : State).setVm s₂.vm), Ls ++ L, c0 + mc, s0 + ms⟩,
      ⟨X.admits, X.cas, X.clock, X.frames, X.room, X.hears, X.method, X.code, (X.here.setHeapUsed s₂.heap s₂.slotsUsed).setVm hW'.alike, X.tail, State.WarmedH.trans X.warmed hW', X.limits, X.bytes, X.same.trans (hsame.setVm s.vm)⟩,
      ⟨g, mk, s₂, L, rfl, rfl, hqc, rfl, hL, rfl, rfl⟩, ?_⟩
    show Steps p.tables e below _ ((({ U with heap := s₂.heap, slotsUsed := s₂.slotsUsed } : State).setVm s₂.vm).setTop { g with pc := g.pc + len₂, stack := v.toList ++ g.stack })
    rw [← hs₂]
    exact hsteps
  · obtain ⟨e2, q2, q3, q4, q5, q6⟩ := id hsm
    have e3 : s₂ = ({ (U.calling g mk a).setFrames s₂.frames with heap := s₂.heap, slotsUsed := s₂.slotsUsed } : State).setVm s₂.vm := by
      have : s₂ = ({ s₂ with vm := (U.calling g mk a).vm } : State).setVm s₂.vm := rfl
      rw [e2] at this
      exact this
    have hf₂ : s₂.frames = .throwing q :: .java g :: U.frames.tail := hend
    have hW' : U.WarmedH s₂.vm := hW₂
    have hs₂ : s₂ = ((({ U with heap := s₂.heap, slotsUsed := s₂.slotsUsed } : State).setVm s₂.vm).setTop g).pushFrame (.throwing q) := by
      refine e3.trans ?_
      rw [hf₂, State.calling_eq h.top, State.setFrames_setFrames, State.pushFrame, State.frames_setTop _ hr', State.setTop_of_frames _ hr', State.setFrames_setFrames, hr]
      rfl
    have hsame : U.sameButNew ({ U with heap := s₂.heap, slotsUsed := s₂.slotsUsed } : State) L mc ms := by
      refine ⟨?_, q2, q3, q4, q5, q6⟩
      obtain ⟨t, ht, -⟩ := State.frames_cons hr
      show ({ U with heap := s₂.heap, slotsUsed := s₂.slotsUsed } : State) = { U.setFrames U.frames with heap := s₂.heap, slotsUsed := s₂.slotsUsed }
      rw [State.setFrames_self ht]
    subst hg
    refine Or.inr ⟨q, ⟨(({ U with heap := s₂.heap, slotsUsed := s₂.slotsUsed } : State).setVm s₂.vm), Ls ++ L, c0 + mc, s0 + ms⟩,
      ⟨X.admits, X.cas, X.clock, X.frames, X.room, X.hears, X.method, X.code, (X.here.setHeapUsed s₂.heap s₂.slotsUsed).setVm hW'.alike, X.tail, State.WarmedH.trans X.warmed hW', X.limits, X.bytes, X.same.trans (hsame.setVm s.vm)⟩,
      ⟨g, mk, s₂, L, E, ce, rfl, rfl, hx, hce, hcv, hcl, rfl, hL, rfl, rfl⟩, ?_⟩
    show Steps p.tables e below _ (((({ U with heap := s₂.heap, slotsUsed := s₂.slotsUsed } : State).setVm s₂.vm).setTop g).pushFrame (.throwing q))
    rw [← hs₂]
    exact hsteps
end
variable {p : Program} {l : Launch} {e : Env} {R : Room} {s : State} {m : MethodId} {args : Array Value} {below : List Frame} {meth : Method} {c : Code} {T : State} {H : Heap} {locs : List Loc} {cells slots : Nat}
theorem vx_callVX (X : Stand p l e R s m args below meth c T locs cells slots) (hexec : p.tables.exec = Jvm.exec) {own C : String} {index : Nat} {y : MethodName} {bytes : ByteArray} {maxL : Nat} {ret : Option FieldType} {hh : List (Nat × Nat × Nat × Nat)}
    (hown : s.vm.findClass own = some m.cls) (hlink : (Cond.methodLink own index y).before args s = true) (hinst : (Cond.instanceMethod y).before args s = true) (hsel : (Cond.selects C y y).before args s = true)
    (hcode : (Cond.codeWith y bytes maxL ret hh).before args s = true) (hy : y.cls ≠ "java/lang/invoke/MethodHandle" ∧ y.cls ≠ "java/lang/invoke/VarHandle")
    {W9 : Nat} {Pre : Pt → Array Value → Prop} {Post : Pt → Array Value → Option Value → Pt → Prop} {PostX : Pt → Array Value → Addr → Pt → Prop} (hK : vx_Back l R p e below s args y 3 W9 Pre Post PostX)
    {b : Addr} {cellB : Cell} (hcell : T.heap[b]? = some cellB) (hobj : cellB.vm.isStatics = false) (hcls : s.vm.findClass C = some cellB.cls)
    {g : JFrame} (hg : g.method = m) (hsize : g.locals.size = c.maxLocals) {argsL rest : List Value} (hlen : ∀ sig, parseMethodDescriptor y.desc = some sig → argsL.length = sig.parameters.length)
    (hstack : g.stack = argsL.reverse ++ .ref b :: rest) (hW : 2 * g.monitorRoom + (rest.map fun v => v.category).sum ≤ W9) (hdg : decode c.code g.pc = .ok (.invokevirtual index, 3))
    (hpre : ∀ vm₁, s.WarmedH vm₁ → Pre ⟨T.setVm vm₁, locs, cells, slots⟩ (Value.ref b :: argsL).toArray) :
    (∃ (v : Option Value) (vm₁ : Vm) (B : Pt), s.WarmedH vm₁ ∧ Stand p l e R s m args below meth c B.U B.locs B.cells B.slots ∧ Post ⟨T.setVm vm₁, locs, cells, slots⟩ (Value.ref b :: argsL).toArray v B ∧
      ∀ target, Steps p.tables e below (B.U.setTop { g with pc := g.pc + 3, stack := v.toList ++ rest }) target → Steps p.tables e below (T.setTop g) target) ∨
    (∃ (q : Addr) (vm₁ : Vm) (B : Pt), s.WarmedH vm₁ ∧ Stand p l e R s m args below meth c B.U B.locs B.cells B.slots ∧ PostX ⟨T.setVm vm₁, locs, cells, slots⟩ (Value.ref b :: argsL).toArray q B ∧
      Steps p.tables e below (T.setTop g) ((B.U.setTop { g with stack := rest }).pushFrame (.throwing q))) := by
  obtain ⟨mk, methM, hnamed, hmethM, hstM, habM⟩ := Cond.instanceMethod_spec hinst
  obtain ⟨m8, methM', cM, hn8, hmethM', -, -, -, -, -, -, hsigM⟩ := Cond.codeWith_spec hcode
  cases Option.some.inj (hn8.symm.trans hnamed)
  cases hmethM.symm.trans hmethM'
  obtain ⟨c2, r2, m2, q1, q2, q3, q4, kP, hkP, hkPi⟩ := Cond.selects_spec hsel
  cases hcls.symm.trans q1
  cases (State.methodFound?_of_named hnamed hy).symm.trans q2
  cases hnamed.symm.trans q3
  have hselP : selectMethod e.platform s.vm cellB.cls mk = .method mk := by rw [Launch.admits_selectMethod X.admits]; exact q4
  obtain ⟨vm₁, X₁, hstep₁⟩ := X.invokevirtual hexec hown hlink hnamed hmethM hstM hkP hkPi hy (a := b) (cell := cellB) hcell
    (fun z h => by rw [h] at hobj; cases hobj) hselP hmethM habM hkP hkPi (g := g) hg (argsL := argsL) (rest := rest) (hlen _ hsigM) hstack hdg
  rcases hK m meth c ⟨T.setVm vm₁, locs, cells, slots⟩ { g with stack := rest } (.invokevirtual index) mk (Value.ref b :: argsL).toArray X₁ hg hsize hdg hW (X₁.named hnamed) (hpre vm₁ X₁.warmed) with ⟨v, B, X', hpost, hsteps⟩ | ⟨q, B, X', hpost, hsteps⟩
  · exact Or.inl ⟨v, vm₁, B, X₁.warmed, X', hpost, fun target h => hstep₁ _ fun acts => by rw [doInvoke_state]; exact hsteps.trans h⟩
  · exact Or.inr ⟨q, vm₁, B, X₁.warmed, X', hpost, hstep₁ _ fun acts => by rw [doInvoke_state]; exact hsteps⟩
theorem vx_callSX (X : Stand p l e R s m args below meth c T locs cells slots) (hexec : p.tables.exec = Jvm.exec) {own : String} {index : Nat} {y : MethodName} {bytes : ByteArray} {maxL : Nat} {ret : Option FieldType} {hh : List (Nat × Nat × Nat × Nat)}
    (hown : s.vm.findClass own = some m.cls) (hlink : (Cond.methodLink own index y).before args s = true) (hstat : (Cond.static y).before args s = true) (hinit : (Cond.initialized y.cls).before args s = true)
    (hcode : (Cond.codeWith y bytes maxL ret hh).before args s = true) (hy : y.cls ≠ "java/lang/invoke/MethodHandle" ∧ y.cls ≠ "java/lang/invoke/VarHandle")
    {W9 : Nat} {Pre : Pt → Array Value → Prop} {Post : Pt → Array Value → Option Value → Pt → Prop} {PostX : Pt → Array Value → Addr → Pt → Prop} (hK : vx_Back l R p e below s args y 3 W9 Pre Post PostX)
    {g : JFrame} (hg : g.method = m) (hsize : g.locals.size = c.maxLocals) {argsL rest : List Value} (hlen : ∀ sig, parseMethodDescriptor y.desc = some sig → argsL.length = sig.parameters.length)
    (hstack : g.stack = argsL.reverse ++ rest) (hW : 2 * g.monitorRoom + (rest.map fun v => v.category).sum ≤ W9) (hdg : decode c.code g.pc = .ok (.invokestatic index, 3))
    (hpre : ∀ vm₁, s.WarmedH vm₁ → Pre ⟨T.setVm vm₁, locs, cells, slots⟩ argsL.toArray) :
    (∃ (v : Option Value) (vm₁ : Vm) (B : Pt), s.WarmedH vm₁ ∧ Stand p l e R s m args below meth c B.U B.locs B.cells B.slots ∧ Post ⟨T.setVm vm₁, locs, cells, slots⟩ argsL.toArray v B ∧
      ∀ target, Steps p.tables e below (B.U.setTop { g with pc := g.pc + 3, stack := v.toList ++ rest }) target → Steps p.tables e below (T.setTop g) target) ∨
    (∃ (q : Addr) (vm₁ : Vm) (B : Pt), s.WarmedH vm₁ ∧ Stand p l e R s m args below meth c B.U B.locs B.cells B.slots ∧ PostX ⟨T.setVm vm₁, locs, cells, slots⟩ argsL.toArray q B ∧
      Steps p.tables e below (T.setTop g) ((B.U.setTop { g with stack := rest }).pushFrame (.throwing q))) := by
  obtain ⟨mk, methM, cM, hnamed, hmethM, -, -, -, -, -, -, hsigM⟩ := Cond.codeWith_spec hcode
  have hstatic : methM.isStatic = true := Cond.static_spec hnamed hmethM hstat
  obtain ⟨kP, hkP, -⟩ := className_of_methodNamed hnamed
  have hinitP : kP.init = .initialized := Cond.initialized_spec (findClass_of_methodNamed hnamed) hkP hinit
  obtain ⟨vm₁, X₁, hstep₁⟩ := X.invokestatic hexec hown hlink hnamed hmethM hstatic hkP hinitP hy (g := g) hg (argsL := argsL) (rest := rest) (hlen _ hsigM) hstack hdg
  rcases hK m meth c ⟨T.setVm vm₁, locs, cells, slots⟩ { g with stack := rest } (.invokestatic index) mk argsL.toArray X₁ hg hsize hdg hW (X₁.named hnamed) (hpre vm₁ X₁.warmed) with ⟨v, B, X', hpost, hsteps⟩ | ⟨q, B, X', hpost, hsteps⟩
  · exact Or.inl ⟨v, vm₁, B, X₁.warmed, X', hpost, fun target h => hstep₁ _ fun acts => by rw [doInvoke_state]; exact hsteps.trans h⟩
  · exact Or.inr ⟨q, vm₁, B, X₁.warmed, X', hpost, hstep₁ _ fun acts => by rw [doInvoke_state]; exact hsteps⟩
theorem vx_callVW (X : Stand p l e R s m args below meth c T locs cells slots) (hexec : p.tables.exec = Jvm.exec) {own C : String} {index : Nat} {y : MethodName} {bytes : ByteArray} {maxL : Nat} {ret : Option FieldType} {hh : List (Nat × Nat × Nat × Nat)}
    (hown : s.vm.findClass own = some m.cls) (hlink : (Cond.methodLink own index y).before args s = true) (hinst : (Cond.instanceMethod y).before args s = true) (hsel : (Cond.selects C y y).before args s = true)
    (hcode : (Cond.codeWith y bytes maxL ret hh).before args s = true) (hy : y.cls ≠ "java/lang/invoke/MethodHandle" ∧ y.cls ≠ "java/lang/invoke/VarHandle")
    {W9 : Nat} {Pre : Pt → Array Value → Prop} {Post : Pt → Array Value → Option Value → Pt → Prop} (hK : Back l R p e below s args y 3 W9 Pre Post)
    {b : Addr} {cellB : Cell} (hcell : T.heap[b]? = some cellB) (hobj : cellB.vm.isStatics = false) (hcls : s.vm.findClass C = some cellB.cls)
    {g : JFrame} (hg : g.method = m) (hsize : g.locals.size = c.maxLocals) {argsL rest : List Value} (hlen : ∀ sig, parseMethodDescriptor y.desc = some sig → argsL.length = sig.parameters.length)
    (hstack : g.stack = argsL.reverse ++ .ref b :: rest) (hW : 2 * g.monitorRoom + (rest.map fun v => v.category).sum ≤ W9) (hdg : decode c.code g.pc = .ok (.invokevirtual index, 3))
    (hpre : ∀ vm₁, s.WarmedH vm₁ → Pre ⟨T.setVm vm₁, locs, cells, slots⟩ (Value.ref b :: argsL).toArray) :
    ∃ (v : Option Value) (vm₁ : Vm) (B : Pt), s.WarmedH vm₁ ∧ Stand p l e R s m args below meth c B.U B.locs B.cells B.slots ∧ Post ⟨T.setVm vm₁, locs, cells, slots⟩ (Value.ref b :: argsL).toArray v B ∧
      ∀ target, Steps p.tables e below (B.U.setTop { g with pc := g.pc + 3, stack := v.toList ++ rest }) target → Steps p.tables e below (T.setTop g) target := by
  obtain ⟨mk, methM, hnamed, hmethM, hstM, habM⟩ := Cond.instanceMethod_spec hinst
  obtain ⟨m8, methM', cM, hn8, hmethM', -, -, -, -, -, -, hsigM⟩ := Cond.codeWith_spec hcode
  cases Option.some.inj (hn8.symm.trans hnamed)
  cases hmethM.symm.trans hmethM'
  obtain ⟨c2, r2, m2, q1, q2, q3, q4, kP, hkP, hkPi⟩ := Cond.selects_spec hsel
  cases hcls.symm.trans q1
  cases (State.methodFound?_of_named hnamed hy).symm.trans q2
  cases hnamed.symm.trans q3
  have hselP : selectMethod e.platform s.vm cellB.cls mk = .method mk := by rw [Launch.admits_selectMethod X.admits]; exact q4
  obtain ⟨vm₁, X₁, hstep₁⟩ := X.invokevirtual hexec hown hlink hnamed hmethM hstM hkP hkPi hy (a := b) (cell := cellB) hcell
    (fun z h => by rw [h] at hobj; cases hobj) hselP hmethM habM hkP hkPi (g := g) hg (argsL := argsL) (rest := rest) (hlen _ hsigM) hstack hdg
  obtain ⟨v, B, X', hpost, hsteps⟩ := hK m meth c ⟨T.setVm vm₁, locs, cells, slots⟩ { g with stack := rest } (.invokevirtual index) mk (Value.ref b :: argsL).toArray X₁ hg hsize hdg hW (X₁.named hnamed) (hpre vm₁ X₁.warmed)
  exact ⟨v, vm₁, B, X₁.warmed, X', hpost, fun target h => hstep₁ _ fun acts => by rw [doInvoke_state]; exact hsteps.trans h⟩
abbrev vx_CVW (R : Room) (s : State) (args : Array Value) (own C : String) (index : Nat) (y : MethodName) (bytes : ByteArray) (maxL : Nat) (ret : Option FieldType) (hh : List (Nat × Nat × Nat × Nat)) (ws : List Cond) (rm : Room) (mc ms n : Nat) : Prop :=
  (rm.cells = mc ∧ rm.slots = ms ∧ rm.frames + 1 ≤ R.frames ∧ 8 + (maxL + 11) + rm.locals ≤ R.locals ∧ (∀ w ∈ ws, ∀ (a' : Array Value) (U : State), s.WarmedH U.vm → w.before a' U = true) ∧ Cond.codeWith y bytes maxL ret hh ∈ ws) ∧
  (Cond.codeWith y bytes maxL ret hh).before args s = true ∧ (Cond.initialized y.cls).before args s = true ∧ (y.cls ≠ "java/lang/invoke/MethodHandle" ∧ y.cls ≠ "java/lang/invoke/VarHandle") ∧
  (∀ sig, parseMethodDescriptor y.desc = some sig → n = sig.parameters.length) ∧ (Cond.methodLink own index y).before args s = true ∧ (Cond.instanceMethod y).before args s = true ∧ (Cond.selects C y y).before args s = true
theorem vx_cwVW {own C : String} {index maxL mc ms : Nat} {y : MethodName} {bytes : ByteArray} {ret : Option FieldType} {hh : List (Nat × Nat × Nat × Nat)} {Ts ws ws' : List Cond} {rm : Room} (n : Nat) (ht : ∀ w ∈ Ts, w.before args s = true) (hT : GoodIn Ts (wsV own index C y ws)) (hw : ws = Cond.codeWith y bytes maxL ret hh :: ws') (hrc : rm.cells = mc) (hrs : rm.slots = ms)
    (hd : y.cls = C ∧ y.cls ≠ "java/lang/invoke/MethodHandle" ∧ y.cls ≠ "java/lang/invoke/VarHandle" ∧ (parseMethodDescriptor y.desc).map (fun d => d.parameters.length) = some n) (hR : rm.frames + 1 ≤ R.frames ∧ 8 + (maxL + 11) + rm.locals ≤ R.locals) :
    vx_CVW R s args own C index y bytes maxL ret hh ws rm mc ms n := by
  obtain ⟨hC, hd⟩ := hd
  subst hC
  have ok : ∀ w ∈ wsV own index y.cls y ws, w.before args s = true := fun w h => ht w (hT w h).1
  have hG : GoodIn Ts ws := fun w h => hT w (by unfold wsV; exact List.mem_append_right _ h)
  have hc : Cond.codeWith y bytes maxL ret hh ∈ ws := by rw [hw]; exact List.mem_cons_self
  refine ⟨⟨hrc, hrs, hR.1, hR.2, pay_in ht hG, hc⟩, ht _ (hG _ hc).1, ok _ (by simp [wsV]), ⟨hd.1, hd.2.1⟩, fun sig h => ?_, ok _ (by simp [wsV]), ok _ (by simp [wsV]), ok _ (by simp [wsV])⟩
  have h2 := hd.2.2
  rw [h] at h2
  exact (Option.some.inj h2).symm
theorem vx_runVW {y : MethodName} {bytes cc : ByteArray} {maxL nL mc ms n index : Nat} {ret : Option FieldType} {hh : List (Nat × Nat × Nat × Nat)} {ws : List Cond} {rm : Room} {Pc : Array Value → State → Prop} {Qc : Array Value → State → Outcome → State → Prop} {free : Addr → Prop} {Ts : List Cond} {own C : String} {b : Addr} {As rest : List Value} {g : JFrame}
    (S : CallFix p m c cc nL s args Ts own) (hM : Met l y ws rm Pc Qc mc ms free) (cw : vx_CVW R s args own C index y bytes maxL ret hh ws rm mc ms n) (hp : PreV s H C b Pc As)
    (hg : g.method = m) (hn : As.length = n) (hsize : g.locals.size = nL) (hstack : g.stack = As.reverse ++ .ref b :: rest) (hW : 2 * g.monitorRoom + (rest.map fun v => v.category).sum ≤ 8) (hdg : decode cc g.pc = .ok (.invokevirtual index, 3)) (hf : cells + mc ≤ R.cells ∧ slots + ms ≤ R.slots) :
    va_Run p l e R s m args below meth c H locs cells slots mc ms g rest (Qc (Value.ref b :: As).toArray) free := by
  obtain ⟨⟨hrc, hrs, hfr, hlo, hws, hcw⟩, hcode, hini, hy, hlen, hl, hin, hse⟩ := cw
  have hK : Back l R p e below s args y 3 8 (PreOf R mc ms Pc) (PostOf Qc mc ms free) := va_backW (hh := hh) (bytes := bytes) (maxL := maxL) (ret := ret) hM hp.1 hrc hrs hfr hlo hws hcw (fun a' U hW => word_at hW (Or.inl (by first | rfl | simp [Cond.onTables, Cond.keeps, Cond.steady])) hini)
  obtain ⟨hx, hb, hml, ho, -⟩ := S
  obtain ⟨-, ⟨cellB, hcB, hoB, hclB⟩, hPc⟩ := hp
  intro T hT X
  obtain ⟨v, vm₁, ⟨U', l2, c2, s2⟩, hW₁, X', ⟨g', mk, t, L, e1, e2, hq, h1, hL, h2, h3⟩, st⟩ := vx_callVW X hx (C := C) (hh := hh) (bytes := bytes) (maxL := maxL) (ret := ret) ho hl hin hse hcode hy hK (by rw [hT]; exact hcB) hoB hclB hg (hsize.trans hml.symm) (argsL := As) (rest := rest) (fun sig h => hn.trans (hlen sig h)) hstack hW (by rw [hb]; exact hdg)
    (fun vm₁ hW₁ => ⟨hf.1, hf.2, hPc (T.setVm vm₁) hT hW₁⟩)
  dsimp only [Pt.U, Pt.locs, Pt.cells, Pt.slots] at X' e1 e2 h1 h2 h3 st
  subst h1; subst h2; subst h3
  exact ⟨v, (T.setVm vm₁).calling g' mk (Value.ref b :: As).toArray, t, U', L, hT, X', hL, e1, e2, hq, st⟩
section
variable {y : MethodName} {bytes cc : ByteArray} {maxL nL mc ms n index : Nat} {ret : Option FieldType} {ws : List Cond} {rm : Room} {Pc : Array Value → State → Prop} {Qc : Array Value → State → Outcome → State → Prop} {XC : String → State → State → Prop} {free : Addr → Prop} {Ts : List Cond} {own C : String} {b : Addr} {As rest : List Value} {g : JFrame}
theorem vx_runVX {hh : List (Nat × Nat × Nat × Nat)} (S : CallFix p m c cc nL s args Ts own) (hM : vx_Met l y ws rm Pc Qc XC mc ms free) (cw : vx_CVW R s args own C index y bytes maxL ret hh ws rm mc ms n) (hp : PreV s H C b Pc As)
    (hg : g.method = m) (hn : As.length = n) (hsize : g.locals.size = nL) (hstack : g.stack = As.reverse ++ .ref b :: rest) (hW : 2 * g.monitorRoom + (rest.map fun v => v.category).sum ≤ 8) (hdg : decode cc g.pc = .ok (.invokevirtual index, 3)) (hf : cells + mc ≤ R.cells ∧ slots + ms ≤ R.slots) :
    vx_Run p l e R s m args below meth c H locs cells slots mc ms g rest (Qc (Value.ref b :: As).toArray) XC free := by
  obtain ⟨⟨hrc, hrs, hfr, hlo, hws, hcw⟩, hcode, hini, hy, hlen, hl, hin, hse⟩ := cw
  have hK : vx_Back l R p e below s args y 3 8 (PreOf R mc ms Pc) (PostOf Qc mc ms free) (vx_Post XC mc ms free) := vx_backW (hh := hh) (bytes := bytes) (maxL := maxL) (ret := ret) hM hp.1 hrc hrs hfr hlo hws hcw (fun a' U hW => word_at hW (Or.inl (by first | rfl | simp [Cond.onTables, Cond.keeps, Cond.steady])) hini)
  obtain ⟨hx, hb, hml, ho, -⟩ := S
  obtain ⟨-, ⟨cellB, hcB, hoB, hclB⟩, hPc⟩ := hp
  intro T hT X
  rcases vx_callVX X hx (C := C) (hh := hh) (bytes := bytes) (maxL := maxL) (ret := ret) ho hl hin hse hcode hy hK (by rw [hT]; exact hcB) hoB hclB hg (hsize.trans hml.symm) (argsL := As) (rest := rest) (fun sig h => hn.trans (hlen sig h)) hstack hW (by rw [hb]; exact hdg)
    (fun vm₁ hW₁ => ⟨hf.1, hf.2, hPc (T.setVm vm₁) hT hW₁⟩) with ⟨v, vm₁, ⟨U', l2, c2, s2⟩, hW₁, X', ⟨g', mk, t, L, e1, e2, hq, h1, hL, h2, h3⟩, st⟩ | ⟨q, vm₁, ⟨U', l2, c2, s2⟩, hW₁, X', ⟨g', mk, t, L, E, ce, e1, e2, hq, hce, hcv, hcl, h1, hL, h2, h3⟩, st⟩
  · dsimp only [Pt.U, Pt.locs, Pt.cells, Pt.slots] at X' e1 e2 h1 h2 h3 st
    subst h1; subst h2; subst h3
    exact Or.inl ⟨v, (T.setVm vm₁).calling g' mk (Value.ref b :: As).toArray, t, U', L, hT, X', hL, e1, e2, hq, st⟩
  · dsimp only [Pt.U, Pt.locs, Pt.cells, Pt.slots] at X' e1 e2 h1 h2 h3 st hcl
    subst h1; subst h2; subst h3
    exact Or.inr ⟨q, (T.setVm vm₁).calling g' mk (Value.ref b :: As).toArray, t, U', L, E, ce, hT, X', hL, e1, e2, hq, hce, hcv, vx_cls hW₁ hcl, st⟩
theorem vx_runSX {hh : List (Nat × Nat × Nat × Nat)} (S : CallFix p m c cc nL s args Ts own) (hM : vx_Met l y ws rm Pc Qc XC mc ms free) (cw : vx_CSW R s args own index y bytes maxL ret hh ws rm mc ms n) (hp : PreS s H Pc As)
    (hg : g.method = m) (hn : As.length = n) (hsize : g.locals.size = nL) (hstack : g.stack = As.reverse ++ rest) (hW : 2 * g.monitorRoom + (rest.map fun v => v.category).sum ≤ 8) (hdg : decode cc g.pc = .ok (.invokestatic index, 3)) (hf : cells + mc ≤ R.cells ∧ slots + ms ≤ R.slots) :
    vx_Run p l e R s m args below meth c H locs cells slots mc ms g rest (Qc As.toArray) XC free := by
  obtain ⟨⟨hrc, hrs, hfr, hlo, hws, hcw⟩, hcode, hini, hy, hlen, hl, hstt⟩ := cw
  have hK : vx_Back l R p e below s args y 3 8 (PreOf R mc ms Pc) (PostOf Qc mc ms free) (vx_Post XC mc ms free) := vx_backW (hh := hh) (bytes := bytes) (maxL := maxL) (ret := ret) hM hp.1 hrc hrs hfr hlo hws hcw (fun a' U hW => word_at hW (Or.inl (by first | rfl | simp [Cond.onTables, Cond.keeps, Cond.steady])) hini)
  obtain ⟨hx, hb, hml, ho, -⟩ := S
  intro T hT X
  rcases vx_callSX X hx (hh := hh) (bytes := bytes) (maxL := maxL) (ret := ret) ho hl hstt hini hcode hy hK hg (hsize.trans hml.symm) (argsL := As) (rest := rest) (fun sig h => hn.trans (hlen sig h)) hstack hW (by rw [hb]; exact hdg)
    (fun vm₁ hW₁ => ⟨hf.1, hf.2, hp.2 (T.setVm vm₁) hT hW₁⟩) with ⟨v, vm₁, ⟨U', l2, c2, s2⟩, hW₁, X', ⟨g', mk, t, L, e1, e2, hq, h1, hL, h2, h3⟩, st⟩ | ⟨q, vm₁, ⟨U', l2, c2, s2⟩, hW₁, X', ⟨g', mk, t, L, E, ce, e1, e2, hq, hce, hcv, hcl, h1, hL, h2, h3⟩, st⟩
  · dsimp only [Pt.U, Pt.locs, Pt.cells, Pt.slots] at X' e1 e2 h1 h2 h3 st
    subst h1; subst h2; subst h3
    exact Or.inl ⟨v, (T.setVm vm₁).calling g' mk As.toArray, t, U', L, hT, X', hL, e1, e2, hq, st⟩
  · dsimp only [Pt.U, Pt.locs, Pt.cells, Pt.slots] at X' e1 e2 h1 h2 h3 st hcl
    subst h1; subst h2; subst h3
    exact Or.inr ⟨q, (T.setVm vm₁).calling g' mk As.toArray, t, U', L, E, ce, hT, X', hL, e1, e2, hq, hce, hcv, vx_cls hW₁ hcl, st⟩
end
end VXH
theorem vx_ofWH {l : Launch} {y : MethodName} {ws ws' : List Cond} {rm : Room} {Pc : Array Value → State → Prop} {Qc : Array Value → State → Outcome → State → Prop} {XC : String → State → State → Prop} {mc ms : Nat} {free : Addr → Prop} {cc : ByteArray} {maxL : Nat} {ret : Option FieldType} {hh : List (Nat × Nat × Nat × Nat)}
    (hy : plainName y.cls = true) (hw : ws = Cond.codeWith y cc maxL ret hh :: ws')
    (body : ∀ p e s m args below meth c s₁, BodyLoose p l y (headSpec ws rm) cc maxL ret e s m args below meth c s₁ → c.maxLocals = maxL → Pc args s →
      W p l e (headSpec ws rm).room s m args below meth c s.heap [] 0 0 (vx_MQ below Qc XC args s mc ms free) (entryFrame m args maxL)) : vx_Met l y ws rm Pc Qc XC mc ms free := by
  refine MetFree.of_bodyS (code := cc) (maxLocals := maxL) (ret := ret) hy ?_ ?_
  · intro args s m h hn
    obtain ⟨m9, meth, c, hn9, h1, h2, h3, h4, -, h5, h6, -⟩ := Cond.codeWith_spec (atoms_spec (ws := ws) h _ (by rw [hw]; exact List.mem_cons_self))
    cases hn.symm.trans hn9
    exact ⟨meth, c, h1, h2, h3, h4, h5, h6⟩
  · intro p e s m args below meth c s₁ B hml hP _
    have hh0 : s₁.heap = s.heap := by rw [B.state]; rfl
    obtain ⟨t, a1, o, b1, b2, b3⟩ := body p e s m args below meth c s₁ B hml hP s₁ hh0 (Stand.of_body B)
    exact ⟨t, o, a1, b1, b2, b3⟩
/-! ===== END ===== -/

/-! ===== BEGIN printed: names, fields, word lists, decode rows ===== -/
def RX0 : String := "SalonBook$Diary"
def TX0 : u_T := fun k => match k with
  | 0 => ("SalonBook$Diary", "visitAt", "[I", true)
  | _ => ("SalonBook$Diary", "takenBefore", "[I", true)
def tyX0 : Nat → FieldType := fun k => match k with
  | 0 => .array .int
  | _ => .array .int
abbrev wsX00 : List Cond := u_ws RX0 TX0 2
theorem nmX0 : ∀ a, a < 2 → ∀ b, b < 2 → a ≠ b → (TX0 a).2.1 ≠ (TX0 b).2.1 := by decide +kernel
theorem tyX0_ok : ∀ k, k < 2 → parseFieldDescriptor (TX0 k).2.2.1 = some (tyX0 k) := by decide +kernel
abbrev cX0_init : ByteArray := prog_2_method_1_code
def yX0_init : MethodName := ⟨RX0, "<init>", "()V"⟩
abbrev cX0_at : ByteArray := prog_2_method_2_code
def yX0_at : MethodName := ⟨RX0, "at", "(I)I"⟩
abbrev cX0_isFree : ByteArray := prog_2_method_3_code
def yX0_isFree : MethodName := ⟨RX0, "isFree", "(II)Z"⟩
abbrev cX0_write : ByteArray := prog_2_method_4_code
def yX0_write : MethodName := ⟨RX0, "write", "(III)V"⟩
def RX1 : String := "SalonBook$Member"
def TX1 : u_T := fun k => match k with
  | 0 => ("SalonBook$Member", "skills", "I", true)
  | 1 => ("SalonBook$Member", "from", "I", true)
  | 2 => ("SalonBook$Member", "to", "I", true)
  | _ => ("SalonBook$Member", "diary", "LSalonBook$Diary;", true)
def tyX1 : Nat → FieldType := fun k => match k with
  | 0 => .int
  | 1 => .int
  | 2 => .int
  | _ => .object "SalonBook$Diary"
abbrev wsX10 : List Cond := u_ws RX1 TX1 4
theorem nmX1 : ∀ a, a < 4 → ∀ b, b < 4 → a ≠ b → (TX1 a).2.1 ≠ (TX1 b).2.1 := by decide +kernel
theorem tyX1_ok : ∀ k, k < 4 → parseFieldDescriptor (TX1 k).2.2.1 = some (tyX1 k) := by decide +kernel
abbrev cX1_init : ByteArray := prog_3_method_1_code
def yX1_init : MethodName := ⟨RX1, "<init>", "(III)V"⟩
abbrev cX1_canTake : ByteArray := prog_3_method_2_code
def yX1_canTake : MethodName := ⟨RX1, "canTake", "(LSalonBook$Service;I)Z"⟩
def RX2 : String := "SalonBook$MinuteSet"
def TX2 : u_T := fun k => match k with
  | _ => ("SalonBook$MinuteSet", "held", "[Z", true)
def tyX2 : Nat → FieldType := fun k => match k with
  | _ => .array .boolean
abbrev wsX20 : List Cond := u_ws RX2 TX2 1
theorem nmX2 : ∀ a, a < 1 → ∀ b, b < 1 → a ≠ b → (TX2 a).2.1 ≠ (TX2 b).2.1 := by decide +kernel
theorem tyX2_ok : ∀ k, k < 1 → parseFieldDescriptor (TX2 k).2.2.1 = some (tyX2 k) := by decide +kernel
abbrev cX2_init : ByteArray := prog_4_method_1_code
def yX2_init : MethodName := ⟨RX2, "<init>", "()V"⟩
abbrev cX2_clear : ByteArray := prog_4_method_2_code
def yX2_clear : MethodName := ⟨RX2, "clear", "()V"⟩
abbrev cX2_add : ByteArray := prog_4_method_3_code
def yX2_add : MethodName := ⟨RX2, "add", "(I)V"⟩
abbrev cX2_has : ByteArray := prog_4_method_4_code
def yX2_has : MethodName := ⟨RX2, "has", "(I)Z"⟩
def RX3 : String := "SalonBook$Request"
def TX3 : u_T := fun k => match k with
  | 0 => ("SalonBook$Request", "service", "LSalonBook$Service;", true)
  | _ => ("SalonBook$Request", "latest", "I", true)
def tyX3 : Nat → FieldType := fun k => match k with
  | 0 => .object "SalonBook$Service"
  | _ => .int
abbrev wsX30 : List Cond := u_ws RX3 TX3 2
theorem nmX3 : ∀ a, a < 2 → ∀ b, b < 2 → a ≠ b → (TX3 a).2.1 ≠ (TX3 b).2.1 := by decide +kernel
theorem tyX3_ok : ∀ k, k < 2 → parseFieldDescriptor (TX3 k).2.2.1 = some (tyX3 k) := by decide +kernel
abbrev cX3_init : ByteArray := prog_5_method_1_code
def yX3_init : MethodName := ⟨RX3, "<init>", "(LSalonBook$Service;I)V"⟩
def RX4 : String := "SalonBook$Service"
def TX4 : u_T := fun k => match k with
  | 0 => ("SalonBook$Service", "number", "I", true)
  | 1 => ("SalonBook$Service", "stepSkills", "[I", true)
  | 2 => ("SalonBook$Service", "stepStarts", "[I", true)
  | 3 => ("SalonBook$Service", "stepEnds", "[I", true)
  | 4 => ("SalonBook$Service", "steps", "I", false)
  | 5 => ("SalonBook$Service", "length", "I", false)
  | 6 => ("SalonBook$Service", "work", "I", false)
  | 7 => ("SalonBook$Service", "skills", "I", false)
  | _ => ("SalonBook$Service", "fixed", "Z", false)
def tyX4 : Nat → FieldType := fun k => match k with
  | 0 => .int
  | 1 => .array .int
  | 2 => .array .int
  | 3 => .array .int
  | 4 => .int
  | 5 => .int
  | 6 => .int
  | 7 => .int
  | _ => .boolean
abbrev wsX40 : List Cond := u_ws RX4 TX4 9
theorem nmX4 : ∀ a, a < 9 → ∀ b, b < 9 → a ≠ b → (TX4 a).2.1 ≠ (TX4 b).2.1 := by decide +kernel
theorem tyX4_ok : ∀ k, k < 9 → parseFieldDescriptor (TX4 k).2.2.1 = some (tyX4 k) := by decide +kernel
abbrev cX4_init : ByteArray := prog_6_method_1_code
def yX4_init : MethodName := ⟨RX4, "<init>", "(I)V"⟩
abbrev cX4_append : ByteArray := prog_6_method_2_code
def yX4_append : MethodName := ⟨RX4, "append", "(II)V"⟩
abbrev cX4_isRest : ByteArray := prog_6_method_3_code
def yX4_isRest : MethodName := ⟨RX4, "isRest", "(I)Z"⟩
abbrev cX4_stepFrom : ByteArray := prog_6_method_4_code
def yX4_stepFrom : MethodName := ⟨RX4, "stepFrom", "(I)I"⟩
abbrev cX4_stepTo : ByteArray := prog_6_method_5_code
def yX4_stepTo : MethodName := ⟨RX4, "stepTo", "(I)I"⟩
def RX5 : String := "SalonBook$Visit"
def TX5 : u_T := fun k => match k with
  | 0 => ("SalonBook$Visit", "number", "I", true)
  | 1 => ("SalonBook$Visit", "service", "LSalonBook$Service;", true)
  | 2 => ("SalonBook$Visit", "staff", "I", false)
  | 3 => ("SalonBook$Visit", "chair", "I", false)
  | _ => ("SalonBook$Visit", "start", "I", false)
def tyX5 : Nat → FieldType := fun k => match k with
  | 0 => .int
  | 1 => .object "SalonBook$Service"
  | 2 => .int
  | 3 => .int
  | _ => .int
abbrev wsX50 : List Cond := u_ws RX5 TX5 5
theorem nmX5 : ∀ a, a < 5 → ∀ b, b < 5 → a ≠ b → (TX5 a).2.1 ≠ (TX5 b).2.1 := by decide +kernel
theorem tyX5_ok : ∀ k, k < 5 → parseFieldDescriptor (TX5 k).2.2.1 = some (tyX5 k) := by decide +kernel
abbrev cX5_init : ByteArray := prog_7_method_1_code
def yX5_init : MethodName := ⟨RX5, "<init>", "(ILSalonBook$Service;)V"⟩
abbrev cX5_isDropped : ByteArray := prog_7_method_2_code
def yX5_isDropped : MethodName := ⟨RX5, "isDropped", "()Z"⟩
def RX6 : String := "SalonBook"
def TX6 : u_T := fun k => match k with
  | 0 => ("SalonBook", "members", "Ljava/util/ArrayList;", true)
  | 1 => ("SalonBook", "menu", "Ljava/util/ArrayList;", true)
  | 2 => ("SalonBook", "booked", "Ljava/util/ArrayList;", true)
  | 3 => ("SalonBook", "waiting", "Ljava/util/ArrayList;", true)
  | 4 => ("SalonBook", "chairs", "[LSalonBook$Diary;", true)
  | _ => ("SalonBook", "candidates", "LSalonBook$MinuteSet;", true)
def tyX6 : Nat → FieldType := fun k => match k with
  | 0 => .object "java/util/ArrayList"
  | 1 => .object "java/util/ArrayList"
  | 2 => .object "java/util/ArrayList"
  | 3 => .object "java/util/ArrayList"
  | 4 => .array (.object "SalonBook$Diary")
  | _ => .object "SalonBook$MinuteSet"
abbrev wsX60 : List Cond := u_ws RX6 TX6 6
theorem nmX6 : ∀ a, a < 6 → ∀ b, b < 6 → a ≠ b → (TX6 a).2.1 ≠ (TX6 b).2.1 := by decide +kernel
theorem tyX6_ok : ∀ k, k < 6 → parseFieldDescriptor (TX6 k).2.2.1 = some (tyX6 k) := by decide +kernel
abbrev cX6_init : ByteArray := prog_1_method_1_code
def yX6_init : MethodName := ⟨RX6, "<init>", "()V"⟩
abbrev cX6_hire : ByteArray := prog_1_method_2_code
def yX6_hire : MethodName := ⟨RX6, "hire", "(III)I"⟩
abbrev cX6_addService : ByteArray := prog_1_method_3_code
def yX6_addService : MethodName := ⟨RX6, "addService", "(II)I"⟩
abbrev cX6_addStep : ByteArray := prog_1_method_4_code
def yX6_addStep : MethodName := ⟨RX6, "addStep", "(III)I"⟩
abbrev cX6_addUsual : ByteArray := prog_1_method_5_code
def yX6_addUsual : MethodName := ⟨RX6, "addUsual", "(I)I"⟩
abbrev cX6_book : ByteArray := prog_1_method_6_code
def yX6_book : MethodName := ⟨RX6, "book", "(II)I"⟩
abbrev cX6_bookWith : ByteArray := prog_1_method_7_code
def yX6_bookWith : MethodName := ⟨RX6, "bookWith", "(III)I"⟩
abbrev cX6_move : ByteArray := prog_1_method_8_code
def yX6_move : MethodName := ⟨RX6, "move", "(II)I"⟩
abbrev cX6_drop : ByteArray := prog_1_method_9_code
def yX6_drop : MethodName := ⟨RX6, "drop", "(I)I"⟩
abbrev cX6_request : ByteArray := prog_1_method_10_code
def yX6_request : MethodName := ⟨RX6, "request", "(II)I"⟩
abbrev cX6_requests : ByteArray := prog_1_method_11_code
def yX6_requests : MethodName := ⟨RX6, "requests", "()I"⟩
abbrev cX6_requestAt : ByteArray := prog_1_method_12_code
def yX6_requestAt : MethodName := ⟨RX6, "requestAt", "(I)I"⟩
abbrev cX6_lengthOf : ByteArray := prog_1_method_13_code
def yX6_lengthOf : MethodName := ⟨RX6, "lengthOf", "(I)I"⟩
abbrev cX6_workOf : ByteArray := prog_1_method_14_code
def yX6_workOf : MethodName := ⟨RX6, "workOf", "(I)I"⟩
abbrev cX6_skillsOf : ByteArray := prog_1_method_15_code
def yX6_skillsOf : MethodName := ⟨RX6, "skillsOf", "(I)I"⟩
abbrev cX6_visits : ByteArray := prog_1_method_16_code
def yX6_visits : MethodName := ⟨RX6, "visits", "()I"⟩
abbrev cX6_startOf : ByteArray := prog_1_method_17_code
def yX6_startOf : MethodName := ⟨RX6, "startOf", "(I)I"⟩
abbrev cX6_staffOf : ByteArray := prog_1_method_18_code
def yX6_staffOf : MethodName := ⟨RX6, "staffOf", "(I)I"⟩
abbrev cX6_chairOf : ByteArray := prog_1_method_19_code
def yX6_chairOf : MethodName := ⟨RX6, "chairOf", "(I)I"⟩
abbrev cX6_serviceOf : ByteArray := prog_1_method_20_code
def yX6_serviceOf : MethodName := ⟨RX6, "serviceOf", "(I)I"⟩
abbrev cX6_loadOf : ByteArray := prog_1_method_21_code
def yX6_loadOf : MethodName := ⟨RX6, "loadOf", "(I)I"⟩
abbrev cX6_staffAt : ByteArray := prog_1_method_22_code
def yX6_staffAt : MethodName := ⟨RX6, "staffAt", "(II)I"⟩
abbrev cX6_chairAt : ByteArray := prog_1_method_23_code
def yX6_chairAt : MethodName := ⟨RX6, "chairAt", "(II)I"⟩
abbrev cX6_earliest : ByteArray := prog_1_method_24_code
def yX6_earliest : MethodName := ⟨RX6, "earliest", "(II)I"⟩
abbrev cX6_earliestByScan : ByteArray := prog_1_method_25_code
def yX6_earliestByScan : MethodName := ⟨RX6, "earliestByScan", "(II)I"⟩
abbrev cX6_staffFor : ByteArray := prog_1_method_26_code
def yX6_staffFor : MethodName := ⟨RX6, "staffFor", "(II)I"⟩
abbrev cX6_inRest : ByteArray := prog_1_method_27_code
def yX6_inRest : MethodName := ⟨RX6, "inRest", "(II)I"⟩
abbrev cX6_fill : ByteArray := prog_1_method_28_code
def yX6_fill : MethodName := ⟨RX6, "fill", "(I)I"⟩
abbrev cX6_peak : ByteArray := prog_1_method_29_code
def yX6_peak : MethodName := ⟨RX6, "peak", "()I"⟩
abbrev cX6_isMinute : ByteArray := prog_1_method_30_code
def yX6_isMinute : MethodName := ⟨RX6, "isMinute", "(I)Z"⟩
abbrev cX6_isSkill : ByteArray := prog_1_method_31_code
def yX6_isSkill : MethodName := ⟨RX6, "isSkill", "(I)Z"⟩
abbrev cX6_isChair : ByteArray := prog_1_method_32_code
def yX6_isChair : MethodName := ⟨RX6, "isChair", "(I)Z"⟩
abbrev cX6_isMember : ByteArray := prog_1_method_33_code
def yX6_isMember : MethodName := ⟨RX6, "isMember", "(I)Z"⟩
abbrev cX6_requireMinute : ByteArray := prog_1_method_34_code
def yX6_requireMinute : MethodName := ⟨RX6, "requireMinute", "(I)V"⟩
abbrev cX6_requireStepMinutes : ByteArray := prog_1_method_35_code
def yX6_requireStepMinutes : MethodName := ⟨RX6, "requireStepMinutes", "(I)V"⟩
abbrev cX6_requireService : ByteArray := prog_1_method_36_code
def yX6_requireService : MethodName := ⟨RX6, "requireService", "(I)V"⟩
abbrev cX6_requireMember : ByteArray := prog_1_method_37_code
def yX6_requireMember : MethodName := ⟨RX6, "requireMember", "(I)V"⟩
abbrev cX6_requireVisit : ByteArray := prog_1_method_38_code
def yX6_requireVisit : MethodName := ⟨RX6, "requireVisit", "(I)V"⟩
abbrev cX6_requireUndropped : ByteArray := prog_1_method_39_code
def yX6_requireUndropped : MethodName := ⟨RX6, "requireUndropped", "(I)V"⟩
abbrev cX6_requireRoomForService : ByteArray := prog_1_method_40_code
def yX6_requireRoomForService : MethodName := ⟨RX6, "requireRoomForService", "()V"⟩
abbrev cX6_requireRoomForVisit : ByteArray := prog_1_method_41_code
def yX6_requireRoomForVisit : MethodName := ⟨RX6, "requireRoomForVisit", "()V"⟩
abbrev cX6_newService : ByteArray := prog_1_method_42_code
def yX6_newService : MethodName := ⟨RX6, "newService", "()LSalonBook$Service;"⟩
abbrev cX6_appendUsualSteps : ByteArray := prog_1_method_43_code
def yX6_appendUsualSteps : MethodName := ⟨RX6, "appendUsualSteps", "(LSalonBook$Service;I)V"⟩
abbrev cX6_lengthOfAll : ByteArray := prog_1_method_44_code
def yX6_lengthOfAll : MethodName := ⟨RX6, "lengthOfAll", "(I)I"⟩
abbrev cX6_bookFirst : ByteArray := prog_1_method_45_code
def yX6_bookFirst : MethodName := ⟨RX6, "bookFirst", "(LSalonBook$Service;II)I"⟩
abbrev cX6_bookAt : ByteArray := prog_1_method_46_code
def yX6_bookAt : MethodName := ⟨RX6, "bookAt", "(LSalonBook$Service;II)I"⟩
abbrev cX6_putAt : ByteArray := prog_1_method_47_code
def yX6_putAt : MethodName := ⟨RX6, "putAt", "(LSalonBook$Visit;II)V"⟩
abbrev cX6_put : ByteArray := prog_1_method_48_code
def yX6_put : MethodName := ⟨RX6, "put", "(LSalonBook$Visit;III)V"⟩
abbrev cX6_takeOut : ByteArray := prog_1_method_49_code
def yX6_takeOut : MethodName := ⟨RX6, "takeOut", "(LSalonBook$Visit;)V"⟩
abbrev cX6_write : ByteArray := prog_1_method_50_code
def yX6_write : MethodName := ⟨RX6, "write", "(LSalonBook$Visit;I)V"⟩
abbrev cX6_serveWaiting : ByteArray := prog_1_method_51_code
def yX6_serveWaiting : MethodName := ⟨RX6, "serveWaiting", "()I"⟩
abbrev cX6_firstStart : ByteArray := prog_1_method_52_code
def yX6_firstStart : MethodName := ⟨RX6, "firstStart", "(LSalonBook$Service;II)I"⟩
abbrev cX6_gatherCandidates : ByteArray := prog_1_method_53_code
def yX6_gatherCandidates : MethodName := ⟨RX6, "gatherCandidates", "(LSalonBook$Service;I)V"⟩
abbrev cX6_addStartsBehindSteps : ByteArray := prog_1_method_54_code
def yX6_addStartsBehindSteps : MethodName := ⟨RX6, "addStartsBehindSteps", "(LSalonBook$Visit;LSalonBook$Service;)V"⟩
abbrev cX6_firstStartByScan : ByteArray := prog_1_method_55_code
def yX6_firstStartByScan : MethodName := ⟨RX6, "firstStartByScan", "(LSalonBook$Service;III)I"⟩
abbrev cX6_hasRoom : ByteArray := prog_1_method_56_code
def yX6_hasRoom : MethodName := ⟨RX6, "hasRoom", "(LSalonBook$Service;II)Z"⟩
abbrev cX6_memberFor : ByteArray := prog_1_method_57_code
def yX6_memberFor : MethodName := ⟨RX6, "memberFor", "(LSalonBook$Service;II)I"⟩
abbrev cX6_chairFor : ByteArray := prog_1_method_58_code
def yX6_chairFor : MethodName := ⟨RX6, "chairFor", "(LSalonBook$Service;I)I"⟩
abbrev cX6_workBookedWith : ByteArray := prog_1_method_59_code
def yX6_workBookedWith : MethodName := ⟨RX6, "workBookedWith", "(I)I"⟩
abbrev cX6_chairsTakenAt : ByteArray := prog_1_method_60_code
def yX6_chairsTakenAt : MethodName := ⟨RX6, "chairsTakenAt", "(I)I"⟩
def RX7 : String := "SalonBookModel"
def TX7 : u_T := fun k => match k with
  | 0 => ("SalonBookModel", "skills", "[I", true)
  | 1 => ("SalonBookModel", "shiftFrom", "[I", true)
  | 2 => ("SalonBookModel", "shiftTo", "[I", true)
  | 3 => ("SalonBookModel", "staff", "I", false)
  | 4 => ("SalonBookModel", "stepSkill", "[I", true)
  | 5 => ("SalonBookModel", "stepMinutes", "[I", true)
  | 6 => ("SalonBookModel", "steps", "[I", true)
  | 7 => ("SalonBookModel", "isUsed", "[Z", true)
  | 8 => ("SalonBookModel", "services", "I", false)
  | 9 => ("SalonBookModel", "visitService", "[I", true)
  | 10 => ("SalonBookModel", "visitStaff", "[I", true)
  | 11 => ("SalonBookModel", "visitChair", "[I", true)
  | 12 => ("SalonBookModel", "visitStart", "[I", true)
  | 13 => ("SalonBookModel", "visits", "I", false)
  | 14 => ("SalonBookModel", "staffAt", "[I", true)
  | 15 => ("SalonBookModel", "chairAt", "[I", true)
  | 16 => ("SalonBookModel", "requestService", "[I", true)
  | 17 => ("SalonBookModel", "requestLatest", "[I", true)
  | 18 => ("SalonBookModel", "requests", "I", false)
  | 19 => ("SalonBookModel", "foundStaff", "I", false)
  | 20 => ("SalonBookModel", "foundChair", "I", false)
  | _ => ("SalonBookModel", "thrown", "I", false)
def tyX7 : Nat → FieldType := fun k => match k with
  | 0 => .array .int
  | 1 => .array .int
  | 2 => .array .int
  | 3 => .int
  | 4 => .array .int
  | 5 => .array .int
  | 6 => .array .int
  | 7 => .array .boolean
  | 8 => .int
  | 9 => .array .int
  | 10 => .array .int
  | 11 => .array .int
  | 12 => .array .int
  | 13 => .int
  | 14 => .array .int
  | 15 => .array .int
  | 16 => .array .int
  | 17 => .array .int
  | 18 => .int
  | 19 => .int
  | 20 => .int
  | _ => .int
abbrev wsX70 : List Cond := u_ws RX7 TX7 22
theorem nmX7 : ∀ a, a < 22 → ∀ b, b < 22 → a ≠ b → (TX7 a).2.1 ≠ (TX7 b).2.1 := by decide +kernel
theorem tyX7_ok : ∀ k, k < 22 → parseFieldDescriptor (TX7 k).2.2.1 = some (tyX7 k) := by decide +kernel
abbrev cX7_init : ByteArray := prog_9_method_1_code
def yX7_init : MethodName := ⟨RX7, "<init>", "()V"⟩
abbrev cX7_thrown : ByteArray := prog_9_method_2_code
def yX7_thrown : MethodName := ⟨RX7, "thrown", "()I"⟩
abbrev cX7_in : ByteArray := prog_9_method_3_code
def yX7_in : MethodName := ⟨RX7, "in", "(III)Z"⟩
abbrev cX7_isFine : ByteArray := prog_9_method_4_code
def yX7_isFine : MethodName := ⟨RX7, "isFine", "(I)Z"⟩
abbrev cX7_isService : ByteArray := prog_9_method_5_code
def yX7_isService : MethodName := ⟨RX7, "isService", "(I)Z"⟩
abbrev cX7_isStaff : ByteArray := prog_9_method_6_code
def yX7_isStaff : MethodName := ⟨RX7, "isStaff", "(I)Z"⟩
abbrev cX7_isMinute : ByteArray := prog_9_method_7_code
def yX7_isMinute : MethodName := ⟨RX7, "isMinute", "(I)Z"⟩
abbrev cX7_isVisit : ByteArray := prog_9_method_8_code
def yX7_isVisit : MethodName := ⟨RX7, "isVisit", "(I)Z"⟩
abbrev cX7_isThere : ByteArray := prog_9_method_9_code
def yX7_isThere : MethodName := ⟨RX7, "isThere", "(I)Z"⟩
abbrev cX7_hire : ByteArray := prog_9_method_10_code
def yX7_hire : MethodName := ⟨RX7, "hire", "(III)I"⟩
abbrev cX7_puts : ByteArray := prog_9_method_11_code
def yX7_puts : MethodName := ⟨RX7, "puts", "(III)V"⟩
abbrev cX7_addService : ByteArray := prog_9_method_12_code
def yX7_addService : MethodName := ⟨RX7, "addService", "(II)I"⟩
abbrev cX7_addStep : ByteArray := prog_9_method_13_code
def yX7_addStep : MethodName := ⟨RX7, "addStep", "(III)I"⟩
abbrev cX7_addUsual : ByteArray := prog_9_method_14_code
def yX7_addUsual : MethodName := ⟨RX7, "addUsual", "(I)I"⟩
abbrev cX7_length : ByteArray := prog_9_method_15_code
def yX7_length : MethodName := ⟨RX7, "length", "(I)I"⟩
abbrev cX7_work : ByteArray := prog_9_method_16_code
def yX7_work : MethodName := ⟨RX7, "work", "(I)I"⟩
abbrev cX7_asked : ByteArray := prog_9_method_17_code
def yX7_asked : MethodName := ⟨RX7, "asked", "(I)I"⟩
abbrev cX7_canTake : ByteArray := prog_9_method_18_code
def yX7_canTake : MethodName := ⟨RX7, "canTake", "(III)Z"⟩
abbrev cX7_chairFor : ByteArray := prog_9_method_19_code
def yX7_chairFor : MethodName := ⟨RX7, "chairFor", "(II)I"⟩
abbrev cX7_load : ByteArray := prog_9_method_20_code
def yX7_load : MethodName := ⟨RX7, "load", "(I)I"⟩
abbrev cX7_takerOf : ByteArray := prog_9_method_21_code
def yX7_takerOf : MethodName := ⟨RX7, "takerOf", "(III)I"⟩
abbrev cX7_find : ByteArray := prog_9_method_22_code
def yX7_find : MethodName := ⟨RX7, "find", "(III)I"⟩
abbrev cX7_marks : ByteArray := prog_9_method_23_code
def yX7_marks : MethodName := ⟨RX7, "marks", "(II)V"⟩
abbrev cX7_lays : ByteArray := prog_9_method_24_code
def yX7_lays : MethodName := ⟨RX7, "lays", "(III)V"⟩
abbrev cX7_books : ByteArray := prog_9_method_25_code
def yX7_books : MethodName := ⟨RX7, "books", "(II)I"⟩
abbrev cX7_book : ByteArray := prog_9_method_26_code
def yX7_book : MethodName := ⟨RX7, "book", "(II)I"⟩
abbrev cX7_bookWith : ByteArray := prog_9_method_27_code
def yX7_bookWith : MethodName := ⟨RX7, "bookWith", "(III)I"⟩
abbrev cX7_serves : ByteArray := prog_9_method_28_code
def yX7_serves : MethodName := ⟨RX7, "serves", "()I"⟩
abbrev cX7_move : ByteArray := prog_9_method_29_code
def yX7_move : MethodName := ⟨RX7, "move", "(II)I"⟩
abbrev cX7_drop : ByteArray := prog_9_method_30_code
def yX7_drop : MethodName := ⟨RX7, "drop", "(I)I"⟩
abbrev cX7_request : ByteArray := prog_9_method_31_code
def yX7_request : MethodName := ⟨RX7, "request", "(II)I"⟩
abbrev cX7_requests : ByteArray := prog_9_method_32_code
def yX7_requests : MethodName := ⟨RX7, "requests", "()I"⟩
abbrev cX7_requestAt : ByteArray := prog_9_method_33_code
def yX7_requestAt : MethodName := ⟨RX7, "requestAt", "(I)I"⟩
abbrev cX7_lengthOf : ByteArray := prog_9_method_34_code
def yX7_lengthOf : MethodName := ⟨RX7, "lengthOf", "(I)I"⟩
abbrev cX7_workOf : ByteArray := prog_9_method_35_code
def yX7_workOf : MethodName := ⟨RX7, "workOf", "(I)I"⟩
abbrev cX7_skillsOf : ByteArray := prog_9_method_36_code
def yX7_skillsOf : MethodName := ⟨RX7, "skillsOf", "(I)I"⟩
abbrev cX7_visits : ByteArray := prog_9_method_37_code
def yX7_visits : MethodName := ⟨RX7, "visits", "()I"⟩
abbrev cX7_startOf : ByteArray := prog_9_method_38_code
def yX7_startOf : MethodName := ⟨RX7, "startOf", "(I)I"⟩
abbrev cX7_staffOf : ByteArray := prog_9_method_39_code
def yX7_staffOf : MethodName := ⟨RX7, "staffOf", "(I)I"⟩
abbrev cX7_chairOf : ByteArray := prog_9_method_40_code
def yX7_chairOf : MethodName := ⟨RX7, "chairOf", "(I)I"⟩
abbrev cX7_serviceOf : ByteArray := prog_9_method_41_code
def yX7_serviceOf : MethodName := ⟨RX7, "serviceOf", "(I)I"⟩
abbrev cX7_loadOf : ByteArray := prog_9_method_42_code
def yX7_loadOf : MethodName := ⟨RX7, "loadOf", "(I)I"⟩
abbrev cX7_staffAt : ByteArray := prog_9_method_43_code
def yX7_staffAt : MethodName := ⟨RX7, "staffAt", "(II)I"⟩
abbrev cX7_chairAt : ByteArray := prog_9_method_44_code
def yX7_chairAt : MethodName := ⟨RX7, "chairAt", "(II)I"⟩
abbrev cX7_earliest : ByteArray := prog_9_method_45_code
def yX7_earliest : MethodName := ⟨RX7, "earliest", "(II)I"⟩
abbrev cX7_earliestByScan : ByteArray := prog_9_method_46_code
def yX7_earliestByScan : MethodName := ⟨RX7, "earliestByScan", "(II)I"⟩
abbrev cX7_staffFor : ByteArray := prog_9_method_47_code
def yX7_staffFor : MethodName := ⟨RX7, "staffFor", "(II)I"⟩
abbrev cX7_inRest : ByteArray := prog_9_method_48_code
def yX7_inRest : MethodName := ⟨RX7, "inRest", "(II)I"⟩
abbrev cX7_fill : ByteArray := prog_9_method_49_code
def yX7_fill : MethodName := ⟨RX7, "fill", "(I)I"⟩
abbrev cX7_peak : ByteArray := prog_9_method_50_code
def yX7_peak : MethodName := ⟨RX7, "peak", "()I"⟩
def RJx145de : String := "java/io/Serializable"
def TJx145de : u_T := fun k => match k with
  | _ => ("", "", "", false)
def tyJx145de : Nat → FieldType := fun k => match k with
  | _ => .int
abbrev wsJx145de0 : List Cond := u_ws RJx145de TJx145de 0
theorem nmJx145de : ∀ a, a < 0 → ∀ b, b < 0 → a ≠ b → (TJx145de a).2.1 ≠ (TJx145de b).2.1 := by decide +kernel
theorem tyJx145de_ok : ∀ k, k < 0 → parseFieldDescriptor (TJx145de k).2.2.1 = some (tyJx145de k) := by decide +kernel
def RJx8e188 : String := "java/lang/Cloneable"
def TJx8e188 : u_T := fun k => match k with
  | _ => ("", "", "", false)
def tyJx8e188 : Nat → FieldType := fun k => match k with
  | _ => .int
abbrev wsJx8e1880 : List Cond := u_ws RJx8e188 TJx8e188 0
theorem nmJx8e188 : ∀ a, a < 0 → ∀ b, b < 0 → a ≠ b → (TJx8e188 a).2.1 ≠ (TJx8e188 b).2.1 := by decide +kernel
theorem tyJx8e188_ok : ∀ k, k < 0 → parseFieldDescriptor (TJx8e188 k).2.2.1 = some (tyJx8e188 k) := by decide +kernel
def RJxab1ab : String := "java/lang/Iterable"
def TJxab1ab : u_T := fun k => match k with
  | _ => ("", "", "", false)
def tyJxab1ab : Nat → FieldType := fun k => match k with
  | _ => .int
abbrev wsJxab1ab0 : List Cond := u_ws RJxab1ab TJxab1ab 0
theorem nmJxab1ab : ∀ a, a < 0 → ∀ b, b < 0 → a ≠ b → (TJxab1ab a).2.1 ≠ (TJxab1ab b).2.1 := by decide +kernel
theorem tyJxab1ab_ok : ∀ k, k < 0 → parseFieldDescriptor (TJxab1ab k).2.2.1 = some (tyJxab1ab k) := by decide +kernel
def RJ9 : String := "java/lang/Math"
def TJ9 : u_T := fun k => match k with
  | _ => ("", "", "", false)
def tyJ9 : Nat → FieldType := fun k => match k with
  | _ => .int
abbrev wsJ90 : List Cond := u_ws RJ9 TJ9 0
theorem nmJ9 : ∀ a, a < 0 → ∀ b, b < 0 → a ≠ b → (TJ9 a).2.1 ≠ (TJ9 b).2.1 := by decide +kernel
theorem tyJ9_ok : ∀ k, k < 0 → parseFieldDescriptor (TJ9 k).2.2.1 = some (tyJ9 k) := by decide +kernel
abbrev cJ9_max_7cf53 : ByteArray := prog_17_method_65_code
def yJ9_max_7cf53 : MethodName := ⟨RJ9, "max", "(II)I"⟩
abbrev cJ9_min_7cf53 : ByteArray := prog_17_method_69_code
def yJ9_min_7cf53 : MethodName := ⟨RJ9, "min", "(II)I"⟩
def RJ0 : String := "java/lang/String"
def TJ0 : u_T := fun k => match k with
  | _ => ("", "", "", false)
def tyJ0 : Nat → FieldType := fun k => match k with
  | _ => .int
abbrev wsJ00 : List Cond := u_ws RJ0 TJ0 0
theorem nmJ0 : ∀ a, a < 0 → ∀ b, b < 0 → a ≠ b → (TJ0 a).2.1 ≠ (TJ0 b).2.1 := by decide +kernel
theorem tyJ0_ok : ∀ k, k < 0 → parseFieldDescriptor (TJ0 k).2.2.1 = some (tyJ0 k) := by decide +kernel
def RJ10 : String := "java/lang/System"
def TJ10 : u_T := fun k => match k with
  | _ => ("", "", "", false)
def tyJ10 : Nat → FieldType := fun k => match k with
  | _ => .int
abbrev wsJ100 : List Cond := u_ws RJ10 TJ10 0
theorem nmJ10 : ∀ a, a < 0 → ∀ b, b < 0 → a ≠ b → (TJ10 a).2.1 ≠ (TJ10 b).2.1 := by decide +kernel
theorem tyJ10_ok : ∀ k, k < 0 → parseFieldDescriptor (TJ10 k).2.2.1 = some (tyJ10 k) := by decide +kernel
def RJxa1e45 : String := "java/util/AbstractCollection"
def TJxa1e45 : u_T := fun k => match k with
  | _ => ("", "", "", false)
def tyJxa1e45 : Nat → FieldType := fun k => match k with
  | _ => .int
abbrev wsJxa1e450 : List Cond := u_ws RJxa1e45 TJxa1e45 0
theorem nmJxa1e45 : ∀ a, a < 0 → ∀ b, b < 0 → a ≠ b → (TJxa1e45 a).2.1 ≠ (TJxa1e45 b).2.1 := by decide +kernel
theorem tyJxa1e45_ok : ∀ k, k < 0 → parseFieldDescriptor (TJxa1e45 k).2.2.1 = some (tyJxa1e45 k) := by decide +kernel
abbrev cJxa1e45_init_da8c8 : ByteArray := prog_22_method_1_code
def yJxa1e45_init_da8c8 : MethodName := ⟨RJxa1e45, "<init>", "()V"⟩
def RJxc12de : String := "java/util/AbstractList"
def TJxc12de : u_T := fun k => match k with
  | _ => ("", "", "", false)
def tyJxc12de : Nat → FieldType := fun k => match k with
  | _ => .int
abbrev wsJxc12de0 : List Cond := u_ws RJxc12de TJxc12de 0
theorem nmJxc12de : ∀ a, a < 0 → ∀ b, b < 0 → a ≠ b → (TJxc12de a).2.1 ≠ (TJxc12de b).2.1 := by decide +kernel
theorem tyJxc12de_ok : ∀ k, k < 0 → parseFieldDescriptor (TJxc12de k).2.2.1 = some (tyJxc12de k) := by decide +kernel
abbrev cJxc12de_init_da8c8 : ByteArray := prog_23_method_1_code
def yJxc12de_init_da8c8 : MethodName := ⟨RJxc12de, "<init>", "()V"⟩
def RJx4a65c : String := "java/util/ArrayList"
def TJx4a65c : u_T := fun k => match k with
  | 0 => ("java/util/AbstractList", "modCount", "I", false)
  | 1 => ("java/util/ArrayList", "elementData", "[Ljava/lang/Object;", false)
  | _ => ("java/util/ArrayList", "size", "I", false)
def tyJx4a65c : Nat → FieldType := fun k => match k with
  | 0 => .int
  | 1 => .array (.object "java/lang/Object")
  | _ => .int
abbrev wsJx4a65c0 : List Cond := u_ws RJx4a65c TJx4a65c 3
theorem nmJx4a65c : ∀ a, a < 3 → ∀ b, b < 3 → a ≠ b → (TJx4a65c a).2.1 ≠ (TJx4a65c b).2.1 := by decide +kernel
theorem tyJx4a65c_ok : ∀ k, k < 3 → parseFieldDescriptor (TJx4a65c k).2.2.1 = some (tyJx4a65c k) := by decide +kernel
abbrev cJx4a65c_init_da8c8 : ByteArray := prog_24_method_2_code
def yJx4a65c_init_da8c8 : MethodName := ⟨RJx4a65c, "<init>", "()V"⟩
abbrev cJx4a65c_grow_92f84 : ByteArray := prog_24_method_6_code
def yJx4a65c_grow_92f84 : MethodName := ⟨RJx4a65c, "grow", "(I)[Ljava/lang/Object;"⟩
abbrev cJx4a65c_grow_d5877 : ByteArray := prog_24_method_7_code
def yJx4a65c_grow_d5877 : MethodName := ⟨RJx4a65c, "grow", "()[Ljava/lang/Object;"⟩
abbrev cJx4a65c_size_8abf5 : ByteArray := prog_24_method_8_code
def yJx4a65c_size_8abf5 : MethodName := ⟨RJx4a65c, "size", "()I"⟩
abbrev cJx4a65c_elementData_915e3 : ByteArray := prog_24_method_18_code
def yJx4a65c_elementData_915e3 : MethodName := ⟨RJx4a65c, "elementData", "(I)Ljava/lang/Object;"⟩
abbrev cJx4a65c_get_915e3 : ByteArray := prog_24_method_20_code
def yJx4a65c_get_915e3 : MethodName := ⟨RJx4a65c, "get", "(I)Ljava/lang/Object;"⟩
abbrev cJx4a65c_add_72be8 : ByteArray := prog_24_method_24_code
def yJx4a65c_add_72be8 : MethodName := ⟨RJx4a65c, "add", "(Ljava/lang/Object;[Ljava/lang/Object;I)V"⟩
abbrev cJx4a65c_add_9ea2d : ByteArray := prog_24_method_25_code
def yJx4a65c_add_9ea2d : MethodName := ⟨RJx4a65c, "add", "(Ljava/lang/Object;)Z"⟩
abbrev cJx4a65c_remove_915e3 : ByteArray := prog_24_method_29_code
def yJx4a65c_remove_915e3 : MethodName := ⟨RJx4a65c, "remove", "(I)Ljava/lang/Object;"⟩
abbrev cJx4a65c_fastRemove_b59b0 : ByteArray := prog_24_method_39_code
def yJx4a65c_fastRemove_b59b0 : MethodName := ⟨RJx4a65c, "fastRemove", "([Ljava/lang/Object;I)V"⟩
def RJ7 : String := "java/util/Arrays"
def TJ7 : u_T := fun k => match k with
  | _ => ("", "", "", false)
def tyJ7 : Nat → FieldType := fun k => match k with
  | _ => .int
abbrev wsJ70 : List Cond := u_ws RJ7 TJ7 0
theorem nmJ7 : ∀ a, a < 0 → ∀ b, b < 0 → a ≠ b → (TJ7 a).2.1 ≠ (TJ7 b).2.1 := by decide +kernel
theorem tyJ7_ok : ∀ k, k < 0 → parseFieldDescriptor (TJ7 k).2.2.1 = some (tyJ7 k) := by decide +kernel
abbrev cJ7_copyOf_1904c : ByteArray := prog_25_method_119_code
def yJ7_copyOf_1904c : MethodName := ⟨RJ7, "copyOf", "([Ljava/lang/Object;I)[Ljava/lang/Object;"⟩
abbrev cJ7_copyOf_6403c : ByteArray := prog_25_method_120_code
def yJ7_copyOf_6403c : MethodName := ⟨RJ7, "copyOf", "([Ljava/lang/Object;ILjava/lang/Class;)[Ljava/lang/Object;"⟩
def RJx5ef63 : String := "java/util/Collection"
def TJx5ef63 : u_T := fun k => match k with
  | _ => ("", "", "", false)
def tyJx5ef63 : Nat → FieldType := fun k => match k with
  | _ => .int
abbrev wsJx5ef630 : List Cond := u_ws RJx5ef63 TJx5ef63 0
theorem nmJx5ef63 : ∀ a, a < 0 → ∀ b, b < 0 → a ≠ b → (TJx5ef63 a).2.1 ≠ (TJx5ef63 b).2.1 := by decide +kernel
theorem tyJx5ef63_ok : ∀ k, k < 0 → parseFieldDescriptor (TJx5ef63 k).2.2.1 = some (tyJx5ef63 k) := by decide +kernel
def RJxbd725 : String := "java/util/List"
def TJxbd725 : u_T := fun k => match k with
  | _ => ("", "", "", false)
def tyJxbd725 : Nat → FieldType := fun k => match k with
  | _ => .int
abbrev wsJxbd7250 : List Cond := u_ws RJxbd725 TJxbd725 0
theorem nmJxbd725 : ∀ a, a < 0 → ∀ b, b < 0 → a ≠ b → (TJxbd725 a).2.1 ≠ (TJxbd725 b).2.1 := by decide +kernel
theorem tyJxbd725_ok : ∀ k, k < 0 → parseFieldDescriptor (TJxbd725 k).2.2.1 = some (tyJxbd725 k) := by decide +kernel
def RJ15 : String := "java/util/Objects"
def TJ15 : u_T := fun k => match k with
  | _ => ("", "", "", false)
def tyJ15 : Nat → FieldType := fun k => match k with
  | _ => .int
abbrev wsJ150 : List Cond := u_ws RJ15 TJ15 0
theorem nmJ15 : ∀ a, a < 0 → ∀ b, b < 0 → a ≠ b → (TJ15 a).2.1 ≠ (TJ15 b).2.1 := by decide +kernel
theorem tyJ15_ok : ∀ k, k < 0 → parseFieldDescriptor (TJ15 k).2.2.1 = some (tyJ15 k) := by decide +kernel
abbrev cJ15_checkIndex_7cf53 : ByteArray := prog_29_method_17_code
def yJ15_checkIndex_7cf53 : MethodName := ⟨RJ15, "checkIndex", "(II)I"⟩
def RJxf0a74 : String := "java/util/RandomAccess"
def TJxf0a74 : u_T := fun k => match k with
  | _ => ("", "", "", false)
def tyJxf0a74 : Nat → FieldType := fun k => match k with
  | _ => .int
abbrev wsJxf0a740 : List Cond := u_ws RJxf0a74 TJxf0a74 0
theorem nmJxf0a74 : ∀ a, a < 0 → ∀ b, b < 0 → a ≠ b → (TJxf0a74 a).2.1 ≠ (TJxf0a74 b).2.1 := by decide +kernel
theorem tyJxf0a74_ok : ∀ k, k < 0 → parseFieldDescriptor (TJxf0a74 k).2.2.1 = some (tyJxf0a74 k) := by decide +kernel
def RJxa66e6 : String := "java/util/SequencedCollection"
def TJxa66e6 : u_T := fun k => match k with
  | _ => ("", "", "", false)
def tyJxa66e6 : Nat → FieldType := fun k => match k with
  | _ => .int
abbrev wsJxa66e60 : List Cond := u_ws RJxa66e6 TJxa66e6 0
theorem nmJxa66e6 : ∀ a, a < 0 → ∀ b, b < 0 → a ≠ b → (TJxa66e6 a).2.1 ≠ (TJxa66e6 b).2.1 := by decide +kernel
theorem tyJxa66e6_ok : ∀ k, k < 0 → parseFieldDescriptor (TJxa66e6 k).2.2.1 = some (tyJxa66e6 k) := by decide +kernel
def RJ8 : String := "jdk/internal/util/ArraysSupport"
def TJ8 : u_T := fun k => match k with
  | _ => ("", "", "", false)
def tyJ8 : Nat → FieldType := fun k => match k with
  | _ => .int
abbrev wsJ80 : List Cond := u_ws RJ8 TJ8 0
theorem nmJ8 : ∀ a, a < 0 → ∀ b, b < 0 → a ≠ b → (TJ8 a).2.1 ≠ (TJ8 b).2.1 := by decide +kernel
theorem tyJ8_ok : ∀ k, k < 0 → parseFieldDescriptor (TJ8 k).2.2.1 = some (tyJ8 k) := by decide +kernel
abbrev cJ8_newLength_cabcc : ByteArray := prog_32_method_27_code
def yJ8_newLength_cabcc : MethodName := ⟨RJ8, "newLength", "(III)I"⟩
abbrev cJ8_hugeLength_7cf53 : ByteArray := prog_32_method_28_code
def yJ8_hugeLength_7cf53 : MethodName := ⟨RJ8, "hugeLength", "(II)I"⟩
def RJ3 : String := "jdk/internal/util/Preconditions"
def TJ3 : u_T := fun k => match k with
  | _ => ("", "", "", false)
def tyJ3 : Nat → FieldType := fun k => match k with
  | _ => .int
abbrev wsJ30 : List Cond := u_ws RJ3 TJ3 0
theorem nmJ3 : ∀ a, a < 0 → ∀ b, b < 0 → a ≠ b → (TJ3 a).2.1 ≠ (TJ3 b).2.1 := by decide +kernel
theorem tyJ3_ok : ∀ k, k < 0 → parseFieldDescriptor (TJ3 k).2.2.1 = some (tyJ3 k) := by decide +kernel
abbrev cJ3_checkIndex_8e157 : ByteArray := prog_33_method_11_code
def yJ3_checkIndex_8e157 : MethodName := ⟨RJ3, "checkIndex", "(IILjava/util/function/BiFunction;)I"⟩
def RL : String := "SalonBookLaw"
abbrev cL_hire : ByteArray := method_3_code
def yL_hire : MethodName := ⟨RL, "hire", "(LSalonBook;III[J)I"⟩
abbrev cL_addService : ByteArray := method_4_code
def yL_addService : MethodName := ⟨RL, "addService", "(LSalonBook;II[J)I"⟩
abbrev cL_addStep : ByteArray := method_5_code
def yL_addStep : MethodName := ⟨RL, "addStep", "(LSalonBook;III[J)I"⟩
abbrev cL_addUsual : ByteArray := method_6_code
def yL_addUsual : MethodName := ⟨RL, "addUsual", "(LSalonBook;I[J)I"⟩
abbrev cL_book : ByteArray := method_7_code
def yL_book : MethodName := ⟨RL, "book", "(LSalonBook;II[J)I"⟩
abbrev cL_bookWith : ByteArray := method_8_code
def yL_bookWith : MethodName := ⟨RL, "bookWith", "(LSalonBook;III[J)I"⟩
abbrev cL_move : ByteArray := method_9_code
def yL_move : MethodName := ⟨RL, "move", "(LSalonBook;II[J)I"⟩
abbrev cL_drop : ByteArray := method_10_code
def yL_drop : MethodName := ⟨RL, "drop", "(LSalonBook;I[J)I"⟩
abbrev cL_request : ByteArray := method_11_code
def yL_request : MethodName := ⟨RL, "request", "(LSalonBook;II[J)I"⟩
abbrev cL_requestAt : ByteArray := method_12_code
def yL_requestAt : MethodName := ⟨RL, "requestAt", "(LSalonBook;I[J)I"⟩
abbrev cL_lengthOf : ByteArray := method_13_code
def yL_lengthOf : MethodName := ⟨RL, "lengthOf", "(LSalonBook;I[J)I"⟩
abbrev cL_workOf : ByteArray := method_14_code
def yL_workOf : MethodName := ⟨RL, "workOf", "(LSalonBook;I[J)I"⟩
abbrev cL_skillsOf : ByteArray := method_15_code
def yL_skillsOf : MethodName := ⟨RL, "skillsOf", "(LSalonBook;I[J)I"⟩
abbrev cL_startOf : ByteArray := method_16_code
def yL_startOf : MethodName := ⟨RL, "startOf", "(LSalonBook;I[J)I"⟩
abbrev cL_staffOf : ByteArray := method_17_code
def yL_staffOf : MethodName := ⟨RL, "staffOf", "(LSalonBook;I[J)I"⟩
abbrev cL_chairOf : ByteArray := method_18_code
def yL_chairOf : MethodName := ⟨RL, "chairOf", "(LSalonBook;I[J)I"⟩
abbrev cL_serviceOf : ByteArray := method_19_code
def yL_serviceOf : MethodName := ⟨RL, "serviceOf", "(LSalonBook;I[J)I"⟩
abbrev cL_loadOf : ByteArray := method_20_code
def yL_loadOf : MethodName := ⟨RL, "loadOf", "(LSalonBook;I[J)I"⟩
abbrev cL_staffAt : ByteArray := method_21_code
def yL_staffAt : MethodName := ⟨RL, "staffAt", "(LSalonBook;II[J)I"⟩
abbrev cL_chairAt : ByteArray := method_22_code
def yL_chairAt : MethodName := ⟨RL, "chairAt", "(LSalonBook;II[J)I"⟩
abbrev cL_earliest : ByteArray := method_23_code
def yL_earliest : MethodName := ⟨RL, "earliest", "(LSalonBook;II[J)I"⟩
abbrev cL_earliestByScan : ByteArray := method_24_code
def yL_earliestByScan : MethodName := ⟨RL, "earliestByScan", "(LSalonBook;II[J)I"⟩
abbrev cL_staffFor : ByteArray := method_25_code
def yL_staffFor : MethodName := ⟨RL, "staffFor", "(LSalonBook;II[J)I"⟩
abbrev cL_inRest : ByteArray := method_26_code
def yL_inRest : MethodName := ⟨RL, "inRest", "(LSalonBook;II[J)I"⟩
abbrev cL_fill : ByteArray := method_27_code
def yL_fill : MethodName := ⟨RL, "fill", "(LSalonBook;I[J)I"⟩
abbrev cL_law : ByteArray := code
def yL_law : MethodName := ⟨RL, "law", "([I)Z"⟩
def wsL_law0_r1 : List Cond := [Cond.classLink RL 8 RX6, Cond.instantiable RX6 6, Cond.initialized RX6, Cond.classLink RL 96 RX7, Cond.instantiable RX7 22, Cond.initialized RX7, Cond.arrayClass .long, Cond.methodLink RL 95 yX6_init, Cond.instanceMethod yX6_init, Cond.code yX6_init cX6_init 2 none, Cond.methodLink RX6 1 objectInit, Cond.instanceMethod objectInit, Cond.code objectInit ⟨#[0xb1]⟩ 1 none, Cond.classLink RX6 7 RJx4a65c, Cond.instantiable RJx4a65c 3, Cond.initialized RJx4a65c, Cond.fieldLink RX6 10 "SalonBook" "members" "Ljava/util/ArrayList;", Cond.fieldLink RX6 16 "SalonBook" "menu" "Ljava/util/ArrayList;", Cond.fieldLink RX6 19 "SalonBook" "booked" "Ljava/util/ArrayList;", Cond.fieldLink RX6 22 "SalonBook" "waiting" "Ljava/util/ArrayList;", Cond.classLink RX6 25 RX0, Cond.fieldLink RX6 27 "SalonBook" "chairs" "[LSalonBook$Diary;", Cond.instantiable RX0 2, Cond.initialized RX0]
def wsL_law0_r2 : List Cond := [Cond.classLink RX6 32 RX2, Cond.instantiable RX2 1, Cond.initialized RX2, Cond.fieldLink RX6 35 "SalonBook" "candidates" "LSalonBook$MinuteSet;", Cond.methodLink RX6 9 yJx4a65c_init_da8c8, Cond.instanceMethod yJx4a65c_init_da8c8, Cond.code yJx4a65c_init_da8c8 cJx4a65c_init_da8c8 1 none, Cond.fieldLink RJx4a65c 39 "java/util/ArrayList" "DEFAULTCAPACITY_EMPTY_ELEMENTDATA" "[Ljava/lang/Object;", Cond.fieldLink RJx4a65c 9 "java/util/ArrayList" "elementData" "[Ljava/lang/Object;", Cond.methodLink RJx4a65c 1 yJxc12de_init_da8c8, Cond.instanceMethod yJxc12de_init_da8c8, Cond.initialized RJxc12de, Cond.code yJxc12de_init_da8c8 cJxc12de_init_da8c8 1 none, Cond.fieldLink RJxc12de 7 "java/util/AbstractList" "modCount" "I", Cond.methodLink RJxc12de 1 yJxa1e45_init_da8c8, Cond.instanceMethod yJxa1e45_init_da8c8, Cond.initialized RJxa1e45, Cond.code yJxa1e45_init_da8c8 cJxa1e45_init_da8c8 1 none, Cond.methodLink RJxa1e45 1 objectInit, Cond.methodLink RX6 31 yX0_init, Cond.instanceMethod yX0_init, Cond.code yX0_init cX0_init 2 none, Cond.methodLink RX0 3 objectInit, Cond.arrayClass .int]
def wsL_law0_r3 : List Cond := [Cond.fieldLink RX0 9 "SalonBook$Diary" "visitAt" "[I", Cond.fieldLink RX0 15 "SalonBook$Diary" "takenBefore" "[I", Cond.instanceMethod yX2_init, Cond.code yX2_init cX2_init 1 none, Cond.methodLink RX2 3 objectInit, Cond.arrayClass .boolean, Cond.fieldLink RX2 9 "SalonBook$MinuteSet" "held" "[Z", Cond.methodLink RL 98 yX7_init, Cond.instanceMethod yX7_init, Cond.code yX7_init cX7_init 2 none, Cond.methodLink RX7 1 objectInit, Cond.fieldLink RX7 7 "SalonBookModel" "skills" "[I", Cond.fieldLink RX7 13 "SalonBookModel" "shiftFrom" "[I", Cond.fieldLink RX7 16 "SalonBookModel" "shiftTo" "[I", Cond.fieldLink RX7 19 "SalonBookModel" "stepSkill" "[I", Cond.fieldLink RX7 22 "SalonBookModel" "stepMinutes" "[I", Cond.fieldLink RX7 25 "SalonBookModel" "steps" "[I", Cond.fieldLink RX7 28 "SalonBookModel" "isUsed" "[Z", Cond.fieldLink RX7 32 "SalonBookModel" "visitService" "[I", Cond.fieldLink RX7 35 "SalonBookModel" "visitStaff" "[I", Cond.fieldLink RX7 38 "SalonBookModel" "visitChair" "[I", Cond.fieldLink RX7 41 "SalonBookModel" "visitStart" "[I", Cond.fieldLink RX7 44 "SalonBookModel" "staffAt" "[I", Cond.fieldLink RX7 47 "SalonBookModel" "chairAt" "[I"]
def wsL_law0_r4 : List Cond := [Cond.fieldLink RX7 50 "SalonBookModel" "requestService" "[I", Cond.fieldLink RX7 53 "SalonBookModel" "requestLatest" "[I", Cond.methodLink RL 99 yL_hire, Cond.static yL_hire, Cond.initialized RL, Cond.codeWith yL_hire cL_hire 6 (some .int) [(0, 12, 15, 13), (0, 12, 19, 15)], Cond.classLink RL 13 "java/lang/IllegalArgumentException", Cond.classLink RL 15 "java/lang/IllegalStateException", Cond.methodLink RL 7 yX6_hire, Cond.instanceMethod yX6_hire, Cond.selects RX6 yX6_hire yX6_hire, Cond.code yX6_hire cX6_hire 4 (some .int), Cond.classLink RX6 39 "java/lang/IllegalArgumentException", Cond.initialized "java/lang/IllegalArgumentException", Cond.classLink RX6 56 "java/lang/IllegalStateException", Cond.initialized "java/lang/IllegalStateException", Cond.classLink RX6 61 RX1, Cond.instantiable RX1 4, Cond.initialized RX1, Cond.methodLink RX6 46 yX6_isMinute, Cond.static yX6_isMinute, Cond.code yX6_isMinute cX6_isMinute 1 (some .boolean), Cond.methodLink RX6 52 yJx4a65c_size_8abf5, Cond.instanceMethod yJx4a65c_size_8abf5]
def wsL_law0_r5 : List Cond := [Cond.selects RJx4a65c yJx4a65c_size_8abf5 yJx4a65c_size_8abf5, Cond.code yJx4a65c_size_8abf5 cJx4a65c_size_8abf5 1 (some .int), Cond.fieldLink RJx4a65c 48 "java/util/ArrayList" "size" "I", Cond.methodLink RX6 63 yX1_init, Cond.instanceMethod yX1_init, Cond.code yX1_init cX1_init 4 none, Cond.methodLink RX1 1 objectInit, Cond.classLink RX1 7 RX0, Cond.fieldLink RX1 10 "SalonBook$Member" "diary" "LSalonBook$Diary;", Cond.fieldLink RX1 16 "SalonBook$Member" "skills" "I", Cond.fieldLink RX1 20 "SalonBook$Member" "from" "I", Cond.fieldLink RX1 23 "SalonBook$Member" "to" "I", Cond.methodLink RX1 9 yX0_init, Cond.methodLink RX6 66 yJx4a65c_add_9ea2d, Cond.instanceMethod yJx4a65c_add_9ea2d, Cond.selects RJx4a65c yJx4a65c_add_9ea2d yJx4a65c_add_9ea2d, Cond.code yJx4a65c_add_9ea2d cJx4a65c_add_9ea2d 2 (some .boolean), Cond.fieldLink RJx4a65c 63 "java/util/ArrayList" "modCount" "I", Cond.sameField "java/util/ArrayList" "java/util/AbstractList" "modCount" "I", Cond.methodLink RJx4a65c 131 yJx4a65c_add_72be8, Cond.instanceMethod yJx4a65c_add_72be8, Cond.selects RJx4a65c yJx4a65c_add_72be8 yJx4a65c_add_72be8, Cond.code yJx4a65c_add_72be8 cJx4a65c_add_72be8 4 none, Cond.methodLink RJx4a65c 129 yJx4a65c_grow_d5877]
def wsL_law0_r6 : List Cond := [Cond.instanceMethod yJx4a65c_grow_d5877, Cond.selects RJx4a65c yJx4a65c_grow_d5877 yJx4a65c_grow_d5877, Cond.code yJx4a65c_grow_d5877 cJx4a65c_grow_d5877 1 (some (.array (.object "java/lang/Object"))), Cond.methodLink RJx4a65c 69 yJx4a65c_grow_92f84, Cond.instanceMethod yJx4a65c_grow_92f84, Cond.selects RJx4a65c yJx4a65c_grow_92f84 yJx4a65c_grow_92f84, Cond.code yJx4a65c_grow_92f84 cJx4a65c_grow_92f84 4 (some (.array (.object "java/lang/Object"))), Cond.methodLink RJx4a65c 79 Lib.Math.max.name, Cond.static Lib.Math.max.name, Cond.initialized "java/lang/Math", Cond.code Lib.Math.max.name Lib.Math.max.code 2 (some .int), Cond.classLink RJx4a65c 7 "java/lang/Object", Cond.methodLink RJx4a65c 73 yJ8_newLength_cabcc, Cond.static yJ8_newLength_cabcc, Cond.initialized RJ8, Cond.code yJ8_newLength_cabcc cJ8_newLength_cabcc 4 (some .int), Cond.methodLink RJ8 194 Lib.Math.max.name, Cond.constant RJ8 200 (2147483639), Cond.methodLink RJ8 201 yJ8_hugeLength_7cf53, Cond.static yJ8_hugeLength_7cf53, Cond.code yJ8_hugeLength_7cf53 cJ8_hugeLength_7cf53 3 (some .int), Cond.methodLink RJx4a65c 66 yJ7_copyOf_1904c, Cond.static yJ7_copyOf_1904c, Cond.initialized RJ7]
def wsL_law0_r7 : List Cond := [Cond.code yJ7_copyOf_1904c cJ7_copyOf_1904c 2 (some (.array (.object "java/lang/Object"))), Cond.methodLink RJ7 86 ⟨"java/lang/Object", "getClass", "()Ljava/lang/Class;"⟩, Cond.selects "[Ljava/lang/Object;" ⟨"java/lang/Object", "getClass", "()Ljava/lang/Class;"⟩ ⟨"java/lang/Object", "getClass", "()Ljava/lang/Class;"⟩, Cond.instanceMethod ⟨"java/lang/Object", "getClass", "()Ljava/lang/Class;"⟩, Cond.native ⟨"java/lang/Object", "getClass", "()Ljava/lang/Class;"⟩, Cond.methodLink RJ7 300 yJ7_copyOf_6403c, Cond.static yJ7_copyOf_6403c, Cond.code yJ7_copyOf_6403c cJ7_copyOf_6403c 4 (some (.array (.object "java/lang/Object"))), Cond.classLink RJ7 110 "[Ljava/lang/Object;", Cond.classLink RJ7 2 "java/lang/Object", Cond.methodLink RJ7 304 Lib.Math.min.name, Cond.static Lib.Math.min.name, Cond.code Lib.Math.min.name Lib.Math.min.code 2 (some .int), Cond.methodLink RJ7 150 arraycopyName, Cond.native arraycopyName, Cond.static arraycopyName, Cond.initialized "java/lang/System", Cond.methodLink RL 104 yX7_hire, Cond.instanceMethod yX7_hire, Cond.selects RX7 yX7_hire yX7_hire, Cond.code yX7_hire cX7_hire 5 (some .int), Cond.fieldLink RX7 67 "SalonBookModel" "staff" "I", Cond.methodLink RX7 63 yX7_in, Cond.static yX7_in]
def wsL_law0_r8 : List Cond := [Cond.code yX7_in cX7_in 3 (some .boolean), Cond.methodLink RX7 77 yX7_isFine, Cond.instanceMethod yX7_isFine, Cond.selects RX7 yX7_isFine yX7_isFine, Cond.code yX7_isFine cX7_isFine 2 (some .boolean), Cond.fieldLink RX7 56 "SalonBookModel" "thrown" "I", Cond.methodLink RL 105 yX7_thrown, Cond.instanceMethod yX7_thrown, Cond.selects RX7 yX7_thrown yX7_thrown, Cond.code yX7_thrown cX7_thrown 1 (some .int), Cond.methodLink RL 109 yL_addService, Cond.static yL_addService, Cond.codeWith yL_addService cL_addService 5 (some .int) [(0, 10, 13, 13), (0, 10, 17, 15)], Cond.methodLink RL 17 yX6_addService, Cond.instanceMethod yX6_addService, Cond.selects RX6 yX6_addService yX6_addService, Cond.code yX6_addService cX6_addService 4 (some .int), Cond.fieldLink RX6 92 "SalonBook$Service" "number" "I", Cond.methodLink RX6 70 yX6_isSkill, Cond.static yX6_isSkill, Cond.code yX6_isSkill cX6_isSkill 1 (some .boolean), Cond.methodLink RX6 75 yX6_requireStepMinutes, Cond.static yX6_requireStepMinutes, Cond.code yX6_requireStepMinutes cX6_requireStepMinutes 1 none]
def wsL_law0_r9 : List Cond := [Cond.methodLink RX6 79 yX6_requireRoomForService, Cond.instanceMethod yX6_requireRoomForService, Cond.selects RX6 yX6_requireRoomForService yX6_requireRoomForService, Cond.code yX6_requireRoomForService cX6_requireRoomForService 1 none, Cond.methodLink RX6 82 yX6_newService, Cond.instanceMethod yX6_newService, Cond.selects RX6 yX6_newService yX6_newService, Cond.code yX6_newService cX6_newService 2 (some (.object "SalonBook$Service")), Cond.classLink RX6 87 RX4, Cond.instantiable RX4 9, Cond.initialized RX4, Cond.methodLink RX6 259 yX4_init, Cond.instanceMethod yX4_init, Cond.code yX4_init cX4_init 2 none, Cond.methodLink RX4 3 objectInit, Cond.fieldLink RX4 9 "SalonBook$Service" "stepSkills" "[I", Cond.fieldLink RX4 15 "SalonBook$Service" "stepStarts" "[I", Cond.fieldLink RX4 18 "SalonBook$Service" "stepEnds" "[I", Cond.fieldLink RX4 21 "SalonBook$Service" "number" "I", Cond.methodLink RX6 86 yX4_append, Cond.instanceMethod yX4_append, Cond.selects RX4 yX4_append yX4_append, Cond.code yX4_append cX4_append 3 none, Cond.fieldLink RX4 25 "SalonBook$Service" "steps" "I"]
def wsL_law0_r10 : List Cond := [Cond.fieldLink RX4 28 "SalonBook$Service" "length" "I", Cond.fieldLink RX4 31 "SalonBook$Service" "work" "I", Cond.fieldLink RX4 34 "SalonBook$Service" "skills" "I", Cond.methodLink RL 112 yX7_addService, Cond.instanceMethod yX7_addService, Cond.selects RX7 yX7_addService yX7_addService, Cond.code yX7_addService cX7_addService 3 (some .int), Cond.fieldLink RX7 60 "SalonBookModel" "services" "I", Cond.methodLink RX7 80 yX7_puts, Cond.instanceMethod yX7_puts, Cond.selects RX7 yX7_puts yX7_puts, Cond.code yX7_puts cX7_puts 4 none, Cond.methodLink RL 113 yL_addStep, Cond.static yL_addStep, Cond.codeWith yL_addStep cL_addStep 6 (some .int) [(0, 12, 15, 24), (0, 12, 19, 13), (0, 12, 23, 15)], Cond.classLink RL 24 "java/lang/IndexOutOfBoundsException", Cond.methodLink RL 21 yX6_addStep, Cond.instanceMethod yX6_addStep, Cond.selects RX6 yX6_addStep yX6_addStep, Cond.code yX6_addStep cX6_addStep 5 (some .int), Cond.classLink RX6 87 "SalonBook$Service", Cond.fieldLink RX6 103 "SalonBook$Service" "steps" "I", Cond.fieldLink RX6 108 "SalonBook$Service" "fixed" "Z", Cond.methodLink RX6 96 yX6_requireService]
def wsL_law0_r11 : List Cond := [Cond.instanceMethod yX6_requireService, Cond.selects RX6 yX6_requireService yX6_requireService, Cond.code yX6_requireService cX6_requireService 2 none, Cond.classLink RX6 180 "java/lang/IndexOutOfBoundsException", Cond.initialized "java/lang/IndexOutOfBoundsException", Cond.methodLink RX6 99 yJx4a65c_get_915e3, Cond.instanceMethod yJx4a65c_get_915e3, Cond.selects RJx4a65c yJx4a65c_get_915e3 yJx4a65c_get_915e3, Cond.code yJx4a65c_get_915e3 cJx4a65c_get_915e3 2 (some (.object "java/lang/Object")), Cond.methodLink RJx4a65c 118 yJ15_checkIndex_7cf53, Cond.static yJ15_checkIndex_7cf53, Cond.initialized RJ15, Cond.code yJ15_checkIndex_7cf53 cJ15_checkIndex_7cf53 2 (some .int), Cond.methodLink RJ15 105 yJ3_checkIndex_8e157, Cond.static yJ3_checkIndex_8e157, Cond.initialized RJ3, Cond.code yJ3_checkIndex_8e157 cJ3_checkIndex_8e157 3 (some .int), Cond.methodLink RJx4a65c 123 yJx4a65c_elementData_915e3, Cond.instanceMethod yJx4a65c_elementData_915e3, Cond.selects RJx4a65c yJx4a65c_elementData_915e3 yJx4a65c_elementData_915e3, Cond.code yJx4a65c_elementData_915e3 cJx4a65c_elementData_915e3 2 (some (.object "java/lang/Object")), Cond.methodLink RL 115 yX7_addStep, Cond.instanceMethod yX7_addStep, Cond.selects RX7 yX7_addStep yX7_addStep]
def wsL_law0_r12 : List Cond := [Cond.code yX7_addStep cX7_addStep 5 (some .int), Cond.methodLink RX7 84 yX7_isService, Cond.instanceMethod yX7_isService, Cond.selects RX7 yX7_isService yX7_isService, Cond.code yX7_isService cX7_isService 2 (some .boolean), Cond.methodLink RL 116 yL_addUsual, Cond.static yL_addUsual, Cond.codeWith yL_addUsual cL_addUsual 4 (some .int) [(0, 9, 12, 13), (0, 9, 15, 15)], Cond.methodLink RL 26 yX6_addUsual, Cond.instanceMethod yX6_addUsual, Cond.selects RX6 yX6_addUsual yX6_addUsual, Cond.code yX6_addUsual cX6_addUsual 3 (some .int), Cond.methodLink RX6 116 yX6_appendUsualSteps, Cond.static yX6_appendUsualSteps, Cond.code yX6_appendUsualSteps cX6_appendUsualSteps 2 none, Cond.methodLink RL 119 yX7_addUsual, Cond.instanceMethod yX7_addUsual, Cond.selects RX7 yX7_addUsual yX7_addUsual, Cond.code yX7_addUsual cX7_addUsual 2 (some .int), Cond.methodLink RL 120 yL_book, Cond.static yL_book, Cond.codeWith yL_book cL_book 5 (some .int) [(0, 10, 13, 24), (0, 10, 17, 15), (0, 10, 21, 33)], Cond.classLink RL 33 "java/util/NoSuchElementException", Cond.methodLink RL 30 yX6_book]
def wsL_law0_r13 : List Cond := [Cond.instanceMethod yX6_book, Cond.selects RX6 yX6_book yX6_book, Cond.code yX6_book cX6_book 3 (some .int), Cond.methodLink RX6 120 yX6_requireMinute, Cond.static yX6_requireMinute, Cond.code yX6_requireMinute cX6_requireMinute 1 none, Cond.methodLink RX6 123 yX6_requireRoomForVisit, Cond.instanceMethod yX6_requireRoomForVisit, Cond.selects RX6 yX6_requireRoomForVisit yX6_requireRoomForVisit, Cond.code yX6_requireRoomForVisit cX6_requireRoomForVisit 1 none, Cond.methodLink RX6 126 yX6_bookFirst, Cond.instanceMethod yX6_bookFirst, Cond.selects RX6 yX6_bookFirst yX6_bookFirst, Cond.code yX6_bookFirst cX6_bookFirst 5 (some .int), Cond.classLink RX6 162 "java/util/NoSuchElementException", Cond.initialized "java/util/NoSuchElementException", Cond.methodLink RX6 155 yX6_firstStart, Cond.instanceMethod yX6_firstStart, Cond.selects RX6 yX6_firstStart yX6_firstStart, Cond.code yX6_firstStart cX6_firstStart 5 (some .int), Cond.fieldLink RX6 186 "SalonBook$Service" "length" "I", Cond.methodLink RX6 286 yX6_gatherCandidates, Cond.instanceMethod yX6_gatherCandidates, Cond.selects RX6 yX6_gatherCandidates yX6_gatherCandidates]
def wsL_law0_r14 : List Cond := [Cond.code yX6_gatherCandidates cX6_gatherCandidates 5 none, Cond.classLink RX6 61 "SalonBook$Member", Cond.fieldLink RX6 301 "SalonBook$Member" "from" "I", Cond.classLink RX6 136 "SalonBook$Visit", Cond.fieldLink RX6 144 "SalonBook$Visit" "start" "I", Cond.fieldLink RX6 151 "SalonBook$Visit" "service" "LSalonBook$Service;", Cond.methodLink RX6 296 yX2_clear, Cond.instanceMethod yX2_clear, Cond.selects RX2 yX2_clear yX2_clear, Cond.code yX2_clear cX2_clear 2 none, Cond.methodLink RX6 299 yX2_add, Cond.instanceMethod yX2_add, Cond.selects RX2 yX2_add yX2_add, Cond.code yX2_add cX2_add 2 none, Cond.methodLink RX6 249 yX5_isDropped, Cond.instanceMethod yX5_isDropped, Cond.selects RX5 yX5_isDropped yX5_isDropped, Cond.initialized RX5, Cond.code yX5_isDropped cX5_isDropped 1 (some .boolean), Cond.fieldLink RX5 18 "SalonBook$Visit" "start" "I", Cond.methodLink RX6 304 yX6_addStartsBehindSteps, Cond.instanceMethod yX6_addStartsBehindSteps, Cond.selects RX6 yX6_addStartsBehindSteps yX6_addStartsBehindSteps, Cond.code yX6_addStartsBehindSteps cX6_addStartsBehindSteps 6 none]
def wsL_law0_r15 : List Cond := [Cond.methodLink RX6 227 yX4_stepTo, Cond.instanceMethod yX4_stepTo, Cond.selects RX4 yX4_stepTo yX4_stepTo, Cond.code yX4_stepTo cX4_stepTo 2 (some .int), Cond.methodLink RX6 221 yX4_isRest, Cond.instanceMethod yX4_isRest, Cond.selects RX4 yX4_isRest yX4_isRest, Cond.code yX4_isRest cX4_isRest 2 (some .boolean), Cond.methodLink RX6 224 yX4_stepFrom, Cond.instanceMethod yX4_stepFrom, Cond.selects RX4 yX4_stepFrom yX4_stepFrom, Cond.code yX4_stepFrom cX4_stepFrom 2 (some .int), Cond.methodLink RX6 289 yX2_has, Cond.instanceMethod yX2_has, Cond.selects RX2 yX2_has yX2_has, Cond.code yX2_has cX2_has 2 (some .boolean), Cond.methodLink RX6 292 yX6_hasRoom, Cond.instanceMethod yX6_hasRoom, Cond.selects RX6 yX6_hasRoom yX6_hasRoom, Cond.code yX6_hasRoom cX6_hasRoom 4 (some .boolean), Cond.methodLink RX6 270 yX6_chairFor, Cond.instanceMethod yX6_chairFor, Cond.selects RX6 yX6_chairFor yX6_chairFor, Cond.code yX6_chairFor cX6_chairFor 4 (some .int)]
def wsL_law0_r16 : List Cond := [Cond.methodLink RX6 312 yX0_isFree, Cond.instanceMethod yX0_isFree, Cond.selects RX0 yX0_isFree yX0_isFree, Cond.code yX0_isFree cX0_isFree 3 (some .boolean), Cond.methodLink RX6 218 yX6_memberFor, Cond.instanceMethod yX6_memberFor, Cond.selects RX6 yX6_memberFor yX6_memberFor, Cond.code yX6_memberFor cX6_memberFor 8 (some .int), Cond.methodLink RX6 308 yX1_canTake, Cond.instanceMethod yX1_canTake, Cond.selects RX1 yX1_canTake yX1_canTake, Cond.code yX1_canTake cX1_canTake 6 (some .boolean), Cond.fieldLink RX1 26 "SalonBook$Service" "skills" "I", Cond.fieldLink RX1 29 "SalonBook$Service" "length" "I", Cond.fieldLink RX1 32 "SalonBook$Service" "steps" "I", Cond.methodLink RX1 35 yX4_stepFrom, Cond.methodLink RX1 39 yX4_stepTo, Cond.methodLink RX1 42 yX4_isRest, Cond.methodLink RX1 46 yX0_isFree, Cond.methodLink RX6 198 yX6_workBookedWith, Cond.instanceMethod yX6_workBookedWith, Cond.selects RX6 yX6_workBookedWith yX6_workBookedWith, Cond.code yX6_workBookedWith cX6_workBookedWith 5 (some .int), Cond.fieldLink RX6 138 "SalonBook$Visit" "staff" "I"]
def wsL_law0_r17 : List Cond := [Cond.fieldLink RX6 189 "SalonBook$Service" "work" "I", Cond.methodLink RX6 263 yX6_bookAt, Cond.instanceMethod yX6_bookAt, Cond.selects RX6 yX6_bookAt yX6_bookAt, Cond.code yX6_bookAt cX6_bookAt 5 (some .int), Cond.classLink RX6 136 RX5, Cond.instantiable RX5 5, Cond.fieldLink RX6 269 "SalonBook$Visit" "number" "I", Cond.methodLink RX6 266 yX5_init, Cond.instanceMethod yX5_init, Cond.code yX5_init cX5_init 3 none, Cond.methodLink RX5 3 objectInit, Cond.fieldLink RX5 9 "SalonBook$Visit" "staff" "I", Cond.fieldLink RX5 15 "SalonBook$Visit" "chair" "I", Cond.fieldLink RX5 21 "SalonBook$Visit" "number" "I", Cond.fieldLink RX5 24 "SalonBook$Visit" "service" "LSalonBook$Service;", Cond.methodLink RX6 167 yX6_putAt, Cond.instanceMethod yX6_putAt, Cond.selects RX6 yX6_putAt yX6_putAt, Cond.code yX6_putAt cX6_putAt 6 none, Cond.methodLink RX6 158 yX6_put, Cond.instanceMethod yX6_put, Cond.selects RX6 yX6_put yX6_put, Cond.code yX6_put cX6_put 5 none]
def wsL_law0_r18 : List Cond := [Cond.fieldLink RX6 141 "SalonBook$Visit" "chair" "I", Cond.methodLink RX6 274 yX6_write, Cond.instanceMethod yX6_write, Cond.selects RX6 yX6_write yX6_write, Cond.code yX6_write cX6_write 8 none, Cond.fieldLink RX6 202 "SalonBook$Member" "diary" "LSalonBook$Diary;", Cond.methodLink RX6 242 yX6_isMember, Cond.instanceMethod yX6_isMember, Cond.selects RX6 yX6_isMember yX6_isMember, Cond.code yX6_isMember cX6_isMember 2 (some .boolean), Cond.methodLink RX6 209 yX6_isChair, Cond.static yX6_isChair, Cond.code yX6_isChair cX6_isChair 1 (some .boolean), Cond.methodLink RX6 278 yX0_write, Cond.instanceMethod yX0_write, Cond.selects RX0 yX0_write yX0_write, Cond.code yX0_write cX0_write 5 none, Cond.methodLink RL 122 yX7_book, Cond.instanceMethod yX7_book, Cond.selects RX7 yX7_book yX7_book, Cond.code yX7_book cX7_book 5 (some .int), Cond.fieldLink RX7 70 "SalonBookModel" "visits" "I", Cond.methodLink RX7 124 yX7_isMinute, Cond.static yX7_isMinute]
def wsL_law0_r19 : List Cond := [Cond.code yX7_isMinute cX7_isMinute 1 (some .boolean), Cond.methodLink RX7 127 yX7_find, Cond.instanceMethod yX7_find, Cond.selects RX7 yX7_find yX7_find, Cond.code yX7_find cX7_find 5 (some .int), Cond.fieldLink RX7 107 "SalonBookModel" "foundStaff" "I", Cond.fieldLink RX7 114 "SalonBookModel" "foundChair" "I", Cond.methodLink RX7 87 yX7_length, Cond.instanceMethod yX7_length, Cond.selects RX7 yX7_length yX7_length, Cond.code yX7_length cX7_length 4 (some .int), Cond.methodLink RX7 103 yX7_takerOf, Cond.instanceMethod yX7_takerOf, Cond.selects RX7 yX7_takerOf yX7_takerOf, Cond.code yX7_takerOf cX7_takerOf 7 (some .int), Cond.methodLink RX7 97 yX7_canTake, Cond.instanceMethod yX7_canTake, Cond.selects RX7 yX7_canTake yX7_canTake, Cond.code yX7_canTake cX7_canTake 9 (some .boolean), Cond.methodLink RX7 91 yX7_asked, Cond.instanceMethod yX7_asked, Cond.selects RX7 yX7_asked yX7_asked, Cond.code yX7_asked cX7_asked 5 (some .int), Cond.methodLink RX7 100 yX7_load]
def wsL_law0_r20 : List Cond := [Cond.instanceMethod yX7_load, Cond.selects RX7 yX7_load yX7_load, Cond.code yX7_load cX7_load 4 (some .int), Cond.methodLink RX7 94 yX7_work, Cond.instanceMethod yX7_work, Cond.selects RX7 yX7_work yX7_work, Cond.code yX7_work cX7_work 4 (some .int), Cond.methodLink RX7 110 yX7_chairFor, Cond.instanceMethod yX7_chairFor, Cond.selects RX7 yX7_chairFor yX7_chairFor, Cond.code yX7_chairFor cX7_chairFor 7 (some .int), Cond.methodLink RX7 130 yX7_books, Cond.instanceMethod yX7_books, Cond.selects RX7 yX7_books yX7_books, Cond.code yX7_books cX7_books 3 (some .int), Cond.methodLink RX7 121 yX7_lays, Cond.instanceMethod yX7_lays, Cond.selects RX7 yX7_lays yX7_lays, Cond.code yX7_lays cX7_lays 4 none, Cond.methodLink RX7 117 yX7_marks, Cond.instanceMethod yX7_marks, Cond.selects RX7 yX7_marks yX7_marks, Cond.code yX7_marks cX7_marks 7 none, Cond.methodLink RL 123 yL_bookWith]
def wsL_law0_r21 : List Cond := [Cond.static yL_bookWith, Cond.codeWith yL_bookWith cL_bookWith 6 (some .int) [(0, 12, 15, 24), (0, 12, 19, 15), (0, 12, 23, 33)], Cond.methodLink RL 35 yX6_bookWith, Cond.instanceMethod yX6_bookWith, Cond.selects RX6 yX6_bookWith yX6_bookWith, Cond.code yX6_bookWith cX6_bookWith 4 (some .int), Cond.methodLink RX6 130 yX6_requireMember, Cond.instanceMethod yX6_requireMember, Cond.selects RX6 yX6_requireMember yX6_requireMember, Cond.code yX6_requireMember cX6_requireMember 2 none, Cond.methodLink RL 125 yX7_bookWith, Cond.instanceMethod yX7_bookWith, Cond.selects RX7 yX7_bookWith yX7_bookWith, Cond.code yX7_bookWith cX7_bookWith 6 (some .int), Cond.methodLink RX7 133 yX7_isStaff, Cond.instanceMethod yX7_isStaff, Cond.selects RX7 yX7_isStaff yX7_isStaff, Cond.code yX7_isStaff cX7_isStaff 2 (some .boolean), Cond.methodLink RL 126 yL_move, Cond.static yL_move, Cond.codeWith yL_move cL_move 5 (some .int) [(0, 10, 13, 24), (0, 10, 17, 33)], Cond.methodLink RL 38 yX6_move, Cond.instanceMethod yX6_move, Cond.selects RX6 yX6_move yX6_move]
def wsL_law0_r22 : List Cond := [Cond.code yX6_move cX6_move 8 (some .int), Cond.methodLink RX6 133 yX6_requireUndropped, Cond.instanceMethod yX6_requireUndropped, Cond.selects RX6 yX6_requireUndropped yX6_requireUndropped, Cond.code yX6_requireUndropped cX6_requireUndropped 2 none, Cond.methodLink RX6 195 yX6_requireVisit, Cond.instanceMethod yX6_requireVisit, Cond.selects RX6 yX6_requireVisit yX6_requireVisit, Cond.code yX6_requireVisit cX6_requireVisit 2 none, Cond.methodLink RX6 147 yX6_takeOut, Cond.instanceMethod yX6_takeOut, Cond.selects RX6 yX6_takeOut yX6_takeOut, Cond.code yX6_takeOut cX6_takeOut 2 none, Cond.methodLink RX6 171 yX6_serveWaiting, Cond.instanceMethod yX6_serveWaiting, Cond.selects RX6 yX6_serveWaiting yX6_serveWaiting, Cond.code yX6_serveWaiting cX6_serveWaiting 8 (some .int), Cond.classLink RX6 176 "SalonBook$Request", Cond.fieldLink RX6 185 "SalonBook$Request" "service" "LSalonBook$Service;", Cond.fieldLink RX6 280 "SalonBook$Request" "latest" "I", Cond.methodLink RX6 283 yJx4a65c_remove_915e3, Cond.instanceMethod yJx4a65c_remove_915e3, Cond.selects RJx4a65c yJx4a65c_remove_915e3 yJx4a65c_remove_915e3, Cond.code yJx4a65c_remove_915e3 cJx4a65c_remove_915e3 4 (some (.object "java/lang/Object"))]
def wsL_law0_r23 : List Cond := [Cond.methodLink RJx4a65c 144 yJx4a65c_fastRemove_b59b0, Cond.instanceMethod yJx4a65c_fastRemove_b59b0, Cond.selects RJx4a65c yJx4a65c_fastRemove_b59b0 yJx4a65c_fastRemove_b59b0, Cond.code yJx4a65c_fastRemove_b59b0 cJx4a65c_fastRemove_b59b0 4 none, Cond.methodLink RJx4a65c 112 arraycopyName, Cond.methodLink RL 128 yX7_move, Cond.instanceMethod yX7_move, Cond.selects RX7 yX7_move yX7_move, Cond.code yX7_move cX7_move 5 (some .int), Cond.methodLink RX7 139 yX7_isThere, Cond.instanceMethod yX7_isThere, Cond.selects RX7 yX7_isThere yX7_isThere, Cond.code yX7_isThere cX7_isThere 2 (some .boolean), Cond.methodLink RX7 73 yX7_isVisit, Cond.instanceMethod yX7_isVisit, Cond.selects RX7 yX7_isVisit yX7_isVisit, Cond.code yX7_isVisit cX7_isVisit 2 (some .boolean), Cond.methodLink RX7 142 yX7_serves, Cond.instanceMethod yX7_serves, Cond.selects RX7 yX7_serves yX7_serves, Cond.code yX7_serves cX7_serves 6 (some .int), Cond.fieldLink RX7 136 "SalonBookModel" "requests" "I", Cond.methodLink RL 129 yL_drop, Cond.static yL_drop]
def wsL_law0_r24 : List Cond := [Cond.codeWith yL_drop cL_drop 4 (some .int) [(0, 9, 12, 24)], Cond.methodLink RL 41 yX6_drop, Cond.instanceMethod yX6_drop, Cond.selects RX6 yX6_drop yX6_drop, Cond.code yX6_drop cX6_drop 2 (some .int), Cond.methodLink RL 131 yX7_drop, Cond.instanceMethod yX7_drop, Cond.selects RX7 yX7_drop yX7_drop, Cond.code yX7_drop cX7_drop 2 (some .int), Cond.methodLink RL 132 yL_request, Cond.static yL_request, Cond.codeWith yL_request cL_request 5 (some .int) [(0, 10, 13, 24), (0, 10, 17, 15)], Cond.methodLink RL 44 yX6_request, Cond.instanceMethod yX6_request, Cond.selects RX6 yX6_request yX6_request, Cond.code yX6_request cX6_request 4 (some .int), Cond.classLink RX6 176 RX3, Cond.instantiable RX3 2, Cond.initialized RX3, Cond.methodLink RX6 178 yX3_init, Cond.instanceMethod yX3_init, Cond.code yX3_init cX3_init 3 none, Cond.methodLink RX3 1 objectInit, Cond.fieldLink RX3 7 "SalonBook$Request" "service" "LSalonBook$Service;"]
def wsL_law0_r25 : List Cond := [Cond.fieldLink RX3 13 "SalonBook$Request" "latest" "I", Cond.methodLink RL 134 yX7_request, Cond.instanceMethod yX7_request, Cond.selects RX7 yX7_request yX7_request, Cond.code yX7_request cX7_request 3 (some .int), Cond.methodLink RL 135 yX6_requests, Cond.instanceMethod yX6_requests, Cond.selects RX6 yX6_requests yX6_requests, Cond.code yX6_requests cX6_requests 1 (some .int), Cond.methodLink RL 138 yX7_requests, Cond.instanceMethod yX7_requests, Cond.selects RX7 yX7_requests yX7_requests, Cond.code yX7_requests cX7_requests 1 (some .int), Cond.methodLink RL 139 yL_requestAt, Cond.static yL_requestAt, Cond.codeWith yL_requestAt cL_requestAt 4 (some .int) [(0, 9, 12, 24)], Cond.methodLink RL 47 yX6_requestAt, Cond.instanceMethod yX6_requestAt, Cond.selects RX6 yX6_requestAt yX6_requestAt, Cond.code yX6_requestAt cX6_requestAt 2 (some .int), Cond.methodLink RL 141 yX7_requestAt, Cond.instanceMethod yX7_requestAt, Cond.selects RX7 yX7_requestAt yX7_requestAt, Cond.code yX7_requestAt cX7_requestAt 2 (some .int)]
def wsL_law0_r26 : List Cond := [Cond.methodLink RL 142 yL_lengthOf, Cond.static yL_lengthOf, Cond.codeWith yL_lengthOf cL_lengthOf 4 (some .int) [(0, 9, 12, 24)], Cond.methodLink RL 50 yX6_lengthOf, Cond.instanceMethod yX6_lengthOf, Cond.selects RX6 yX6_lengthOf yX6_lengthOf, Cond.code yX6_lengthOf cX6_lengthOf 2 (some .int), Cond.methodLink RL 144 yX7_lengthOf, Cond.instanceMethod yX7_lengthOf, Cond.selects RX7 yX7_lengthOf yX7_lengthOf, Cond.code yX7_lengthOf cX7_lengthOf 2 (some .int), Cond.methodLink RL 145 yL_workOf, Cond.static yL_workOf, Cond.codeWith yL_workOf cL_workOf 4 (some .int) [(0, 9, 12, 24)], Cond.methodLink RL 53 yX6_workOf, Cond.instanceMethod yX6_workOf, Cond.selects RX6 yX6_workOf yX6_workOf, Cond.code yX6_workOf cX6_workOf 2 (some .int), Cond.methodLink RL 147 yX7_workOf, Cond.instanceMethod yX7_workOf, Cond.selects RX7 yX7_workOf yX7_workOf, Cond.code yX7_workOf cX7_workOf 2 (some .int), Cond.methodLink RL 148 yL_skillsOf, Cond.static yL_skillsOf]
def wsL_law0_r27 : List Cond := [Cond.codeWith yL_skillsOf cL_skillsOf 4 (some .int) [(0, 9, 12, 24)], Cond.methodLink RL 56 yX6_skillsOf, Cond.instanceMethod yX6_skillsOf, Cond.selects RX6 yX6_skillsOf yX6_skillsOf, Cond.code yX6_skillsOf cX6_skillsOf 2 (some .int), Cond.fieldLink RX6 192 "SalonBook$Service" "skills" "I", Cond.methodLink RL 150 yX7_skillsOf, Cond.instanceMethod yX7_skillsOf, Cond.selects RX7 yX7_skillsOf yX7_skillsOf, Cond.code yX7_skillsOf cX7_skillsOf 2 (some .int), Cond.methodLink RL 151 yX6_visits, Cond.instanceMethod yX6_visits, Cond.selects RX6 yX6_visits yX6_visits, Cond.code yX6_visits cX6_visits 1 (some .int), Cond.methodLink RL 154 yX7_visits, Cond.instanceMethod yX7_visits, Cond.selects RX7 yX7_visits yX7_visits, Cond.code yX7_visits cX7_visits 1 (some .int), Cond.methodLink RL 155 yL_startOf, Cond.static yL_startOf, Cond.codeWith yL_startOf cL_startOf 4 (some .int) [(0, 9, 12, 24)], Cond.methodLink RL 59 yX6_startOf, Cond.instanceMethod yX6_startOf, Cond.selects RX6 yX6_startOf yX6_startOf]
def wsL_law0_r28 : List Cond := [Cond.code yX6_startOf cX6_startOf 2 (some .int), Cond.methodLink RL 157 yX7_startOf, Cond.instanceMethod yX7_startOf, Cond.selects RX7 yX7_startOf yX7_startOf, Cond.code yX7_startOf cX7_startOf 2 (some .int), Cond.methodLink RL 158 yL_staffOf, Cond.static yL_staffOf, Cond.codeWith yL_staffOf cL_staffOf 4 (some .int) [(0, 9, 12, 24)], Cond.methodLink RL 62 yX6_staffOf, Cond.instanceMethod yX6_staffOf, Cond.selects RX6 yX6_staffOf yX6_staffOf, Cond.code yX6_staffOf cX6_staffOf 2 (some .int), Cond.methodLink RL 160 yX7_staffOf, Cond.instanceMethod yX7_staffOf, Cond.selects RX7 yX7_staffOf yX7_staffOf, Cond.code yX7_staffOf cX7_staffOf 2 (some .int), Cond.methodLink RL 161 yL_chairOf, Cond.static yL_chairOf, Cond.codeWith yL_chairOf cL_chairOf 4 (some .int) [(0, 9, 12, 24)], Cond.methodLink RL 65 yX6_chairOf, Cond.instanceMethod yX6_chairOf, Cond.selects RX6 yX6_chairOf yX6_chairOf, Cond.code yX6_chairOf cX6_chairOf 2 (some .int), Cond.methodLink RL 163 yX7_chairOf]
def wsL_law0_r29 : List Cond := [Cond.instanceMethod yX7_chairOf, Cond.selects RX7 yX7_chairOf yX7_chairOf, Cond.code yX7_chairOf cX7_chairOf 2 (some .int), Cond.methodLink RL 164 yL_serviceOf, Cond.static yL_serviceOf, Cond.codeWith yL_serviceOf cL_serviceOf 4 (some .int) [(0, 9, 12, 24)], Cond.methodLink RL 68 yX6_serviceOf, Cond.instanceMethod yX6_serviceOf, Cond.selects RX6 yX6_serviceOf yX6_serviceOf, Cond.code yX6_serviceOf cX6_serviceOf 2 (some .int), Cond.methodLink RL 166 yX7_serviceOf, Cond.instanceMethod yX7_serviceOf, Cond.selects RX7 yX7_serviceOf yX7_serviceOf, Cond.code yX7_serviceOf cX7_serviceOf 2 (some .int), Cond.methodLink RL 167 yL_loadOf, Cond.static yL_loadOf, Cond.codeWith yL_loadOf cL_loadOf 4 (some .int) [(0, 9, 12, 24)], Cond.methodLink RL 71 yX6_loadOf, Cond.instanceMethod yX6_loadOf, Cond.selects RX6 yX6_loadOf yX6_loadOf, Cond.code yX6_loadOf cX6_loadOf 2 (some .int), Cond.methodLink RL 169 yX7_loadOf, Cond.instanceMethod yX7_loadOf, Cond.selects RX7 yX7_loadOf yX7_loadOf]
def wsL_law0_r30 : List Cond := [Cond.code yX7_loadOf cX7_loadOf 2 (some .int), Cond.methodLink RL 170 yL_staffAt, Cond.static yL_staffAt, Cond.codeWith yL_staffAt cL_staffAt 5 (some .int) [(0, 10, 13, 24)], Cond.methodLink RL 74 yX6_staffAt, Cond.instanceMethod yX6_staffAt, Cond.selects RX6 yX6_staffAt yX6_staffAt, Cond.code yX6_staffAt cX6_staffAt 3 (some .int), Cond.methodLink RX6 206 yX0_at, Cond.instanceMethod yX0_at, Cond.selects RX0 yX0_at yX0_at, Cond.code yX0_at cX0_at 2 (some .int), Cond.methodLink RL 172 yX7_staffAt, Cond.instanceMethod yX7_staffAt, Cond.selects RX7 yX7_staffAt yX7_staffAt, Cond.code yX7_staffAt cX7_staffAt 3 (some .int), Cond.methodLink RL 173 yL_chairAt, Cond.static yL_chairAt, Cond.codeWith yL_chairAt cL_chairAt 5 (some .int) [(0, 10, 13, 24)], Cond.methodLink RL 77 yX6_chairAt, Cond.instanceMethod yX6_chairAt, Cond.selects RX6 yX6_chairAt yX6_chairAt, Cond.code yX6_chairAt cX6_chairAt 3 (some .int), Cond.methodLink RL 175 yX7_chairAt]
def wsL_law0_r31 : List Cond := [Cond.instanceMethod yX7_chairAt, Cond.selects RX7 yX7_chairAt yX7_chairAt, Cond.code yX7_chairAt cX7_chairAt 3 (some .int), Cond.methodLink RL 176 yL_earliest, Cond.static yL_earliest, Cond.codeWith yL_earliest cL_earliest 5 (some .int) [(0, 10, 13, 24)], Cond.methodLink RL 80 yX6_earliest, Cond.instanceMethod yX6_earliest, Cond.selects RX6 yX6_earliest yX6_earliest, Cond.code yX6_earliest cX6_earliest 3 (some .int), Cond.methodLink RL 178 yX7_earliest, Cond.instanceMethod yX7_earliest, Cond.selects RX7 yX7_earliest yX7_earliest, Cond.code yX7_earliest cX7_earliest 3 (some .int), Cond.methodLink RL 179 yL_earliestByScan, Cond.static yL_earliestByScan, Cond.codeWith yL_earliestByScan cL_earliestByScan 5 (some .int) [(0, 10, 13, 24)], Cond.methodLink RL 83 yX6_earliestByScan, Cond.instanceMethod yX6_earliestByScan, Cond.selects RX6 yX6_earliestByScan yX6_earliestByScan, Cond.code yX6_earliestByScan cX6_earliestByScan 3 (some .int), Cond.methodLink RX6 214 yX6_firstStartByScan, Cond.instanceMethod yX6_firstStartByScan, Cond.selects RX6 yX6_firstStartByScan yX6_firstStartByScan]
def wsL_law0_r32 : List Cond := [Cond.code yX6_firstStartByScan cX6_firstStartByScan 6 (some .int), Cond.methodLink RL 181 yX7_earliestByScan, Cond.instanceMethod yX7_earliestByScan, Cond.selects RX7 yX7_earliestByScan yX7_earliestByScan, Cond.code yX7_earliestByScan cX7_earliestByScan 3 (some .int), Cond.methodLink RX7 146 yX7_earliest, Cond.methodLink RL 182 yL_staffFor, Cond.static yL_staffFor, Cond.codeWith yL_staffFor cL_staffFor 5 (some .int) [(0, 10, 13, 24)], Cond.methodLink RL 86 yX6_staffFor, Cond.instanceMethod yX6_staffFor, Cond.selects RX6 yX6_staffFor yX6_staffFor, Cond.code yX6_staffFor cX6_staffFor 5 (some .int), Cond.methodLink RL 184 yX7_staffFor, Cond.instanceMethod yX7_staffFor, Cond.selects RX7 yX7_staffFor yX7_staffFor, Cond.code yX7_staffFor cX7_staffFor 3 (some .int), Cond.methodLink RL 185 yL_inRest, Cond.static yL_inRest, Cond.codeWith yL_inRest cL_inRest 5 (some .int) [(0, 10, 13, 24)], Cond.methodLink RL 89 yX6_inRest, Cond.instanceMethod yX6_inRest, Cond.selects RX6 yX6_inRest yX6_inRest, Cond.code yX6_inRest cX6_inRest 9 (some .int)]
def wsL_law0_r33 : List Cond := [Cond.methodLink RL 187 yX7_inRest, Cond.instanceMethod yX7_inRest, Cond.selects RX7 yX7_inRest yX7_inRest, Cond.code yX7_inRest cX7_inRest 8 (some .int), Cond.methodLink RL 188 yL_fill, Cond.static yL_fill, Cond.codeWith yL_fill cL_fill 4 (some .int) [(0, 9, 12, 13)], Cond.methodLink RL 92 yX6_fill, Cond.instanceMethod yX6_fill, Cond.selects RX6 yX6_fill yX6_fill, Cond.code yX6_fill cX6_fill 7 (some .int), Cond.methodLink RX6 232 yX6_lengthOfAll, Cond.instanceMethod yX6_lengthOfAll, Cond.selects RX6 yX6_lengthOfAll yX6_lengthOfAll, Cond.code yX6_lengthOfAll cX6_lengthOfAll 4 (some .int), Cond.methodLink RL 190 yX7_fill, Cond.instanceMethod yX7_fill, Cond.selects RX7 yX7_fill yX7_fill, Cond.code yX7_fill cX7_fill 7 (some .int), Cond.methodLink RL 191 yX6_peak, Cond.instanceMethod yX6_peak, Cond.selects RX6 yX6_peak yX6_peak, Cond.code yX6_peak cX6_peak 5 (some .int), Cond.methodLink RX6 235 yX6_chairsTakenAt]
def wsL_law0_r34 : List Cond := [Cond.instanceMethod yX6_chairsTakenAt, Cond.selects RX6 yX6_chairsTakenAt yX6_chairsTakenAt, Cond.code yX6_chairsTakenAt cX6_chairsTakenAt 4 (some .int), Cond.methodLink RL 194 yX7_peak, Cond.instanceMethod yX7_peak, Cond.selects RX7 yX7_peak yX7_peak, Cond.code yX7_peak cX7_peak 6 (some .int)]
def wsL_law0 : List Cond := (wsL_law0_r1 ++ (wsL_law0_r2 ++ (wsL_law0_r3 ++ (wsL_law0_r4 ++ (wsL_law0_r5 ++ (wsL_law0_r6 ++ (wsL_law0_r7 ++ (wsL_law0_r8 ++ (wsL_law0_r9 ++ (wsL_law0_r10 ++ (wsL_law0_r11 ++ (wsL_law0_r12 ++ (wsL_law0_r13 ++ (wsL_law0_r14 ++ (wsL_law0_r15 ++ (wsL_law0_r16 ++ (wsL_law0_r17 ++ (wsL_law0_r18 ++ (wsL_law0_r19 ++ (wsL_law0_r20 ++ (wsL_law0_r21 ++ (wsL_law0_r22 ++ (wsL_law0_r23 ++ (wsL_law0_r24 ++ (wsL_law0_r25 ++ (wsL_law0_r26 ++ (wsL_law0_r27 ++ (wsL_law0_r28 ++ (wsL_law0_r29 ++ (wsL_law0_r30 ++ (wsL_law0_r31 ++ (wsL_law0_r32 ++ (wsL_law0_r33 ++ wsL_law0_r34))))))))))))))))))))))))))))))))) ++ wsX60 ++ wsX70 ++ wsJx4a65c0 ++ wsX00 ++ wsX20 ++ wsX10 ++ wsX40 ++ wsX50 ++ wsX30 ++ ([] : List Cond)
def wsL_law : List Cond := wsL_law0 ++ (vx_atS RX6 43 "java/lang/IllegalArgumentException" ["java/lang/RuntimeException", "java/lang/Exception"]).filter goodWord ++ (vx_atS RX6 60 "java/lang/IllegalStateException" ["java/lang/RuntimeException", "java/lang/Exception"]).filter goodWord ++ (vx_atS RX6 184 "java/lang/IndexOutOfBoundsException" ["java/lang/RuntimeException", "java/lang/Exception"]).filter goodWord ++ (vx_atS RX6 166 "java/util/NoSuchElementException" ["java/lang/RuntimeException", "java/lang/Exception"]).filter goodWord
theorem inlX0 : ∀ w ∈ wsX00, w ∈ wsL_law := fun _ h => List.mem_append_left _ (List.mem_append_left _ (List.mem_append_left _ (List.mem_append_left _ (List.mem_append_left _ (List.mem_append_left _ (List.mem_append_left _ (List.mem_append_left _ (List.mem_append_left _ (List.mem_append_left _ (List.mem_append_right _ h))))))))))
theorem inlX1 : ∀ w ∈ wsX10, w ∈ wsL_law := fun _ h => List.mem_append_left _ (List.mem_append_left _ (List.mem_append_left _ (List.mem_append_left _ (List.mem_append_left _ (List.mem_append_left _ (List.mem_append_left _ (List.mem_append_left _ (List.mem_append_right _ h))))))))
theorem inlX2 : ∀ w ∈ wsX20, w ∈ wsL_law := fun _ h => List.mem_append_left _ (List.mem_append_left _ (List.mem_append_left _ (List.mem_append_left _ (List.mem_append_left _ (List.mem_append_left _ (List.mem_append_left _ (List.mem_append_left _ (List.mem_append_left _ (List.mem_append_right _ h)))))))))
theorem inlX3 : ∀ w ∈ wsX30, w ∈ wsL_law := fun _ h => List.mem_append_left _ (List.mem_append_left _ (List.mem_append_left _ (List.mem_append_left _ (List.mem_append_left _ (List.mem_append_right _ h)))))
theorem inlX4 : ∀ w ∈ wsX40, w ∈ wsL_law := fun _ h => List.mem_append_left _ (List.mem_append_left _ (List.mem_append_left _ (List.mem_append_left _ (List.mem_append_left _ (List.mem_append_left _ (List.mem_append_left _ (List.mem_append_right _ h)))))))
theorem inlX5 : ∀ w ∈ wsX50, w ∈ wsL_law := fun _ h => List.mem_append_left _ (List.mem_append_left _ (List.mem_append_left _ (List.mem_append_left _ (List.mem_append_left _ (List.mem_append_left _ (List.mem_append_right _ h))))))
theorem inlX6 : ∀ w ∈ wsX60, w ∈ wsL_law := fun _ h => List.mem_append_left _ (List.mem_append_left _ (List.mem_append_left _ (List.mem_append_left _ (List.mem_append_left _ (List.mem_append_left _ (List.mem_append_left _ (List.mem_append_left _ (List.mem_append_left _ (List.mem_append_left _ (List.mem_append_left _ (List.mem_append_left _ (List.mem_append_left _ (List.mem_append_right _ h)))))))))))))
theorem inlX7 : ∀ w ∈ wsX70, w ∈ wsL_law := fun _ h => List.mem_append_left _ (List.mem_append_left _ (List.mem_append_left _ (List.mem_append_left _ (List.mem_append_left _ (List.mem_append_left _ (List.mem_append_left _ (List.mem_append_left _ (List.mem_append_left _ (List.mem_append_left _ (List.mem_append_left _ (List.mem_append_left _ (List.mem_append_right _ h))))))))))))
theorem inlJx4a65c : ∀ w ∈ wsJx4a65c0, w ∈ wsL_law := fun _ h => List.mem_append_left _ (List.mem_append_left _ (List.mem_append_left _ (List.mem_append_left _ (List.mem_append_left _ (List.mem_append_left _ (List.mem_append_left _ (List.mem_append_left _ (List.mem_append_left _ (List.mem_append_left _ (List.mem_append_left _ (List.mem_append_right _ h)))))))))))
abbrev vwCl : List vw_C := [(RJx4a65c, TJx4a65c, 3), (RX0, TX0, 2), (RX1, TX1, 4), (RX2, TX2, 1), (RX3, TX3, 2), (RX4, TX4, 9), (RX5, TX5, 5), (RX6, TX6, 6), (RX7, TX7, 22)]
end
section
theorem dX0_init_0 : decode cX0_init 0 = .ok (.aload_n 0, 1) := by decide +kernel
theorem dX0_init_1 : decode cX0_init 1 = .ok (.invokespecial 3, 3) := by decide +kernel
theorem dX0_init_4 : decode cX0_init 4 = .ok (.aload_n 0, 1) := by decide +kernel
theorem dX0_init_5 : decode cX0_init 5 = .ok (.sipush 600, 3) := by decide +kernel
theorem dX0_init_8 : decode cX0_init 8 = .ok (.newarray .int, 2) := by decide +kernel
theorem dX0_init_10 : decode cX0_init 10 = .ok (.putfield 9, 3) := by decide +kernel
theorem dX0_init_13 : decode cX0_init 13 = .ok (.aload_n 0, 1) := by decide +kernel
theorem dX0_init_14 : decode cX0_init 14 = .ok (.sipush 601, 3) := by decide +kernel
theorem dX0_init_17 : decode cX0_init 17 = .ok (.newarray .int, 2) := by decide +kernel
theorem dX0_init_19 : decode cX0_init 19 = .ok (.putfield 15, 3) := by decide +kernel
theorem dX0_init_22 : decode cX0_init 22 = .ok (.iconst 0, 1) := by decide +kernel
theorem dX0_init_23 : decode cX0_init 23 = .ok (.istore_n 1, 1) := by decide +kernel
theorem dX0_init_24 : decode cX0_init 24 = .ok (.iload_n 1, 1) := by decide +kernel
theorem dX0_init_25 : decode cX0_init 25 = .ok (.sipush 600, 3) := by decide +kernel
theorem dX0_init_28 : decode cX0_init 28 = .ok (.if_icmp .ge 16, 3) := by decide +kernel
theorem dX0_init_31 : decode cX0_init 31 = .ok (.aload_n 0, 1) := by decide +kernel
theorem dX0_init_32 : decode cX0_init 32 = .ok (.getfield 9, 3) := by decide +kernel
theorem dX0_init_35 : decode cX0_init 35 = .ok (.iload_n 1, 1) := by decide +kernel
theorem dX0_init_36 : decode cX0_init 36 = .ok (.iconst (-1), 1) := by decide +kernel
theorem dX0_init_37 : decode cX0_init 37 = .ok (.iastore, 1) := by decide +kernel
theorem dX0_init_38 : decode cX0_init 38 = .ok (.iinc 1 1, 3) := by decide +kernel
theorem dX0_init_41 : decode cX0_init 41 = .ok (.goto (-17), 3) := by decide +kernel
theorem dX0_init_44 : decode cX0_init 44 = .ok (.return_, 1) := by decide +kernel
theorem dX0_at_0 : decode cX0_at 0 = .ok (.iload_n 1, 1) := by decide +kernel
theorem dX0_at_1 : decode cX0_at 1 = .ok (.invokestatic 18, 3) := by decide +kernel
theorem dX0_at_4 : decode cX0_at 4 = .ok (.ifCond .eq 12, 3) := by decide +kernel
theorem dX0_at_7 : decode cX0_at 7 = .ok (.aload_n 0, 1) := by decide +kernel
theorem dX0_at_8 : decode cX0_at 8 = .ok (.getfield 9, 3) := by decide +kernel
theorem dX0_at_11 : decode cX0_at 11 = .ok (.iload_n 1, 1) := by decide +kernel
theorem dX0_at_12 : decode cX0_at 12 = .ok (.iaload, 1) := by decide +kernel
theorem dX0_at_13 : decode cX0_at 13 = .ok (.goto 4, 3) := by decide +kernel
theorem dX0_at_16 : decode cX0_at 16 = .ok (.iconst (-1), 1) := by decide +kernel
theorem dX0_at_17 : decode cX0_at 17 = .ok (.ireturn, 1) := by decide +kernel
theorem dX0_isFree_0 : decode cX0_isFree 0 = .ok (.iload_n 1, 1) := by decide +kernel
theorem dX0_isFree_1 : decode cX0_isFree 1 = .ok (.ifCond .lt 15, 3) := by decide +kernel
theorem dX0_isFree_4 : decode cX0_isFree 4 = .ok (.iload_n 2, 1) := by decide +kernel
theorem dX0_isFree_5 : decode cX0_isFree 5 = .ok (.iload_n 1, 1) := by decide +kernel
theorem dX0_isFree_6 : decode cX0_isFree 6 = .ok (.if_icmp .lt 10, 3) := by decide +kernel
theorem dX0_isFree_9 : decode cX0_isFree 9 = .ok (.iload_n 2, 1) := by decide +kernel
theorem dX0_isFree_10 : decode cX0_isFree 10 = .ok (.sipush 600, 3) := by decide +kernel
theorem dX0_isFree_13 : decode cX0_isFree 13 = .ok (.if_icmp .le 5, 3) := by decide +kernel
theorem dX0_isFree_16 : decode cX0_isFree 16 = .ok (.iconst 0, 1) := by decide +kernel
theorem dX0_isFree_17 : decode cX0_isFree 17 = .ok (.ireturn, 1) := by decide +kernel
theorem dX0_isFree_18 : decode cX0_isFree 18 = .ok (.aload_n 0, 1) := by decide +kernel
theorem dX0_isFree_19 : decode cX0_isFree 19 = .ok (.getfield 15, 3) := by decide +kernel
theorem dX0_isFree_22 : decode cX0_isFree 22 = .ok (.iload_n 1, 1) := by decide +kernel
theorem dX0_isFree_23 : decode cX0_isFree 23 = .ok (.iaload, 1) := by decide +kernel
theorem dX0_isFree_24 : decode cX0_isFree 24 = .ok (.aload_n 0, 1) := by decide +kernel
theorem dX0_isFree_25 : decode cX0_isFree 25 = .ok (.getfield 15, 3) := by decide +kernel
theorem dX0_isFree_28 : decode cX0_isFree 28 = .ok (.iload_n 2, 1) := by decide +kernel
theorem dX0_isFree_29 : decode cX0_isFree 29 = .ok (.iaload, 1) := by decide +kernel
theorem dX0_isFree_30 : decode cX0_isFree 30 = .ok (.if_icmp .ne 7, 3) := by decide +kernel
theorem dX0_isFree_33 : decode cX0_isFree 33 = .ok (.iconst 1, 1) := by decide +kernel
theorem dX0_isFree_34 : decode cX0_isFree 34 = .ok (.goto 4, 3) := by decide +kernel
theorem dX0_isFree_37 : decode cX0_isFree 37 = .ok (.iconst 0, 1) := by decide +kernel
theorem dX0_isFree_38 : decode cX0_isFree 38 = .ok (.ireturn, 1) := by decide +kernel
theorem dX0_write_0 : decode cX0_write 0 = .ok (.iload_n 1, 1) := by decide +kernel
theorem dX0_write_1 : decode cX0_write 1 = .ok (.ifCond .lt 10, 3) := by decide +kernel
theorem dX0_write_4 : decode cX0_write 4 = .ok (.iload_n 2, 1) := by decide +kernel
theorem dX0_write_5 : decode cX0_write 5 = .ok (.sipush 600, 3) := by decide +kernel
theorem dX0_write_8 : decode cX0_write 8 = .ok (.if_icmp .le 4, 3) := by decide +kernel
theorem dX0_write_11 : decode cX0_write 11 = .ok (.return_, 1) := by decide +kernel
theorem dX0_write_12 : decode cX0_write 12 = .ok (.iload_n 1, 1) := by decide +kernel
theorem dX0_write_13 : decode cX0_write 13 = .ok (.istore 4, 2) := by decide +kernel
theorem dX0_write_15 : decode cX0_write 15 = .ok (.iload 4, 2) := by decide +kernel
theorem dX0_write_17 : decode cX0_write 17 = .ok (.iload_n 2, 1) := by decide +kernel
theorem dX0_write_18 : decode cX0_write 18 = .ok (.if_icmp .ge 17, 3) := by decide +kernel
theorem dX0_write_21 : decode cX0_write 21 = .ok (.aload_n 0, 1) := by decide +kernel
theorem dX0_write_22 : decode cX0_write 22 = .ok (.getfield 9, 3) := by decide +kernel
theorem dX0_write_25 : decode cX0_write 25 = .ok (.iload 4, 2) := by decide +kernel
theorem dX0_write_27 : decode cX0_write 27 = .ok (.iload_n 3, 1) := by decide +kernel
theorem dX0_write_28 : decode cX0_write 28 = .ok (.iastore, 1) := by decide +kernel
theorem dX0_write_29 : decode cX0_write 29 = .ok (.iinc 4 1, 3) := by decide +kernel
theorem dX0_write_32 : decode cX0_write 32 = .ok (.goto (-17), 3) := by decide +kernel
theorem dX0_write_35 : decode cX0_write 35 = .ok (.iload_n 1, 1) := by decide +kernel
theorem dX0_write_36 : decode cX0_write 36 = .ok (.istore 4, 2) := by decide +kernel
theorem dX0_write_38 : decode cX0_write 38 = .ok (.iload 4, 2) := by decide +kernel
theorem dX0_write_40 : decode cX0_write 40 = .ok (.sipush 600, 3) := by decide +kernel
theorem dX0_write_43 : decode cX0_write 43 = .ok (.if_icmp .ge 42, 3) := by decide +kernel
theorem dX0_write_46 : decode cX0_write 46 = .ok (.aload_n 0, 1) := by decide +kernel
theorem dX0_write_47 : decode cX0_write 47 = .ok (.getfield 15, 3) := by decide +kernel
theorem dX0_write_50 : decode cX0_write 50 = .ok (.iload 4, 2) := by decide +kernel
theorem dX0_write_52 : decode cX0_write 52 = .ok (.iconst 1, 1) := by decide +kernel
theorem dX0_write_53 : decode cX0_write 53 = .ok (.iadd, 1) := by decide +kernel
theorem dX0_write_54 : decode cX0_write 54 = .ok (.aload_n 0, 1) := by decide +kernel
theorem dX0_write_55 : decode cX0_write 55 = .ok (.getfield 15, 3) := by decide +kernel
theorem dX0_write_58 : decode cX0_write 58 = .ok (.iload 4, 2) := by decide +kernel
theorem dX0_write_60 : decode cX0_write 60 = .ok (.iaload, 1) := by decide +kernel
theorem dX0_write_61 : decode cX0_write 61 = .ok (.aload_n 0, 1) := by decide +kernel
theorem dX0_write_62 : decode cX0_write 62 = .ok (.getfield 9, 3) := by decide +kernel
theorem dX0_write_65 : decode cX0_write 65 = .ok (.iload 4, 2) := by decide +kernel
theorem dX0_write_67 : decode cX0_write 67 = .ok (.iaload, 1) := by decide +kernel
theorem dX0_write_68 : decode cX0_write 68 = .ok (.iconst (-1), 1) := by decide +kernel
theorem dX0_write_69 : decode cX0_write 69 = .ok (.if_icmp .ne 7, 3) := by decide +kernel
theorem dX0_write_72 : decode cX0_write 72 = .ok (.iconst 0, 1) := by decide +kernel
theorem dX0_write_73 : decode cX0_write 73 = .ok (.goto 4, 3) := by decide +kernel
theorem dX0_write_76 : decode cX0_write 76 = .ok (.iconst 1, 1) := by decide +kernel
theorem dX0_write_77 : decode cX0_write 77 = .ok (.iadd, 1) := by decide +kernel
theorem dX0_write_78 : decode cX0_write 78 = .ok (.iastore, 1) := by decide +kernel
theorem dX0_write_79 : decode cX0_write 79 = .ok (.iinc 4 1, 3) := by decide +kernel
theorem dX0_write_82 : decode cX0_write 82 = .ok (.goto (-44), 3) := by decide +kernel
theorem dX0_write_85 : decode cX0_write 85 = .ok (.return_, 1) := by decide +kernel
theorem dX1_init_0 : decode cX1_init 0 = .ok (.aload_n 0, 1) := by decide +kernel
theorem dX1_init_1 : decode cX1_init 1 = .ok (.invokespecial 1, 3) := by decide +kernel
theorem dX1_init_4 : decode cX1_init 4 = .ok (.aload_n 0, 1) := by decide +kernel
theorem dX1_init_5 : decode cX1_init 5 = .ok (.new 7, 3) := by decide +kernel
theorem dX1_init_8 : decode cX1_init 8 = .ok (.dup, 1) := by decide +kernel
theorem dX1_init_9 : decode cX1_init 9 = .ok (.invokespecial 9, 3) := by decide +kernel
theorem dX1_init_12 : decode cX1_init 12 = .ok (.putfield 10, 3) := by decide +kernel
theorem dX1_init_15 : decode cX1_init 15 = .ok (.aload_n 0, 1) := by decide +kernel
theorem dX1_init_16 : decode cX1_init 16 = .ok (.iload_n 1, 1) := by decide +kernel
theorem dX1_init_17 : decode cX1_init 17 = .ok (.putfield 16, 3) := by decide +kernel
theorem dX1_init_20 : decode cX1_init 20 = .ok (.aload_n 0, 1) := by decide +kernel
theorem dX1_init_21 : decode cX1_init 21 = .ok (.iload_n 2, 1) := by decide +kernel
theorem dX1_init_22 : decode cX1_init 22 = .ok (.putfield 20, 3) := by decide +kernel
theorem dX1_init_25 : decode cX1_init 25 = .ok (.aload_n 0, 1) := by decide +kernel
theorem dX1_init_26 : decode cX1_init 26 = .ok (.iload_n 3, 1) := by decide +kernel
theorem dX1_init_27 : decode cX1_init 27 = .ok (.putfield 23, 3) := by decide +kernel
theorem dX1_init_30 : decode cX1_init 30 = .ok (.return_, 1) := by decide +kernel
theorem dX1_canTake_0 : decode cX1_canTake 0 = .ok (.aload_n 0, 1) := by decide +kernel
theorem dX1_canTake_1 : decode cX1_canTake 1 = .ok (.getfield 16, 3) := by decide +kernel
theorem dX1_canTake_4 : decode cX1_canTake 4 = .ok (.aload_n 1, 1) := by decide +kernel
theorem dX1_canTake_5 : decode cX1_canTake 5 = .ok (.getfield 26, 3) := by decide +kernel
theorem dX1_canTake_8 : decode cX1_canTake 8 = .ok (.iand, 1) := by decide +kernel
theorem dX1_canTake_9 : decode cX1_canTake 9 = .ok (.aload_n 1, 1) := by decide +kernel
theorem dX1_canTake_10 : decode cX1_canTake 10 = .ok (.getfield 26, 3) := by decide +kernel
theorem dX1_canTake_13 : decode cX1_canTake 13 = .ok (.if_icmp .eq 5, 3) := by decide +kernel
theorem dX1_canTake_16 : decode cX1_canTake 16 = .ok (.iconst 0, 1) := by decide +kernel
theorem dX1_canTake_17 : decode cX1_canTake 17 = .ok (.ireturn, 1) := by decide +kernel
theorem dX1_canTake_18 : decode cX1_canTake 18 = .ok (.iload_n 2, 1) := by decide +kernel
theorem dX1_canTake_19 : decode cX1_canTake 19 = .ok (.aload_n 0, 1) := by decide +kernel
theorem dX1_canTake_20 : decode cX1_canTake 20 = .ok (.getfield 20, 3) := by decide +kernel
theorem dX1_canTake_23 : decode cX1_canTake 23 = .ok (.if_icmp .lt 16, 3) := by decide +kernel
theorem dX1_canTake_26 : decode cX1_canTake 26 = .ok (.iload_n 2, 1) := by decide +kernel
theorem dX1_canTake_27 : decode cX1_canTake 27 = .ok (.aload_n 1, 1) := by decide +kernel
theorem dX1_canTake_28 : decode cX1_canTake 28 = .ok (.getfield 29, 3) := by decide +kernel
theorem dX1_canTake_31 : decode cX1_canTake 31 = .ok (.iadd, 1) := by decide +kernel
theorem dX1_canTake_32 : decode cX1_canTake 32 = .ok (.aload_n 0, 1) := by decide +kernel
theorem dX1_canTake_33 : decode cX1_canTake 33 = .ok (.getfield 23, 3) := by decide +kernel
theorem dX1_canTake_36 : decode cX1_canTake 36 = .ok (.if_icmp .le 5, 3) := by decide +kernel
theorem dX1_canTake_39 : decode cX1_canTake 39 = .ok (.iconst 0, 1) := by decide +kernel
theorem dX1_canTake_40 : decode cX1_canTake 40 = .ok (.ireturn, 1) := by decide +kernel
theorem dX1_canTake_41 : decode cX1_canTake 41 = .ok (.iconst 0, 1) := by decide +kernel
theorem dX1_canTake_42 : decode cX1_canTake 42 = .ok (.istore_n 3, 1) := by decide +kernel
theorem dX1_canTake_43 : decode cX1_canTake 43 = .ok (.iload_n 3, 1) := by decide +kernel
theorem dX1_canTake_44 : decode cX1_canTake 44 = .ok (.aload_n 1, 1) := by decide +kernel
theorem dX1_canTake_45 : decode cX1_canTake 45 = .ok (.getfield 32, 3) := by decide +kernel
theorem dX1_canTake_48 : decode cX1_canTake 48 = .ok (.if_icmp .ge 51, 3) := by decide +kernel
theorem dX1_canTake_51 : decode cX1_canTake 51 = .ok (.iload_n 2, 1) := by decide +kernel
theorem dX1_canTake_52 : decode cX1_canTake 52 = .ok (.aload_n 1, 1) := by decide +kernel
theorem dX1_canTake_53 : decode cX1_canTake 53 = .ok (.iload_n 3, 1) := by decide +kernel
theorem dX1_canTake_54 : decode cX1_canTake 54 = .ok (.invokevirtual 35, 3) := by decide +kernel
theorem dX1_canTake_57 : decode cX1_canTake 57 = .ok (.iadd, 1) := by decide +kernel
theorem dX1_canTake_58 : decode cX1_canTake 58 = .ok (.istore 4, 2) := by decide +kernel
theorem dX1_canTake_60 : decode cX1_canTake 60 = .ok (.iload_n 2, 1) := by decide +kernel
theorem dX1_canTake_61 : decode cX1_canTake 61 = .ok (.aload_n 1, 1) := by decide +kernel
theorem dX1_canTake_62 : decode cX1_canTake 62 = .ok (.iload_n 3, 1) := by decide +kernel
theorem dX1_canTake_63 : decode cX1_canTake 63 = .ok (.invokevirtual 39, 3) := by decide +kernel
theorem dX1_canTake_66 : decode cX1_canTake 66 = .ok (.iadd, 1) := by decide +kernel
theorem dX1_canTake_67 : decode cX1_canTake 67 = .ok (.istore 5, 2) := by decide +kernel
theorem dX1_canTake_69 : decode cX1_canTake 69 = .ok (.aload_n 1, 1) := by decide +kernel
theorem dX1_canTake_70 : decode cX1_canTake 70 = .ok (.iload_n 3, 1) := by decide +kernel
theorem dX1_canTake_71 : decode cX1_canTake 71 = .ok (.invokevirtual 42, 3) := by decide +kernel
theorem dX1_canTake_74 : decode cX1_canTake 74 = .ok (.ifCond .ne 19, 3) := by decide +kernel
theorem dX1_canTake_77 : decode cX1_canTake 77 = .ok (.aload_n 0, 1) := by decide +kernel
theorem dX1_canTake_78 : decode cX1_canTake 78 = .ok (.getfield 10, 3) := by decide +kernel
theorem dX1_canTake_81 : decode cX1_canTake 81 = .ok (.iload 4, 2) := by decide +kernel
theorem dX1_canTake_83 : decode cX1_canTake 83 = .ok (.iload 5, 2) := by decide +kernel
theorem dX1_canTake_85 : decode cX1_canTake 85 = .ok (.invokevirtual 46, 3) := by decide +kernel
theorem dX1_canTake_88 : decode cX1_canTake 88 = .ok (.ifCond .ne 5, 3) := by decide +kernel
theorem dX1_canTake_91 : decode cX1_canTake 91 = .ok (.iconst 0, 1) := by decide +kernel
theorem dX1_canTake_92 : decode cX1_canTake 92 = .ok (.ireturn, 1) := by decide +kernel
theorem dX1_canTake_93 : decode cX1_canTake 93 = .ok (.iinc 3 1, 3) := by decide +kernel
theorem dX1_canTake_96 : decode cX1_canTake 96 = .ok (.goto (-53), 3) := by decide +kernel
theorem dX1_canTake_99 : decode cX1_canTake 99 = .ok (.iconst 1, 1) := by decide +kernel
theorem dX1_canTake_100 : decode cX1_canTake 100 = .ok (.ireturn, 1) := by decide +kernel
theorem dX2_init_0 : decode cX2_init 0 = .ok (.aload_n 0, 1) := by decide +kernel
theorem dX2_init_1 : decode cX2_init 1 = .ok (.invokespecial 3, 3) := by decide +kernel
theorem dX2_init_4 : decode cX2_init 4 = .ok (.aload_n 0, 1) := by decide +kernel
theorem dX2_init_5 : decode cX2_init 5 = .ok (.sipush 600, 3) := by decide +kernel
theorem dX2_init_8 : decode cX2_init 8 = .ok (.newarray .boolean, 2) := by decide +kernel
theorem dX2_init_10 : decode cX2_init 10 = .ok (.putfield 9, 3) := by decide +kernel
theorem dX2_init_13 : decode cX2_init 13 = .ok (.return_, 1) := by decide +kernel
theorem dX2_clear_0 : decode cX2_clear 0 = .ok (.iconst 0, 1) := by decide +kernel
theorem dX2_clear_1 : decode cX2_clear 1 = .ok (.istore_n 1, 1) := by decide +kernel
theorem dX2_clear_2 : decode cX2_clear 2 = .ok (.iload_n 1, 1) := by decide +kernel
theorem dX2_clear_3 : decode cX2_clear 3 = .ok (.sipush 600, 3) := by decide +kernel
theorem dX2_clear_6 : decode cX2_clear 6 = .ok (.if_icmp .ge 16, 3) := by decide +kernel
theorem dX2_clear_9 : decode cX2_clear 9 = .ok (.aload_n 0, 1) := by decide +kernel
theorem dX2_clear_10 : decode cX2_clear 10 = .ok (.getfield 9, 3) := by decide +kernel
theorem dX2_clear_13 : decode cX2_clear 13 = .ok (.iload_n 1, 1) := by decide +kernel
theorem dX2_clear_14 : decode cX2_clear 14 = .ok (.iconst 0, 1) := by decide +kernel
theorem dX2_clear_15 : decode cX2_clear 15 = .ok (.bastore, 1) := by decide +kernel
theorem dX2_clear_16 : decode cX2_clear 16 = .ok (.iinc 1 1, 3) := by decide +kernel
theorem dX2_clear_19 : decode cX2_clear 19 = .ok (.goto (-17), 3) := by decide +kernel
theorem dX2_clear_22 : decode cX2_clear 22 = .ok (.return_, 1) := by decide +kernel
theorem dX2_add_0 : decode cX2_add 0 = .ok (.iload_n 1, 1) := by decide +kernel
theorem dX2_add_1 : decode cX2_add 1 = .ok (.invokestatic 15, 3) := by decide +kernel
theorem dX2_add_4 : decode cX2_add 4 = .ok (.ifCond .eq 10, 3) := by decide +kernel
theorem dX2_add_7 : decode cX2_add 7 = .ok (.aload_n 0, 1) := by decide +kernel
theorem dX2_add_8 : decode cX2_add 8 = .ok (.getfield 9, 3) := by decide +kernel
theorem dX2_add_11 : decode cX2_add 11 = .ok (.iload_n 1, 1) := by decide +kernel
theorem dX2_add_12 : decode cX2_add 12 = .ok (.iconst 1, 1) := by decide +kernel
theorem dX2_add_13 : decode cX2_add 13 = .ok (.bastore, 1) := by decide +kernel
theorem dX2_add_14 : decode cX2_add 14 = .ok (.return_, 1) := by decide +kernel
theorem dX2_has_0 : decode cX2_has 0 = .ok (.iload_n 1, 1) := by decide +kernel
theorem dX2_has_1 : decode cX2_has 1 = .ok (.invokestatic 15, 3) := by decide +kernel
theorem dX2_has_4 : decode cX2_has 4 = .ok (.ifCond .eq 16, 3) := by decide +kernel
theorem dX2_has_7 : decode cX2_has 7 = .ok (.aload_n 0, 1) := by decide +kernel
theorem dX2_has_8 : decode cX2_has 8 = .ok (.getfield 9, 3) := by decide +kernel
theorem dX2_has_11 : decode cX2_has 11 = .ok (.iload_n 1, 1) := by decide +kernel
theorem dX2_has_12 : decode cX2_has 12 = .ok (.baload, 1) := by decide +kernel
theorem dX2_has_13 : decode cX2_has 13 = .ok (.ifCond .eq 7, 3) := by decide +kernel
theorem dX2_has_16 : decode cX2_has 16 = .ok (.iconst 1, 1) := by decide +kernel
theorem dX2_has_17 : decode cX2_has 17 = .ok (.goto 4, 3) := by decide +kernel
theorem dX2_has_20 : decode cX2_has 20 = .ok (.iconst 0, 1) := by decide +kernel
theorem dX2_has_21 : decode cX2_has 21 = .ok (.ireturn, 1) := by decide +kernel
theorem dX3_init_0 : decode cX3_init 0 = .ok (.aload_n 0, 1) := by decide +kernel
theorem dX3_init_1 : decode cX3_init 1 = .ok (.invokespecial 1, 3) := by decide +kernel
theorem dX3_init_4 : decode cX3_init 4 = .ok (.aload_n 0, 1) := by decide +kernel
theorem dX3_init_5 : decode cX3_init 5 = .ok (.aload_n 1, 1) := by decide +kernel
theorem dX3_init_6 : decode cX3_init 6 = .ok (.putfield 7, 3) := by decide +kernel
theorem dX3_init_9 : decode cX3_init 9 = .ok (.aload_n 0, 1) := by decide +kernel
theorem dX3_init_10 : decode cX3_init 10 = .ok (.iload_n 2, 1) := by decide +kernel
theorem dX3_init_11 : decode cX3_init 11 = .ok (.putfield 13, 3) := by decide +kernel
theorem dX3_init_14 : decode cX3_init 14 = .ok (.return_, 1) := by decide +kernel
theorem dX4_init_0 : decode cX4_init 0 = .ok (.aload_n 0, 1) := by decide +kernel
theorem dX4_init_1 : decode cX4_init 1 = .ok (.invokespecial 3, 3) := by decide +kernel
theorem dX4_init_4 : decode cX4_init 4 = .ok (.aload_n 0, 1) := by decide +kernel
theorem dX4_init_5 : decode cX4_init 5 = .ok (.iconst 5, 1) := by decide +kernel
theorem dX4_init_6 : decode cX4_init 6 = .ok (.newarray .int, 2) := by decide +kernel
theorem dX4_init_8 : decode cX4_init 8 = .ok (.putfield 9, 3) := by decide +kernel
theorem dX4_init_11 : decode cX4_init 11 = .ok (.aload_n 0, 1) := by decide +kernel
theorem dX4_init_12 : decode cX4_init 12 = .ok (.iconst 5, 1) := by decide +kernel
theorem dX4_init_13 : decode cX4_init 13 = .ok (.newarray .int, 2) := by decide +kernel
theorem dX4_init_15 : decode cX4_init 15 = .ok (.putfield 15, 3) := by decide +kernel
theorem dX4_init_18 : decode cX4_init 18 = .ok (.aload_n 0, 1) := by decide +kernel
theorem dX4_init_19 : decode cX4_init 19 = .ok (.iconst 5, 1) := by decide +kernel
theorem dX4_init_20 : decode cX4_init 20 = .ok (.newarray .int, 2) := by decide +kernel
theorem dX4_init_22 : decode cX4_init 22 = .ok (.putfield 18, 3) := by decide +kernel
theorem dX4_init_25 : decode cX4_init 25 = .ok (.aload_n 0, 1) := by decide +kernel
theorem dX4_init_26 : decode cX4_init 26 = .ok (.iload_n 1, 1) := by decide +kernel
theorem dX4_init_27 : decode cX4_init 27 = .ok (.putfield 21, 3) := by decide +kernel
theorem dX4_init_30 : decode cX4_init 30 = .ok (.return_, 1) := by decide +kernel
theorem dX4_append_0 : decode cX4_append 0 = .ok (.aload_n 0, 1) := by decide +kernel
theorem dX4_append_1 : decode cX4_append 1 = .ok (.getfield 25, 3) := by decide +kernel
theorem dX4_append_4 : decode cX4_append 4 = .ok (.ifCond .lt 11, 3) := by decide +kernel
theorem dX4_append_7 : decode cX4_append 7 = .ok (.aload_n 0, 1) := by decide +kernel
theorem dX4_append_8 : decode cX4_append 8 = .ok (.getfield 25, 3) := by decide +kernel
theorem dX4_append_11 : decode cX4_append 11 = .ok (.iconst 5, 1) := by decide +kernel
theorem dX4_append_12 : decode cX4_append 12 = .ok (.if_icmp .lt 4, 3) := by decide +kernel
theorem dX4_append_15 : decode cX4_append 15 = .ok (.return_, 1) := by decide +kernel
theorem dX4_append_16 : decode cX4_append 16 = .ok (.aload_n 0, 1) := by decide +kernel
theorem dX4_append_17 : decode cX4_append 17 = .ok (.getfield 9, 3) := by decide +kernel
theorem dX4_append_20 : decode cX4_append 20 = .ok (.aload_n 0, 1) := by decide +kernel
theorem dX4_append_21 : decode cX4_append 21 = .ok (.getfield 25, 3) := by decide +kernel
theorem dX4_append_24 : decode cX4_append 24 = .ok (.iload_n 1, 1) := by decide +kernel
theorem dX4_append_25 : decode cX4_append 25 = .ok (.iastore, 1) := by decide +kernel
theorem dX4_append_26 : decode cX4_append 26 = .ok (.aload_n 0, 1) := by decide +kernel
theorem dX4_append_27 : decode cX4_append 27 = .ok (.getfield 15, 3) := by decide +kernel
theorem dX4_append_30 : decode cX4_append 30 = .ok (.aload_n 0, 1) := by decide +kernel
theorem dX4_append_31 : decode cX4_append 31 = .ok (.getfield 25, 3) := by decide +kernel
theorem dX4_append_34 : decode cX4_append 34 = .ok (.aload_n 0, 1) := by decide +kernel
theorem dX4_append_35 : decode cX4_append 35 = .ok (.getfield 28, 3) := by decide +kernel
theorem dX4_append_38 : decode cX4_append 38 = .ok (.iastore, 1) := by decide +kernel
theorem dX4_append_39 : decode cX4_append 39 = .ok (.aload_n 0, 1) := by decide +kernel
theorem dX4_append_40 : decode cX4_append 40 = .ok (.getfield 18, 3) := by decide +kernel
theorem dX4_append_43 : decode cX4_append 43 = .ok (.aload_n 0, 1) := by decide +kernel
theorem dX4_append_44 : decode cX4_append 44 = .ok (.getfield 25, 3) := by decide +kernel
theorem dX4_append_47 : decode cX4_append 47 = .ok (.aload_n 0, 1) := by decide +kernel
theorem dX4_append_48 : decode cX4_append 48 = .ok (.getfield 28, 3) := by decide +kernel
theorem dX4_append_51 : decode cX4_append 51 = .ok (.iload_n 2, 1) := by decide +kernel
theorem dX4_append_52 : decode cX4_append 52 = .ok (.iadd, 1) := by decide +kernel
theorem dX4_append_53 : decode cX4_append 53 = .ok (.iastore, 1) := by decide +kernel
theorem dX4_append_54 : decode cX4_append 54 = .ok (.aload_n 0, 1) := by decide +kernel
theorem dX4_append_55 : decode cX4_append 55 = .ok (.dup, 1) := by decide +kernel
theorem dX4_append_56 : decode cX4_append 56 = .ok (.getfield 25, 3) := by decide +kernel
theorem dX4_append_59 : decode cX4_append 59 = .ok (.iconst 1, 1) := by decide +kernel
theorem dX4_append_60 : decode cX4_append 60 = .ok (.iadd, 1) := by decide +kernel
theorem dX4_append_61 : decode cX4_append 61 = .ok (.putfield 25, 3) := by decide +kernel
theorem dX4_append_64 : decode cX4_append 64 = .ok (.aload_n 0, 1) := by decide +kernel
theorem dX4_append_65 : decode cX4_append 65 = .ok (.dup, 1) := by decide +kernel
theorem dX4_append_66 : decode cX4_append 66 = .ok (.getfield 28, 3) := by decide +kernel
theorem dX4_append_69 : decode cX4_append 69 = .ok (.iload_n 2, 1) := by decide +kernel
theorem dX4_append_70 : decode cX4_append 70 = .ok (.iadd, 1) := by decide +kernel
theorem dX4_append_71 : decode cX4_append 71 = .ok (.putfield 28, 3) := by decide +kernel
theorem dX4_append_74 : decode cX4_append 74 = .ok (.iload_n 1, 1) := by decide +kernel
theorem dX4_append_75 : decode cX4_append 75 = .ok (.iconst (-1), 1) := by decide +kernel
theorem dX4_append_76 : decode cX4_append 76 = .ok (.if_icmp .eq 25, 3) := by decide +kernel
theorem dX4_append_79 : decode cX4_append 79 = .ok (.aload_n 0, 1) := by decide +kernel
theorem dX4_append_80 : decode cX4_append 80 = .ok (.dup, 1) := by decide +kernel
theorem dX4_append_81 : decode cX4_append 81 = .ok (.getfield 31, 3) := by decide +kernel
theorem dX4_append_84 : decode cX4_append 84 = .ok (.iload_n 2, 1) := by decide +kernel
theorem dX4_append_85 : decode cX4_append 85 = .ok (.iadd, 1) := by decide +kernel
theorem dX4_append_86 : decode cX4_append 86 = .ok (.putfield 31, 3) := by decide +kernel
theorem dX4_append_89 : decode cX4_append 89 = .ok (.aload_n 0, 1) := by decide +kernel
theorem dX4_append_90 : decode cX4_append 90 = .ok (.dup, 1) := by decide +kernel
theorem dX4_append_91 : decode cX4_append 91 = .ok (.getfield 34, 3) := by decide +kernel
theorem dX4_append_94 : decode cX4_append 94 = .ok (.iconst 1, 1) := by decide +kernel
theorem dX4_append_95 : decode cX4_append 95 = .ok (.iload_n 1, 1) := by decide +kernel
theorem dX4_append_96 : decode cX4_append 96 = .ok (.ishl, 1) := by decide +kernel
theorem dX4_append_97 : decode cX4_append 97 = .ok (.ior, 1) := by decide +kernel
theorem dX4_append_98 : decode cX4_append 98 = .ok (.putfield 34, 3) := by decide +kernel
theorem dX4_append_101 : decode cX4_append 101 = .ok (.return_, 1) := by decide +kernel
theorem dX4_isRest_0 : decode cX4_isRest 0 = .ok (.iload_n 1, 1) := by decide +kernel
theorem dX4_isRest_1 : decode cX4_isRest 1 = .ok (.ifCond .lt 22, 3) := by decide +kernel
theorem dX4_isRest_4 : decode cX4_isRest 4 = .ok (.iload_n 1, 1) := by decide +kernel
theorem dX4_isRest_5 : decode cX4_isRest 5 = .ok (.iconst 5, 1) := by decide +kernel
theorem dX4_isRest_6 : decode cX4_isRest 6 = .ok (.if_icmp .ge 17, 3) := by decide +kernel
theorem dX4_isRest_9 : decode cX4_isRest 9 = .ok (.aload_n 0, 1) := by decide +kernel
theorem dX4_isRest_10 : decode cX4_isRest 10 = .ok (.getfield 9, 3) := by decide +kernel
theorem dX4_isRest_13 : decode cX4_isRest 13 = .ok (.iload_n 1, 1) := by decide +kernel
theorem dX4_isRest_14 : decode cX4_isRest 14 = .ok (.iaload, 1) := by decide +kernel
theorem dX4_isRest_15 : decode cX4_isRest 15 = .ok (.iconst (-1), 1) := by decide +kernel
theorem dX4_isRest_16 : decode cX4_isRest 16 = .ok (.if_icmp .ne 7, 3) := by decide +kernel
theorem dX4_isRest_19 : decode cX4_isRest 19 = .ok (.iconst 1, 1) := by decide +kernel
theorem dX4_isRest_20 : decode cX4_isRest 20 = .ok (.goto 4, 3) := by decide +kernel
theorem dX4_isRest_23 : decode cX4_isRest 23 = .ok (.iconst 0, 1) := by decide +kernel
theorem dX4_isRest_24 : decode cX4_isRest 24 = .ok (.ireturn, 1) := by decide +kernel
theorem dX4_stepFrom_0 : decode cX4_stepFrom 0 = .ok (.iload_n 1, 1) := by decide +kernel
theorem dX4_stepFrom_1 : decode cX4_stepFrom 1 = .ok (.ifCond .lt 17, 3) := by decide +kernel
theorem dX4_stepFrom_4 : decode cX4_stepFrom 4 = .ok (.iload_n 1, 1) := by decide +kernel
theorem dX4_stepFrom_5 : decode cX4_stepFrom 5 = .ok (.iconst 5, 1) := by decide +kernel
theorem dX4_stepFrom_6 : decode cX4_stepFrom 6 = .ok (.if_icmp .ge 12, 3) := by decide +kernel
theorem dX4_stepFrom_9 : decode cX4_stepFrom 9 = .ok (.aload_n 0, 1) := by decide +kernel
theorem dX4_stepFrom_10 : decode cX4_stepFrom 10 = .ok (.getfield 15, 3) := by decide +kernel
theorem dX4_stepFrom_13 : decode cX4_stepFrom 13 = .ok (.iload_n 1, 1) := by decide +kernel
theorem dX4_stepFrom_14 : decode cX4_stepFrom 14 = .ok (.iaload, 1) := by decide +kernel
theorem dX4_stepFrom_15 : decode cX4_stepFrom 15 = .ok (.goto 4, 3) := by decide +kernel
theorem dX4_stepFrom_18 : decode cX4_stepFrom 18 = .ok (.iconst 0, 1) := by decide +kernel
theorem dX4_stepFrom_19 : decode cX4_stepFrom 19 = .ok (.ireturn, 1) := by decide +kernel
theorem dX4_stepTo_0 : decode cX4_stepTo 0 = .ok (.iload_n 1, 1) := by decide +kernel
theorem dX4_stepTo_1 : decode cX4_stepTo 1 = .ok (.ifCond .lt 17, 3) := by decide +kernel
theorem dX4_stepTo_4 : decode cX4_stepTo 4 = .ok (.iload_n 1, 1) := by decide +kernel
theorem dX4_stepTo_5 : decode cX4_stepTo 5 = .ok (.iconst 5, 1) := by decide +kernel
theorem dX4_stepTo_6 : decode cX4_stepTo 6 = .ok (.if_icmp .ge 12, 3) := by decide +kernel
theorem dX4_stepTo_9 : decode cX4_stepTo 9 = .ok (.aload_n 0, 1) := by decide +kernel
theorem dX4_stepTo_10 : decode cX4_stepTo 10 = .ok (.getfield 18, 3) := by decide +kernel
theorem dX4_stepTo_13 : decode cX4_stepTo 13 = .ok (.iload_n 1, 1) := by decide +kernel
theorem dX4_stepTo_14 : decode cX4_stepTo 14 = .ok (.iaload, 1) := by decide +kernel
theorem dX4_stepTo_15 : decode cX4_stepTo 15 = .ok (.goto 4, 3) := by decide +kernel
theorem dX4_stepTo_18 : decode cX4_stepTo 18 = .ok (.iconst 0, 1) := by decide +kernel
theorem dX4_stepTo_19 : decode cX4_stepTo 19 = .ok (.ireturn, 1) := by decide +kernel
theorem dX5_init_0 : decode cX5_init 0 = .ok (.aload_n 0, 1) := by decide +kernel
theorem dX5_init_1 : decode cX5_init 1 = .ok (.invokespecial 3, 3) := by decide +kernel
theorem dX5_init_4 : decode cX5_init 4 = .ok (.aload_n 0, 1) := by decide +kernel
theorem dX5_init_5 : decode cX5_init 5 = .ok (.iconst (-1), 1) := by decide +kernel
theorem dX5_init_6 : decode cX5_init 6 = .ok (.putfield 9, 3) := by decide +kernel
theorem dX5_init_9 : decode cX5_init 9 = .ok (.aload_n 0, 1) := by decide +kernel
theorem dX5_init_10 : decode cX5_init 10 = .ok (.iconst (-1), 1) := by decide +kernel
theorem dX5_init_11 : decode cX5_init 11 = .ok (.putfield 15, 3) := by decide +kernel
theorem dX5_init_14 : decode cX5_init 14 = .ok (.aload_n 0, 1) := by decide +kernel
theorem dX5_init_15 : decode cX5_init 15 = .ok (.iconst (-1), 1) := by decide +kernel
theorem dX5_init_16 : decode cX5_init 16 = .ok (.putfield 18, 3) := by decide +kernel
theorem dX5_init_19 : decode cX5_init 19 = .ok (.aload_n 0, 1) := by decide +kernel
theorem dX5_init_20 : decode cX5_init 20 = .ok (.iload_n 1, 1) := by decide +kernel
theorem dX5_init_21 : decode cX5_init 21 = .ok (.putfield 21, 3) := by decide +kernel
theorem dX5_init_24 : decode cX5_init 24 = .ok (.aload_n 0, 1) := by decide +kernel
theorem dX5_init_25 : decode cX5_init 25 = .ok (.aload_n 2, 1) := by decide +kernel
theorem dX5_init_26 : decode cX5_init 26 = .ok (.putfield 24, 3) := by decide +kernel
theorem dX5_init_29 : decode cX5_init 29 = .ok (.return_, 1) := by decide +kernel
theorem dX5_isDropped_0 : decode cX5_isDropped 0 = .ok (.aload_n 0, 1) := by decide +kernel
theorem dX5_isDropped_1 : decode cX5_isDropped 1 = .ok (.getfield 18, 3) := by decide +kernel
theorem dX5_isDropped_4 : decode cX5_isDropped 4 = .ok (.iconst (-1), 1) := by decide +kernel
theorem dX5_isDropped_5 : decode cX5_isDropped 5 = .ok (.if_icmp .ne 7, 3) := by decide +kernel
theorem dX5_isDropped_8 : decode cX5_isDropped 8 = .ok (.iconst 1, 1) := by decide +kernel
theorem dX5_isDropped_9 : decode cX5_isDropped 9 = .ok (.goto 4, 3) := by decide +kernel
theorem dX5_isDropped_12 : decode cX5_isDropped 12 = .ok (.iconst 0, 1) := by decide +kernel
theorem dX5_isDropped_13 : decode cX5_isDropped 13 = .ok (.ireturn, 1) := by decide +kernel
theorem dX6_init_0 : decode cX6_init 0 = .ok (.aload_n 0, 1) := by decide +kernel
theorem dX6_init_1 : decode cX6_init 1 = .ok (.invokespecial 1, 3) := by decide +kernel
theorem dX6_init_4 : decode cX6_init 4 = .ok (.aload_n 0, 1) := by decide +kernel
theorem dX6_init_5 : decode cX6_init 5 = .ok (.new 7, 3) := by decide +kernel
theorem dX6_init_8 : decode cX6_init 8 = .ok (.dup, 1) := by decide +kernel
theorem dX6_init_9 : decode cX6_init 9 = .ok (.invokespecial 9, 3) := by decide +kernel
theorem dX6_init_12 : decode cX6_init 12 = .ok (.putfield 10, 3) := by decide +kernel
theorem dX6_init_15 : decode cX6_init 15 = .ok (.aload_n 0, 1) := by decide +kernel
theorem dX6_init_16 : decode cX6_init 16 = .ok (.new 7, 3) := by decide +kernel
theorem dX6_init_19 : decode cX6_init 19 = .ok (.dup, 1) := by decide +kernel
theorem dX6_init_20 : decode cX6_init 20 = .ok (.invokespecial 9, 3) := by decide +kernel
theorem dX6_init_23 : decode cX6_init 23 = .ok (.putfield 16, 3) := by decide +kernel
theorem dX6_init_26 : decode cX6_init 26 = .ok (.aload_n 0, 1) := by decide +kernel
theorem dX6_init_27 : decode cX6_init 27 = .ok (.new 7, 3) := by decide +kernel
theorem dX6_init_30 : decode cX6_init 30 = .ok (.dup, 1) := by decide +kernel
theorem dX6_init_31 : decode cX6_init 31 = .ok (.invokespecial 9, 3) := by decide +kernel
theorem dX6_init_34 : decode cX6_init 34 = .ok (.putfield 19, 3) := by decide +kernel
theorem dX6_init_37 : decode cX6_init 37 = .ok (.aload_n 0, 1) := by decide +kernel
theorem dX6_init_38 : decode cX6_init 38 = .ok (.new 7, 3) := by decide +kernel
theorem dX6_init_41 : decode cX6_init 41 = .ok (.dup, 1) := by decide +kernel
theorem dX6_init_42 : decode cX6_init 42 = .ok (.invokespecial 9, 3) := by decide +kernel
theorem dX6_init_45 : decode cX6_init 45 = .ok (.putfield 22, 3) := by decide +kernel
theorem dX6_init_48 : decode cX6_init 48 = .ok (.aload_n 0, 1) := by decide +kernel
theorem dX6_init_49 : decode cX6_init 49 = .ok (.iconst 4, 1) := by decide +kernel
theorem dX6_init_50 : decode cX6_init 50 = .ok (.anewarray 25, 3) := by decide +kernel
theorem dX6_init_53 : decode cX6_init 53 = .ok (.putfield 27, 3) := by decide +kernel
theorem dX6_init_56 : decode cX6_init 56 = .ok (.iconst 0, 1) := by decide +kernel
theorem dX6_init_57 : decode cX6_init 57 = .ok (.istore_n 1, 1) := by decide +kernel
theorem dX6_init_58 : decode cX6_init 58 = .ok (.iload_n 1, 1) := by decide +kernel
theorem dX6_init_59 : decode cX6_init 59 = .ok (.iconst 4, 1) := by decide +kernel
theorem dX6_init_60 : decode cX6_init 60 = .ok (.if_icmp .ge 22, 3) := by decide +kernel
theorem dX6_init_63 : decode cX6_init 63 = .ok (.aload_n 0, 1) := by decide +kernel
theorem dX6_init_64 : decode cX6_init 64 = .ok (.getfield 27, 3) := by decide +kernel
theorem dX6_init_67 : decode cX6_init 67 = .ok (.iload_n 1, 1) := by decide +kernel
theorem dX6_init_68 : decode cX6_init 68 = .ok (.new 25, 3) := by decide +kernel
theorem dX6_init_71 : decode cX6_init 71 = .ok (.dup, 1) := by decide +kernel
theorem dX6_init_72 : decode cX6_init 72 = .ok (.invokespecial 31, 3) := by decide +kernel
theorem dX6_init_75 : decode cX6_init 75 = .ok (.aastore, 1) := by decide +kernel
theorem dX6_init_76 : decode cX6_init 76 = .ok (.iinc 1 1, 3) := by decide +kernel
theorem dX6_init_79 : decode cX6_init 79 = .ok (.goto (-21), 3) := by decide +kernel
theorem dX6_init_82 : decode cX6_init 82 = .ok (.aload_n 0, 1) := by decide +kernel
theorem dX6_init_83 : decode cX6_init 83 = .ok (.new 32, 3) := by decide +kernel
theorem dX6_init_86 : decode cX6_init 86 = .ok (.dup, 1) := by decide +kernel
theorem dX6_init_87 : decode cX6_init 87 = .ok (.invokespecial 34, 3) := by decide +kernel
theorem dX6_init_90 : decode cX6_init 90 = .ok (.putfield 35, 3) := by decide +kernel
theorem dX6_init_93 : decode cX6_init 93 = .ok (.return_, 1) := by decide +kernel
theorem dX6_hire_0 : decode cX6_hire 0 = .ok (.iload_n 1, 1) := by decide +kernel
theorem dX6_hire_1 : decode cX6_hire 1 = .ok (.iconst 1, 1) := by decide +kernel
theorem dX6_hire_2 : decode cX6_hire 2 = .ok (.if_icmp .lt 9, 3) := by decide +kernel
theorem dX6_hire_5 : decode cX6_hire 5 = .ok (.iload_n 1, 1) := by decide +kernel
theorem dX6_hire_6 : decode cX6_hire 6 = .ok (.bipush 15, 2) := by decide +kernel
theorem dX6_hire_8 : decode cX6_hire 8 = .ok (.if_icmp .le 13, 3) := by decide +kernel
theorem dX6_hire_11 : decode cX6_hire 11 = .ok (.new 39, 3) := by decide +kernel
theorem dX6_hire_14 : decode cX6_hire 14 = .ok (.dup, 1) := by decide +kernel
theorem dX6_hire_15 : decode cX6_hire 15 = .ok (.ldc 41, 2) := by decide +kernel
theorem dX6_hire_17 : decode cX6_hire 17 = .ok (.invokespecial 43, 3) := by decide +kernel
theorem dX6_hire_20 : decode cX6_hire 20 = .ok (.athrow, 1) := by decide +kernel
theorem dX6_hire_21 : decode cX6_hire 21 = .ok (.iload_n 2, 1) := by decide +kernel
theorem dX6_hire_22 : decode cX6_hire 22 = .ok (.invokestatic 46, 3) := by decide +kernel
theorem dX6_hire_25 : decode cX6_hire 25 = .ok (.ifCond .eq 15, 3) := by decide +kernel
theorem dX6_hire_28 : decode cX6_hire 28 = .ok (.iload_n 3, 1) := by decide +kernel
theorem dX6_hire_29 : decode cX6_hire 29 = .ok (.iload_n 2, 1) := by decide +kernel
theorem dX6_hire_30 : decode cX6_hire 30 = .ok (.if_icmp .le 10, 3) := by decide +kernel
theorem dX6_hire_33 : decode cX6_hire 33 = .ok (.iload_n 3, 1) := by decide +kernel
theorem dX6_hire_34 : decode cX6_hire 34 = .ok (.sipush 600, 3) := by decide +kernel
theorem dX6_hire_37 : decode cX6_hire 37 = .ok (.if_icmp .le 13, 3) := by decide +kernel
theorem dX6_hire_40 : decode cX6_hire 40 = .ok (.new 39, 3) := by decide +kernel
theorem dX6_hire_43 : decode cX6_hire 43 = .ok (.dup, 1) := by decide +kernel
theorem dX6_hire_44 : decode cX6_hire 44 = .ok (.ldc 50, 2) := by decide +kernel
theorem dX6_hire_46 : decode cX6_hire 46 = .ok (.invokespecial 43, 3) := by decide +kernel
theorem dX6_hire_49 : decode cX6_hire 49 = .ok (.athrow, 1) := by decide +kernel
theorem dX6_hire_50 : decode cX6_hire 50 = .ok (.aload_n 0, 1) := by decide +kernel
theorem dX6_hire_51 : decode cX6_hire 51 = .ok (.getfield 10, 3) := by decide +kernel
theorem dX6_hire_54 : decode cX6_hire 54 = .ok (.invokevirtual 52, 3) := by decide +kernel
theorem dX6_hire_57 : decode cX6_hire 57 = .ok (.iconst 5, 1) := by decide +kernel
theorem dX6_hire_58 : decode cX6_hire 58 = .ok (.if_icmp .lt 13, 3) := by decide +kernel
theorem dX6_hire_61 : decode cX6_hire 61 = .ok (.new 56, 3) := by decide +kernel
theorem dX6_hire_64 : decode cX6_hire 64 = .ok (.dup, 1) := by decide +kernel
theorem dX6_hire_65 : decode cX6_hire 65 = .ok (.ldc 58, 2) := by decide +kernel
theorem dX6_hire_67 : decode cX6_hire 67 = .ok (.invokespecial 60, 3) := by decide +kernel
theorem dX6_hire_70 : decode cX6_hire 70 = .ok (.athrow, 1) := by decide +kernel
theorem dX6_hire_71 : decode cX6_hire 71 = .ok (.aload_n 0, 1) := by decide +kernel
theorem dX6_hire_72 : decode cX6_hire 72 = .ok (.getfield 10, 3) := by decide +kernel
theorem dX6_hire_75 : decode cX6_hire 75 = .ok (.new 61, 3) := by decide +kernel
theorem dX6_hire_78 : decode cX6_hire 78 = .ok (.dup, 1) := by decide +kernel
theorem dX6_hire_79 : decode cX6_hire 79 = .ok (.iload_n 1, 1) := by decide +kernel
theorem dX6_hire_80 : decode cX6_hire 80 = .ok (.iload_n 2, 1) := by decide +kernel
theorem dX6_hire_81 : decode cX6_hire 81 = .ok (.iload_n 3, 1) := by decide +kernel
theorem dX6_hire_82 : decode cX6_hire 82 = .ok (.invokespecial 63, 3) := by decide +kernel
theorem dX6_hire_85 : decode cX6_hire 85 = .ok (.invokevirtual 66, 3) := by decide +kernel
theorem dX6_hire_88 : decode cX6_hire 88 = .ok (.pop, 1) := by decide +kernel
theorem dX6_hire_89 : decode cX6_hire 89 = .ok (.aload_n 0, 1) := by decide +kernel
theorem dX6_hire_90 : decode cX6_hire 90 = .ok (.getfield 10, 3) := by decide +kernel
theorem dX6_hire_93 : decode cX6_hire 93 = .ok (.invokevirtual 52, 3) := by decide +kernel
theorem dX6_hire_96 : decode cX6_hire 96 = .ok (.iconst 1, 1) := by decide +kernel
theorem dX6_hire_97 : decode cX6_hire 97 = .ok (.isub, 1) := by decide +kernel
theorem dX6_hire_98 : decode cX6_hire 98 = .ok (.ireturn, 1) := by decide +kernel
theorem dX6_addService_0 : decode cX6_addService 0 = .ok (.iload_n 1, 1) := by decide +kernel
theorem dX6_addService_1 : decode cX6_addService 1 = .ok (.invokestatic 70, 3) := by decide +kernel
theorem dX6_addService_4 : decode cX6_addService 4 = .ok (.ifCond .ne 13, 3) := by decide +kernel
theorem dX6_addService_7 : decode cX6_addService 7 = .ok (.new 39, 3) := by decide +kernel
theorem dX6_addService_10 : decode cX6_addService 10 = .ok (.dup, 1) := by decide +kernel
theorem dX6_addService_11 : decode cX6_addService 11 = .ok (.ldc 73, 2) := by decide +kernel
theorem dX6_addService_13 : decode cX6_addService 13 = .ok (.invokespecial 43, 3) := by decide +kernel
theorem dX6_addService_16 : decode cX6_addService 16 = .ok (.athrow, 1) := by decide +kernel
theorem dX6_addService_17 : decode cX6_addService 17 = .ok (.iload_n 2, 1) := by decide +kernel
theorem dX6_addService_18 : decode cX6_addService 18 = .ok (.invokestatic 75, 3) := by decide +kernel
theorem dX6_addService_21 : decode cX6_addService 21 = .ok (.aload_n 0, 1) := by decide +kernel
theorem dX6_addService_22 : decode cX6_addService 22 = .ok (.invokevirtual 79, 3) := by decide +kernel
theorem dX6_addService_25 : decode cX6_addService 25 = .ok (.aload_n 0, 1) := by decide +kernel
theorem dX6_addService_26 : decode cX6_addService 26 = .ok (.invokevirtual 82, 3) := by decide +kernel
theorem dX6_addService_29 : decode cX6_addService 29 = .ok (.astore_n 3, 1) := by decide +kernel
theorem dX6_addService_30 : decode cX6_addService 30 = .ok (.aload_n 3, 1) := by decide +kernel
theorem dX6_addService_31 : decode cX6_addService 31 = .ok (.iload_n 1, 1) := by decide +kernel
theorem dX6_addService_32 : decode cX6_addService 32 = .ok (.iload_n 2, 1) := by decide +kernel
theorem dX6_addService_33 : decode cX6_addService 33 = .ok (.invokevirtual 86, 3) := by decide +kernel
theorem dX6_addService_36 : decode cX6_addService 36 = .ok (.aload_n 3, 1) := by decide +kernel
theorem dX6_addService_37 : decode cX6_addService 37 = .ok (.getfield 92, 3) := by decide +kernel
theorem dX6_addService_40 : decode cX6_addService 40 = .ok (.ireturn, 1) := by decide +kernel
theorem dX6_addStep_0 : decode cX6_addStep 0 = .ok (.aload_n 0, 1) := by decide +kernel
theorem dX6_addStep_1 : decode cX6_addStep 1 = .ok (.iload_n 1, 1) := by decide +kernel
theorem dX6_addStep_2 : decode cX6_addStep 2 = .ok (.invokevirtual 96, 3) := by decide +kernel
theorem dX6_addStep_5 : decode cX6_addStep 5 = .ok (.iload_n 2, 1) := by decide +kernel
theorem dX6_addStep_6 : decode cX6_addStep 6 = .ok (.iconst (-1), 1) := by decide +kernel
theorem dX6_addStep_7 : decode cX6_addStep 7 = .ok (.if_icmp .eq 20, 3) := by decide +kernel
theorem dX6_addStep_10 : decode cX6_addStep 10 = .ok (.iload_n 2, 1) := by decide +kernel
theorem dX6_addStep_11 : decode cX6_addStep 11 = .ok (.invokestatic 70, 3) := by decide +kernel
theorem dX6_addStep_14 : decode cX6_addStep 14 = .ok (.ifCond .ne 13, 3) := by decide +kernel
theorem dX6_addStep_17 : decode cX6_addStep 17 = .ok (.new 39, 3) := by decide +kernel
theorem dX6_addStep_20 : decode cX6_addStep 20 = .ok (.dup, 1) := by decide +kernel
theorem dX6_addStep_21 : decode cX6_addStep 21 = .ok (.ldc 73, 2) := by decide +kernel
theorem dX6_addStep_23 : decode cX6_addStep 23 = .ok (.invokespecial 43, 3) := by decide +kernel
theorem dX6_addStep_26 : decode cX6_addStep 26 = .ok (.athrow, 1) := by decide +kernel
theorem dX6_addStep_27 : decode cX6_addStep 27 = .ok (.iload_n 3, 1) := by decide +kernel
theorem dX6_addStep_28 : decode cX6_addStep 28 = .ok (.invokestatic 75, 3) := by decide +kernel
theorem dX6_addStep_31 : decode cX6_addStep 31 = .ok (.aload_n 0, 1) := by decide +kernel
theorem dX6_addStep_32 : decode cX6_addStep 32 = .ok (.getfield 16, 3) := by decide +kernel
theorem dX6_addStep_35 : decode cX6_addStep 35 = .ok (.iload_n 1, 1) := by decide +kernel
theorem dX6_addStep_36 : decode cX6_addStep 36 = .ok (.invokevirtual 99, 3) := by decide +kernel
theorem dX6_addStep_39 : decode cX6_addStep 39 = .ok (.checkcast 87, 3) := by decide +kernel
theorem dX6_addStep_42 : decode cX6_addStep 42 = .ok (.astore 4, 2) := by decide +kernel
theorem dX6_addStep_44 : decode cX6_addStep 44 = .ok (.aload 4, 2) := by decide +kernel
theorem dX6_addStep_46 : decode cX6_addStep 46 = .ok (.getfield 103, 3) := by decide +kernel
theorem dX6_addStep_49 : decode cX6_addStep 49 = .ok (.iconst 5, 1) := by decide +kernel
theorem dX6_addStep_50 : decode cX6_addStep 50 = .ok (.if_icmp .lt 13, 3) := by decide +kernel
theorem dX6_addStep_53 : decode cX6_addStep 53 = .ok (.new 56, 3) := by decide +kernel
theorem dX6_addStep_56 : decode cX6_addStep 56 = .ok (.dup, 1) := by decide +kernel
theorem dX6_addStep_57 : decode cX6_addStep 57 = .ok (.ldc 106, 2) := by decide +kernel
theorem dX6_addStep_59 : decode cX6_addStep 59 = .ok (.invokespecial 60, 3) := by decide +kernel
theorem dX6_addStep_62 : decode cX6_addStep 62 = .ok (.athrow, 1) := by decide +kernel
theorem dX6_addStep_63 : decode cX6_addStep 63 = .ok (.aload 4, 2) := by decide +kernel
theorem dX6_addStep_65 : decode cX6_addStep 65 = .ok (.getfield 108, 3) := by decide +kernel
theorem dX6_addStep_68 : decode cX6_addStep 68 = .ok (.ifCond .eq 13, 3) := by decide +kernel
theorem dX6_addStep_71 : decode cX6_addStep 71 = .ok (.new 56, 3) := by decide +kernel
theorem dX6_addStep_74 : decode cX6_addStep 74 = .ok (.dup, 1) := by decide +kernel
theorem dX6_addStep_75 : decode cX6_addStep 75 = .ok (.ldc 112, 2) := by decide +kernel
theorem dX6_addStep_77 : decode cX6_addStep 77 = .ok (.invokespecial 60, 3) := by decide +kernel
theorem dX6_addStep_80 : decode cX6_addStep 80 = .ok (.athrow, 1) := by decide +kernel
theorem dX6_addStep_81 : decode cX6_addStep 81 = .ok (.aload 4, 2) := by decide +kernel
theorem dX6_addStep_83 : decode cX6_addStep 83 = .ok (.iload_n 2, 1) := by decide +kernel
theorem dX6_addStep_84 : decode cX6_addStep 84 = .ok (.iload_n 3, 1) := by decide +kernel
theorem dX6_addStep_85 : decode cX6_addStep 85 = .ok (.invokevirtual 86, 3) := by decide +kernel
theorem dX6_addStep_88 : decode cX6_addStep 88 = .ok (.aload 4, 2) := by decide +kernel
theorem dX6_addStep_90 : decode cX6_addStep 90 = .ok (.getfield 103, 3) := by decide +kernel
theorem dX6_addStep_93 : decode cX6_addStep 93 = .ok (.ireturn, 1) := by decide +kernel
theorem dX6_addUsual_0 : decode cX6_addUsual 0 = .ok (.iload_n 1, 1) := by decide +kernel
theorem dX6_addUsual_1 : decode cX6_addUsual 1 = .ok (.ifCond .lt 8, 3) := by decide +kernel
theorem dX6_addUsual_4 : decode cX6_addUsual 4 = .ok (.iload_n 1, 1) := by decide +kernel
theorem dX6_addUsual_5 : decode cX6_addUsual 5 = .ok (.iconst 4, 1) := by decide +kernel
theorem dX6_addUsual_6 : decode cX6_addUsual 6 = .ok (.if_icmp .lt 13, 3) := by decide +kernel
theorem dX6_addUsual_9 : decode cX6_addUsual 9 = .ok (.new 39, 3) := by decide +kernel
theorem dX6_addUsual_12 : decode cX6_addUsual 12 = .ok (.dup, 1) := by decide +kernel
theorem dX6_addUsual_13 : decode cX6_addUsual 13 = .ok (.ldc 114, 2) := by decide +kernel
theorem dX6_addUsual_15 : decode cX6_addUsual 15 = .ok (.invokespecial 43, 3) := by decide +kernel
theorem dX6_addUsual_18 : decode cX6_addUsual 18 = .ok (.athrow, 1) := by decide +kernel
theorem dX6_addUsual_19 : decode cX6_addUsual 19 = .ok (.aload_n 0, 1) := by decide +kernel
theorem dX6_addUsual_20 : decode cX6_addUsual 20 = .ok (.invokevirtual 79, 3) := by decide +kernel
theorem dX6_addUsual_23 : decode cX6_addUsual 23 = .ok (.aload_n 0, 1) := by decide +kernel
theorem dX6_addUsual_24 : decode cX6_addUsual 24 = .ok (.invokevirtual 82, 3) := by decide +kernel
theorem dX6_addUsual_27 : decode cX6_addUsual 27 = .ok (.astore_n 2, 1) := by decide +kernel
theorem dX6_addUsual_28 : decode cX6_addUsual 28 = .ok (.aload_n 2, 1) := by decide +kernel
theorem dX6_addUsual_29 : decode cX6_addUsual 29 = .ok (.iload_n 1, 1) := by decide +kernel
theorem dX6_addUsual_30 : decode cX6_addUsual 30 = .ok (.invokestatic 116, 3) := by decide +kernel
theorem dX6_addUsual_33 : decode cX6_addUsual 33 = .ok (.aload_n 2, 1) := by decide +kernel
theorem dX6_addUsual_34 : decode cX6_addUsual 34 = .ok (.getfield 92, 3) := by decide +kernel
theorem dX6_addUsual_37 : decode cX6_addUsual 37 = .ok (.ireturn, 1) := by decide +kernel
theorem dX6_book_0 : decode cX6_book 0 = .ok (.aload_n 0, 1) := by decide +kernel
theorem dX6_book_1 : decode cX6_book 1 = .ok (.iload_n 1, 1) := by decide +kernel
theorem dX6_book_2 : decode cX6_book 2 = .ok (.invokevirtual 96, 3) := by decide +kernel
theorem dX6_book_5 : decode cX6_book 5 = .ok (.iload_n 2, 1) := by decide +kernel
theorem dX6_book_6 : decode cX6_book 6 = .ok (.invokestatic 120, 3) := by decide +kernel
theorem dX6_book_9 : decode cX6_book 9 = .ok (.aload_n 0, 1) := by decide +kernel
theorem dX6_book_10 : decode cX6_book 10 = .ok (.invokevirtual 123, 3) := by decide +kernel
theorem dX6_book_13 : decode cX6_book 13 = .ok (.aload_n 0, 1) := by decide +kernel
theorem dX6_book_14 : decode cX6_book 14 = .ok (.aload_n 0, 1) := by decide +kernel
theorem dX6_book_15 : decode cX6_book 15 = .ok (.getfield 16, 3) := by decide +kernel
theorem dX6_book_18 : decode cX6_book 18 = .ok (.iload_n 1, 1) := by decide +kernel
theorem dX6_book_19 : decode cX6_book 19 = .ok (.invokevirtual 99, 3) := by decide +kernel
theorem dX6_book_22 : decode cX6_book 22 = .ok (.checkcast 87, 3) := by decide +kernel
theorem dX6_book_25 : decode cX6_book 25 = .ok (.bipush 31, 2) := by decide +kernel
theorem dX6_book_27 : decode cX6_book 27 = .ok (.iload_n 2, 1) := by decide +kernel
theorem dX6_book_28 : decode cX6_book 28 = .ok (.invokevirtual 126, 3) := by decide +kernel
theorem dX6_book_31 : decode cX6_book 31 = .ok (.ireturn, 1) := by decide +kernel
theorem dX6_bookWith_0 : decode cX6_bookWith 0 = .ok (.aload_n 0, 1) := by decide +kernel
theorem dX6_bookWith_1 : decode cX6_bookWith 1 = .ok (.iload_n 1, 1) := by decide +kernel
theorem dX6_bookWith_2 : decode cX6_bookWith 2 = .ok (.invokevirtual 96, 3) := by decide +kernel
theorem dX6_bookWith_5 : decode cX6_bookWith 5 = .ok (.aload_n 0, 1) := by decide +kernel
theorem dX6_bookWith_6 : decode cX6_bookWith 6 = .ok (.iload_n 2, 1) := by decide +kernel
theorem dX6_bookWith_7 : decode cX6_bookWith 7 = .ok (.invokevirtual 130, 3) := by decide +kernel
theorem dX6_bookWith_10 : decode cX6_bookWith 10 = .ok (.iload_n 3, 1) := by decide +kernel
theorem dX6_bookWith_11 : decode cX6_bookWith 11 = .ok (.invokestatic 120, 3) := by decide +kernel
theorem dX6_bookWith_14 : decode cX6_bookWith 14 = .ok (.aload_n 0, 1) := by decide +kernel
theorem dX6_bookWith_15 : decode cX6_bookWith 15 = .ok (.invokevirtual 123, 3) := by decide +kernel
theorem dX6_bookWith_18 : decode cX6_bookWith 18 = .ok (.aload_n 0, 1) := by decide +kernel
theorem dX6_bookWith_19 : decode cX6_bookWith 19 = .ok (.aload_n 0, 1) := by decide +kernel
theorem dX6_bookWith_20 : decode cX6_bookWith 20 = .ok (.getfield 16, 3) := by decide +kernel
theorem dX6_bookWith_23 : decode cX6_bookWith 23 = .ok (.iload_n 1, 1) := by decide +kernel
theorem dX6_bookWith_24 : decode cX6_bookWith 24 = .ok (.invokevirtual 99, 3) := by decide +kernel
theorem dX6_bookWith_27 : decode cX6_bookWith 27 = .ok (.checkcast 87, 3) := by decide +kernel
theorem dX6_bookWith_30 : decode cX6_bookWith 30 = .ok (.iconst 1, 1) := by decide +kernel
theorem dX6_bookWith_31 : decode cX6_bookWith 31 = .ok (.iload_n 2, 1) := by decide +kernel
theorem dX6_bookWith_32 : decode cX6_bookWith 32 = .ok (.ishl, 1) := by decide +kernel
theorem dX6_bookWith_33 : decode cX6_bookWith 33 = .ok (.iload_n 3, 1) := by decide +kernel
theorem dX6_bookWith_34 : decode cX6_bookWith 34 = .ok (.invokevirtual 126, 3) := by decide +kernel
theorem dX6_bookWith_37 : decode cX6_bookWith 37 = .ok (.ireturn, 1) := by decide +kernel
theorem dX6_move_0 : decode cX6_move 0 = .ok (.aload_n 0, 1) := by decide +kernel
theorem dX6_move_1 : decode cX6_move 1 = .ok (.iload_n 1, 1) := by decide +kernel
theorem dX6_move_2 : decode cX6_move 2 = .ok (.invokevirtual 133, 3) := by decide +kernel
theorem dX6_move_5 : decode cX6_move 5 = .ok (.iload_n 2, 1) := by decide +kernel
theorem dX6_move_6 : decode cX6_move 6 = .ok (.invokestatic 120, 3) := by decide +kernel
theorem dX6_move_9 : decode cX6_move 9 = .ok (.aload_n 0, 1) := by decide +kernel
theorem dX6_move_10 : decode cX6_move 10 = .ok (.getfield 19, 3) := by decide +kernel
theorem dX6_move_13 : decode cX6_move 13 = .ok (.iload_n 1, 1) := by decide +kernel
theorem dX6_move_14 : decode cX6_move 14 = .ok (.invokevirtual 99, 3) := by decide +kernel
theorem dX6_move_17 : decode cX6_move 17 = .ok (.checkcast 136, 3) := by decide +kernel
theorem dX6_move_20 : decode cX6_move 20 = .ok (.astore_n 3, 1) := by decide +kernel
theorem dX6_move_21 : decode cX6_move 21 = .ok (.aload_n 3, 1) := by decide +kernel
theorem dX6_move_22 : decode cX6_move 22 = .ok (.getfield 138, 3) := by decide +kernel
theorem dX6_move_25 : decode cX6_move 25 = .ok (.istore 4, 2) := by decide +kernel
theorem dX6_move_27 : decode cX6_move 27 = .ok (.aload_n 3, 1) := by decide +kernel
theorem dX6_move_28 : decode cX6_move 28 = .ok (.getfield 141, 3) := by decide +kernel
theorem dX6_move_31 : decode cX6_move 31 = .ok (.istore 5, 2) := by decide +kernel
theorem dX6_move_33 : decode cX6_move 33 = .ok (.aload_n 3, 1) := by decide +kernel
theorem dX6_move_34 : decode cX6_move 34 = .ok (.getfield 144, 3) := by decide +kernel
theorem dX6_move_37 : decode cX6_move 37 = .ok (.istore 6, 2) := by decide +kernel
theorem dX6_move_39 : decode cX6_move 39 = .ok (.aload_n 0, 1) := by decide +kernel
theorem dX6_move_40 : decode cX6_move 40 = .ok (.aload_n 3, 1) := by decide +kernel
theorem dX6_move_41 : decode cX6_move 41 = .ok (.invokevirtual 147, 3) := by decide +kernel
theorem dX6_move_44 : decode cX6_move 44 = .ok (.aload_n 0, 1) := by decide +kernel
theorem dX6_move_45 : decode cX6_move 45 = .ok (.aload_n 3, 1) := by decide +kernel
theorem dX6_move_46 : decode cX6_move 46 = .ok (.getfield 151, 3) := by decide +kernel
theorem dX6_move_49 : decode cX6_move 49 = .ok (.bipush 31, 2) := by decide +kernel
theorem dX6_move_51 : decode cX6_move 51 = .ok (.iload_n 2, 1) := by decide +kernel
theorem dX6_move_52 : decode cX6_move 52 = .ok (.invokevirtual 155, 3) := by decide +kernel
theorem dX6_move_55 : decode cX6_move 55 = .ok (.istore 7, 2) := by decide +kernel
theorem dX6_move_57 : decode cX6_move 57 = .ok (.iload 7, 2) := by decide +kernel
theorem dX6_move_59 : decode cX6_move 59 = .ok (.iconst (-1), 1) := by decide +kernel
theorem dX6_move_60 : decode cX6_move 60 = .ok (.if_icmp .ne 24, 3) := by decide +kernel
theorem dX6_move_63 : decode cX6_move 63 = .ok (.aload_n 0, 1) := by decide +kernel
theorem dX6_move_64 : decode cX6_move 64 = .ok (.aload_n 3, 1) := by decide +kernel
theorem dX6_move_65 : decode cX6_move 65 = .ok (.iload 4, 2) := by decide +kernel
theorem dX6_move_67 : decode cX6_move 67 = .ok (.iload 5, 2) := by decide +kernel
theorem dX6_move_69 : decode cX6_move 69 = .ok (.iload 6, 2) := by decide +kernel
theorem dX6_move_71 : decode cX6_move 71 = .ok (.invokevirtual 158, 3) := by decide +kernel
theorem dX6_move_74 : decode cX6_move 74 = .ok (.new 162, 3) := by decide +kernel
theorem dX6_move_77 : decode cX6_move 77 = .ok (.dup, 1) := by decide +kernel
theorem dX6_move_78 : decode cX6_move 78 = .ok (.ldc 164, 2) := by decide +kernel
theorem dX6_move_80 : decode cX6_move 80 = .ok (.invokespecial 166, 3) := by decide +kernel
theorem dX6_move_83 : decode cX6_move 83 = .ok (.athrow, 1) := by decide +kernel
theorem dX6_move_84 : decode cX6_move 84 = .ok (.aload_n 0, 1) := by decide +kernel
theorem dX6_move_85 : decode cX6_move 85 = .ok (.aload_n 3, 1) := by decide +kernel
theorem dX6_move_86 : decode cX6_move 86 = .ok (.bipush 31, 2) := by decide +kernel
theorem dX6_move_88 : decode cX6_move 88 = .ok (.iload 7, 2) := by decide +kernel
theorem dX6_move_90 : decode cX6_move 90 = .ok (.invokevirtual 167, 3) := by decide +kernel
theorem dX6_move_93 : decode cX6_move 93 = .ok (.aload_n 0, 1) := by decide +kernel
theorem dX6_move_94 : decode cX6_move 94 = .ok (.invokevirtual 171, 3) := by decide +kernel
theorem dX6_move_97 : decode cX6_move 97 = .ok (.pop, 1) := by decide +kernel
theorem dX6_move_98 : decode cX6_move 98 = .ok (.iload 7, 2) := by decide +kernel
theorem dX6_move_100 : decode cX6_move 100 = .ok (.ireturn, 1) := by decide +kernel
theorem dX6_drop_0 : decode cX6_drop 0 = .ok (.aload_n 0, 1) := by decide +kernel
theorem dX6_drop_1 : decode cX6_drop 1 = .ok (.iload_n 1, 1) := by decide +kernel
theorem dX6_drop_2 : decode cX6_drop 2 = .ok (.invokevirtual 133, 3) := by decide +kernel
theorem dX6_drop_5 : decode cX6_drop 5 = .ok (.aload_n 0, 1) := by decide +kernel
theorem dX6_drop_6 : decode cX6_drop 6 = .ok (.aload_n 0, 1) := by decide +kernel
theorem dX6_drop_7 : decode cX6_drop 7 = .ok (.getfield 19, 3) := by decide +kernel
theorem dX6_drop_10 : decode cX6_drop 10 = .ok (.iload_n 1, 1) := by decide +kernel
theorem dX6_drop_11 : decode cX6_drop 11 = .ok (.invokevirtual 99, 3) := by decide +kernel
theorem dX6_drop_14 : decode cX6_drop 14 = .ok (.checkcast 136, 3) := by decide +kernel
theorem dX6_drop_17 : decode cX6_drop 17 = .ok (.invokevirtual 147, 3) := by decide +kernel
theorem dX6_drop_20 : decode cX6_drop 20 = .ok (.aload_n 0, 1) := by decide +kernel
theorem dX6_drop_21 : decode cX6_drop 21 = .ok (.invokevirtual 171, 3) := by decide +kernel
theorem dX6_drop_24 : decode cX6_drop 24 = .ok (.ireturn, 1) := by decide +kernel
theorem dX6_request_0 : decode cX6_request 0 = .ok (.aload_n 0, 1) := by decide +kernel
theorem dX6_request_1 : decode cX6_request 1 = .ok (.iload_n 1, 1) := by decide +kernel
theorem dX6_request_2 : decode cX6_request 2 = .ok (.invokevirtual 96, 3) := by decide +kernel
theorem dX6_request_5 : decode cX6_request 5 = .ok (.iload_n 2, 1) := by decide +kernel
theorem dX6_request_6 : decode cX6_request 6 = .ok (.invokestatic 120, 3) := by decide +kernel
theorem dX6_request_9 : decode cX6_request 9 = .ok (.aload_n 0, 1) := by decide +kernel
theorem dX6_request_10 : decode cX6_request 10 = .ok (.getfield 22, 3) := by decide +kernel
theorem dX6_request_13 : decode cX6_request 13 = .ok (.invokevirtual 52, 3) := by decide +kernel
theorem dX6_request_16 : decode cX6_request 16 = .ok (.bipush 6, 2) := by decide +kernel
theorem dX6_request_18 : decode cX6_request 18 = .ok (.if_icmp .lt 13, 3) := by decide +kernel
theorem dX6_request_21 : decode cX6_request 21 = .ok (.new 56, 3) := by decide +kernel
theorem dX6_request_24 : decode cX6_request 24 = .ok (.dup, 1) := by decide +kernel
theorem dX6_request_25 : decode cX6_request 25 = .ok (.ldc 174, 2) := by decide +kernel
theorem dX6_request_27 : decode cX6_request 27 = .ok (.invokespecial 60, 3) := by decide +kernel
theorem dX6_request_30 : decode cX6_request 30 = .ok (.athrow, 1) := by decide +kernel
theorem dX6_request_31 : decode cX6_request 31 = .ok (.aload_n 0, 1) := by decide +kernel
theorem dX6_request_32 : decode cX6_request 32 = .ok (.getfield 16, 3) := by decide +kernel
theorem dX6_request_35 : decode cX6_request 35 = .ok (.iload_n 1, 1) := by decide +kernel
theorem dX6_request_36 : decode cX6_request 36 = .ok (.invokevirtual 99, 3) := by decide +kernel
theorem dX6_request_39 : decode cX6_request 39 = .ok (.checkcast 87, 3) := by decide +kernel
theorem dX6_request_42 : decode cX6_request 42 = .ok (.astore_n 3, 1) := by decide +kernel
theorem dX6_request_43 : decode cX6_request 43 = .ok (.aload_n 3, 1) := by decide +kernel
theorem dX6_request_44 : decode cX6_request 44 = .ok (.iconst 1, 1) := by decide +kernel
theorem dX6_request_45 : decode cX6_request 45 = .ok (.putfield 108, 3) := by decide +kernel
theorem dX6_request_48 : decode cX6_request 48 = .ok (.aload_n 0, 1) := by decide +kernel
theorem dX6_request_49 : decode cX6_request 49 = .ok (.getfield 22, 3) := by decide +kernel
theorem dX6_request_52 : decode cX6_request 52 = .ok (.new 176, 3) := by decide +kernel
theorem dX6_request_55 : decode cX6_request 55 = .ok (.dup, 1) := by decide +kernel
theorem dX6_request_56 : decode cX6_request 56 = .ok (.aload_n 3, 1) := by decide +kernel
theorem dX6_request_57 : decode cX6_request 57 = .ok (.iload_n 2, 1) := by decide +kernel
theorem dX6_request_58 : decode cX6_request 58 = .ok (.invokespecial 178, 3) := by decide +kernel
theorem dX6_request_61 : decode cX6_request 61 = .ok (.invokevirtual 66, 3) := by decide +kernel
theorem dX6_request_64 : decode cX6_request 64 = .ok (.pop, 1) := by decide +kernel
theorem dX6_request_65 : decode cX6_request 65 = .ok (.aload_n 0, 1) := by decide +kernel
theorem dX6_request_66 : decode cX6_request 66 = .ok (.getfield 22, 3) := by decide +kernel
theorem dX6_request_69 : decode cX6_request 69 = .ok (.invokevirtual 52, 3) := by decide +kernel
theorem dX6_request_72 : decode cX6_request 72 = .ok (.ireturn, 1) := by decide +kernel
theorem dX6_requests_0 : decode cX6_requests 0 = .ok (.aload_n 0, 1) := by decide +kernel
theorem dX6_requests_1 : decode cX6_requests 1 = .ok (.getfield 22, 3) := by decide +kernel
theorem dX6_requests_4 : decode cX6_requests 4 = .ok (.invokevirtual 52, 3) := by decide +kernel
theorem dX6_requests_7 : decode cX6_requests 7 = .ok (.ireturn, 1) := by decide +kernel
theorem dX6_requestAt_0 : decode cX6_requestAt 0 = .ok (.iload_n 1, 1) := by decide +kernel
theorem dX6_requestAt_1 : decode cX6_requestAt 1 = .ok (.ifCond .lt 14, 3) := by decide +kernel
theorem dX6_requestAt_4 : decode cX6_requestAt 4 = .ok (.iload_n 1, 1) := by decide +kernel
theorem dX6_requestAt_5 : decode cX6_requestAt 5 = .ok (.aload_n 0, 1) := by decide +kernel
theorem dX6_requestAt_6 : decode cX6_requestAt 6 = .ok (.getfield 22, 3) := by decide +kernel
theorem dX6_requestAt_9 : decode cX6_requestAt 9 = .ok (.invokevirtual 52, 3) := by decide +kernel
theorem dX6_requestAt_12 : decode cX6_requestAt 12 = .ok (.if_icmp .lt 13, 3) := by decide +kernel
theorem dX6_requestAt_15 : decode cX6_requestAt 15 = .ok (.new 180, 3) := by decide +kernel
theorem dX6_requestAt_18 : decode cX6_requestAt 18 = .ok (.dup, 1) := by decide +kernel
theorem dX6_requestAt_19 : decode cX6_requestAt 19 = .ok (.ldc 182, 2) := by decide +kernel
theorem dX6_requestAt_21 : decode cX6_requestAt 21 = .ok (.invokespecial 184, 3) := by decide +kernel
theorem dX6_requestAt_24 : decode cX6_requestAt 24 = .ok (.athrow, 1) := by decide +kernel
theorem dX6_requestAt_25 : decode cX6_requestAt 25 = .ok (.aload_n 0, 1) := by decide +kernel
theorem dX6_requestAt_26 : decode cX6_requestAt 26 = .ok (.getfield 22, 3) := by decide +kernel
theorem dX6_requestAt_29 : decode cX6_requestAt 29 = .ok (.iload_n 1, 1) := by decide +kernel
theorem dX6_requestAt_30 : decode cX6_requestAt 30 = .ok (.invokevirtual 99, 3) := by decide +kernel
theorem dX6_requestAt_33 : decode cX6_requestAt 33 = .ok (.checkcast 176, 3) := by decide +kernel
theorem dX6_requestAt_36 : decode cX6_requestAt 36 = .ok (.getfield 185, 3) := by decide +kernel
theorem dX6_requestAt_39 : decode cX6_requestAt 39 = .ok (.getfield 92, 3) := by decide +kernel
theorem dX6_requestAt_42 : decode cX6_requestAt 42 = .ok (.ireturn, 1) := by decide +kernel
theorem dX6_lengthOf_0 : decode cX6_lengthOf 0 = .ok (.aload_n 0, 1) := by decide +kernel
theorem dX6_lengthOf_1 : decode cX6_lengthOf 1 = .ok (.iload_n 1, 1) := by decide +kernel
theorem dX6_lengthOf_2 : decode cX6_lengthOf 2 = .ok (.invokevirtual 96, 3) := by decide +kernel
theorem dX6_lengthOf_5 : decode cX6_lengthOf 5 = .ok (.aload_n 0, 1) := by decide +kernel
theorem dX6_lengthOf_6 : decode cX6_lengthOf 6 = .ok (.getfield 16, 3) := by decide +kernel
theorem dX6_lengthOf_9 : decode cX6_lengthOf 9 = .ok (.iload_n 1, 1) := by decide +kernel
theorem dX6_lengthOf_10 : decode cX6_lengthOf 10 = .ok (.invokevirtual 99, 3) := by decide +kernel
theorem dX6_lengthOf_13 : decode cX6_lengthOf 13 = .ok (.checkcast 87, 3) := by decide +kernel
theorem dX6_lengthOf_16 : decode cX6_lengthOf 16 = .ok (.getfield 186, 3) := by decide +kernel
theorem dX6_lengthOf_19 : decode cX6_lengthOf 19 = .ok (.ireturn, 1) := by decide +kernel
theorem dX6_workOf_0 : decode cX6_workOf 0 = .ok (.aload_n 0, 1) := by decide +kernel
theorem dX6_workOf_1 : decode cX6_workOf 1 = .ok (.iload_n 1, 1) := by decide +kernel
theorem dX6_workOf_2 : decode cX6_workOf 2 = .ok (.invokevirtual 96, 3) := by decide +kernel
theorem dX6_workOf_5 : decode cX6_workOf 5 = .ok (.aload_n 0, 1) := by decide +kernel
theorem dX6_workOf_6 : decode cX6_workOf 6 = .ok (.getfield 16, 3) := by decide +kernel
theorem dX6_workOf_9 : decode cX6_workOf 9 = .ok (.iload_n 1, 1) := by decide +kernel
theorem dX6_workOf_10 : decode cX6_workOf 10 = .ok (.invokevirtual 99, 3) := by decide +kernel
theorem dX6_workOf_13 : decode cX6_workOf 13 = .ok (.checkcast 87, 3) := by decide +kernel
theorem dX6_workOf_16 : decode cX6_workOf 16 = .ok (.getfield 189, 3) := by decide +kernel
theorem dX6_workOf_19 : decode cX6_workOf 19 = .ok (.ireturn, 1) := by decide +kernel
theorem dX6_skillsOf_0 : decode cX6_skillsOf 0 = .ok (.aload_n 0, 1) := by decide +kernel
theorem dX6_skillsOf_1 : decode cX6_skillsOf 1 = .ok (.iload_n 1, 1) := by decide +kernel
theorem dX6_skillsOf_2 : decode cX6_skillsOf 2 = .ok (.invokevirtual 96, 3) := by decide +kernel
theorem dX6_skillsOf_5 : decode cX6_skillsOf 5 = .ok (.aload_n 0, 1) := by decide +kernel
theorem dX6_skillsOf_6 : decode cX6_skillsOf 6 = .ok (.getfield 16, 3) := by decide +kernel
theorem dX6_skillsOf_9 : decode cX6_skillsOf 9 = .ok (.iload_n 1, 1) := by decide +kernel
theorem dX6_skillsOf_10 : decode cX6_skillsOf 10 = .ok (.invokevirtual 99, 3) := by decide +kernel
theorem dX6_skillsOf_13 : decode cX6_skillsOf 13 = .ok (.checkcast 87, 3) := by decide +kernel
theorem dX6_skillsOf_16 : decode cX6_skillsOf 16 = .ok (.getfield 192, 3) := by decide +kernel
theorem dX6_skillsOf_19 : decode cX6_skillsOf 19 = .ok (.ireturn, 1) := by decide +kernel
theorem dX6_visits_0 : decode cX6_visits 0 = .ok (.aload_n 0, 1) := by decide +kernel
theorem dX6_visits_1 : decode cX6_visits 1 = .ok (.getfield 19, 3) := by decide +kernel
theorem dX6_visits_4 : decode cX6_visits 4 = .ok (.invokevirtual 52, 3) := by decide +kernel
theorem dX6_visits_7 : decode cX6_visits 7 = .ok (.ireturn, 1) := by decide +kernel
theorem dX6_startOf_0 : decode cX6_startOf 0 = .ok (.aload_n 0, 1) := by decide +kernel
theorem dX6_startOf_1 : decode cX6_startOf 1 = .ok (.iload_n 1, 1) := by decide +kernel
theorem dX6_startOf_2 : decode cX6_startOf 2 = .ok (.invokevirtual 195, 3) := by decide +kernel
theorem dX6_startOf_5 : decode cX6_startOf 5 = .ok (.aload_n 0, 1) := by decide +kernel
theorem dX6_startOf_6 : decode cX6_startOf 6 = .ok (.getfield 19, 3) := by decide +kernel
theorem dX6_startOf_9 : decode cX6_startOf 9 = .ok (.iload_n 1, 1) := by decide +kernel
theorem dX6_startOf_10 : decode cX6_startOf 10 = .ok (.invokevirtual 99, 3) := by decide +kernel
theorem dX6_startOf_13 : decode cX6_startOf 13 = .ok (.checkcast 136, 3) := by decide +kernel
theorem dX6_startOf_16 : decode cX6_startOf 16 = .ok (.getfield 144, 3) := by decide +kernel
theorem dX6_startOf_19 : decode cX6_startOf 19 = .ok (.ireturn, 1) := by decide +kernel
theorem dX6_staffOf_0 : decode cX6_staffOf 0 = .ok (.aload_n 0, 1) := by decide +kernel
theorem dX6_staffOf_1 : decode cX6_staffOf 1 = .ok (.iload_n 1, 1) := by decide +kernel
theorem dX6_staffOf_2 : decode cX6_staffOf 2 = .ok (.invokevirtual 195, 3) := by decide +kernel
theorem dX6_staffOf_5 : decode cX6_staffOf 5 = .ok (.aload_n 0, 1) := by decide +kernel
theorem dX6_staffOf_6 : decode cX6_staffOf 6 = .ok (.getfield 19, 3) := by decide +kernel
theorem dX6_staffOf_9 : decode cX6_staffOf 9 = .ok (.iload_n 1, 1) := by decide +kernel
theorem dX6_staffOf_10 : decode cX6_staffOf 10 = .ok (.invokevirtual 99, 3) := by decide +kernel
theorem dX6_staffOf_13 : decode cX6_staffOf 13 = .ok (.checkcast 136, 3) := by decide +kernel
theorem dX6_staffOf_16 : decode cX6_staffOf 16 = .ok (.getfield 138, 3) := by decide +kernel
theorem dX6_staffOf_19 : decode cX6_staffOf 19 = .ok (.ireturn, 1) := by decide +kernel
theorem dX6_chairOf_0 : decode cX6_chairOf 0 = .ok (.aload_n 0, 1) := by decide +kernel
theorem dX6_chairOf_1 : decode cX6_chairOf 1 = .ok (.iload_n 1, 1) := by decide +kernel
theorem dX6_chairOf_2 : decode cX6_chairOf 2 = .ok (.invokevirtual 195, 3) := by decide +kernel
theorem dX6_chairOf_5 : decode cX6_chairOf 5 = .ok (.aload_n 0, 1) := by decide +kernel
theorem dX6_chairOf_6 : decode cX6_chairOf 6 = .ok (.getfield 19, 3) := by decide +kernel
theorem dX6_chairOf_9 : decode cX6_chairOf 9 = .ok (.iload_n 1, 1) := by decide +kernel
theorem dX6_chairOf_10 : decode cX6_chairOf 10 = .ok (.invokevirtual 99, 3) := by decide +kernel
theorem dX6_chairOf_13 : decode cX6_chairOf 13 = .ok (.checkcast 136, 3) := by decide +kernel
theorem dX6_chairOf_16 : decode cX6_chairOf 16 = .ok (.getfield 141, 3) := by decide +kernel
theorem dX6_chairOf_19 : decode cX6_chairOf 19 = .ok (.ireturn, 1) := by decide +kernel
theorem dX6_serviceOf_0 : decode cX6_serviceOf 0 = .ok (.aload_n 0, 1) := by decide +kernel
theorem dX6_serviceOf_1 : decode cX6_serviceOf 1 = .ok (.iload_n 1, 1) := by decide +kernel
theorem dX6_serviceOf_2 : decode cX6_serviceOf 2 = .ok (.invokevirtual 195, 3) := by decide +kernel
theorem dX6_serviceOf_5 : decode cX6_serviceOf 5 = .ok (.aload_n 0, 1) := by decide +kernel
theorem dX6_serviceOf_6 : decode cX6_serviceOf 6 = .ok (.getfield 19, 3) := by decide +kernel
theorem dX6_serviceOf_9 : decode cX6_serviceOf 9 = .ok (.iload_n 1, 1) := by decide +kernel
theorem dX6_serviceOf_10 : decode cX6_serviceOf 10 = .ok (.invokevirtual 99, 3) := by decide +kernel
theorem dX6_serviceOf_13 : decode cX6_serviceOf 13 = .ok (.checkcast 136, 3) := by decide +kernel
theorem dX6_serviceOf_16 : decode cX6_serviceOf 16 = .ok (.getfield 151, 3) := by decide +kernel
theorem dX6_serviceOf_19 : decode cX6_serviceOf 19 = .ok (.getfield 92, 3) := by decide +kernel
theorem dX6_serviceOf_22 : decode cX6_serviceOf 22 = .ok (.ireturn, 1) := by decide +kernel
theorem dX6_loadOf_0 : decode cX6_loadOf 0 = .ok (.aload_n 0, 1) := by decide +kernel
theorem dX6_loadOf_1 : decode cX6_loadOf 1 = .ok (.iload_n 1, 1) := by decide +kernel
theorem dX6_loadOf_2 : decode cX6_loadOf 2 = .ok (.invokevirtual 130, 3) := by decide +kernel
theorem dX6_loadOf_5 : decode cX6_loadOf 5 = .ok (.aload_n 0, 1) := by decide +kernel
theorem dX6_loadOf_6 : decode cX6_loadOf 6 = .ok (.iload_n 1, 1) := by decide +kernel
theorem dX6_loadOf_7 : decode cX6_loadOf 7 = .ok (.invokevirtual 198, 3) := by decide +kernel
theorem dX6_loadOf_10 : decode cX6_loadOf 10 = .ok (.ireturn, 1) := by decide +kernel
theorem dX6_staffAt_0 : decode cX6_staffAt 0 = .ok (.aload_n 0, 1) := by decide +kernel
theorem dX6_staffAt_1 : decode cX6_staffAt 1 = .ok (.iload_n 1, 1) := by decide +kernel
theorem dX6_staffAt_2 : decode cX6_staffAt 2 = .ok (.invokevirtual 130, 3) := by decide +kernel
theorem dX6_staffAt_5 : decode cX6_staffAt 5 = .ok (.iload_n 2, 1) := by decide +kernel
theorem dX6_staffAt_6 : decode cX6_staffAt 6 = .ok (.invokestatic 120, 3) := by decide +kernel
theorem dX6_staffAt_9 : decode cX6_staffAt 9 = .ok (.aload_n 0, 1) := by decide +kernel
theorem dX6_staffAt_10 : decode cX6_staffAt 10 = .ok (.getfield 10, 3) := by decide +kernel
theorem dX6_staffAt_13 : decode cX6_staffAt 13 = .ok (.iload_n 1, 1) := by decide +kernel
theorem dX6_staffAt_14 : decode cX6_staffAt 14 = .ok (.invokevirtual 99, 3) := by decide +kernel
theorem dX6_staffAt_17 : decode cX6_staffAt 17 = .ok (.checkcast 61, 3) := by decide +kernel
theorem dX6_staffAt_20 : decode cX6_staffAt 20 = .ok (.getfield 202, 3) := by decide +kernel
theorem dX6_staffAt_23 : decode cX6_staffAt 23 = .ok (.iload_n 2, 1) := by decide +kernel
theorem dX6_staffAt_24 : decode cX6_staffAt 24 = .ok (.invokevirtual 206, 3) := by decide +kernel
theorem dX6_staffAt_27 : decode cX6_staffAt 27 = .ok (.ireturn, 1) := by decide +kernel
theorem dX6_chairAt_0 : decode cX6_chairAt 0 = .ok (.iload_n 1, 1) := by decide +kernel
theorem dX6_chairAt_1 : decode cX6_chairAt 1 = .ok (.invokestatic 209, 3) := by decide +kernel
theorem dX6_chairAt_4 : decode cX6_chairAt 4 = .ok (.ifCond .ne 13, 3) := by decide +kernel
theorem dX6_chairAt_7 : decode cX6_chairAt 7 = .ok (.new 180, 3) := by decide +kernel
theorem dX6_chairAt_10 : decode cX6_chairAt 10 = .ok (.dup, 1) := by decide +kernel
theorem dX6_chairAt_11 : decode cX6_chairAt 11 = .ok (.ldc 212, 2) := by decide +kernel
theorem dX6_chairAt_13 : decode cX6_chairAt 13 = .ok (.invokespecial 184, 3) := by decide +kernel
theorem dX6_chairAt_16 : decode cX6_chairAt 16 = .ok (.athrow, 1) := by decide +kernel
theorem dX6_chairAt_17 : decode cX6_chairAt 17 = .ok (.iload_n 2, 1) := by decide +kernel
theorem dX6_chairAt_18 : decode cX6_chairAt 18 = .ok (.invokestatic 120, 3) := by decide +kernel
theorem dX6_chairAt_21 : decode cX6_chairAt 21 = .ok (.aload_n 0, 1) := by decide +kernel
theorem dX6_chairAt_22 : decode cX6_chairAt 22 = .ok (.getfield 27, 3) := by decide +kernel
theorem dX6_chairAt_25 : decode cX6_chairAt 25 = .ok (.iload_n 1, 1) := by decide +kernel
theorem dX6_chairAt_26 : decode cX6_chairAt 26 = .ok (.aaload, 1) := by decide +kernel
theorem dX6_chairAt_27 : decode cX6_chairAt 27 = .ok (.iload_n 2, 1) := by decide +kernel
theorem dX6_chairAt_28 : decode cX6_chairAt 28 = .ok (.invokevirtual 206, 3) := by decide +kernel
theorem dX6_chairAt_31 : decode cX6_chairAt 31 = .ok (.ireturn, 1) := by decide +kernel
theorem dX6_earliest_0 : decode cX6_earliest 0 = .ok (.aload_n 0, 1) := by decide +kernel
theorem dX6_earliest_1 : decode cX6_earliest 1 = .ok (.iload_n 1, 1) := by decide +kernel
theorem dX6_earliest_2 : decode cX6_earliest 2 = .ok (.invokevirtual 96, 3) := by decide +kernel
theorem dX6_earliest_5 : decode cX6_earliest 5 = .ok (.iload_n 2, 1) := by decide +kernel
theorem dX6_earliest_6 : decode cX6_earliest 6 = .ok (.invokestatic 120, 3) := by decide +kernel
theorem dX6_earliest_9 : decode cX6_earliest 9 = .ok (.aload_n 0, 1) := by decide +kernel
theorem dX6_earliest_10 : decode cX6_earliest 10 = .ok (.aload_n 0, 1) := by decide +kernel
theorem dX6_earliest_11 : decode cX6_earliest 11 = .ok (.getfield 16, 3) := by decide +kernel
theorem dX6_earliest_14 : decode cX6_earliest 14 = .ok (.iload_n 1, 1) := by decide +kernel
theorem dX6_earliest_15 : decode cX6_earliest 15 = .ok (.invokevirtual 99, 3) := by decide +kernel
theorem dX6_earliest_18 : decode cX6_earliest 18 = .ok (.checkcast 87, 3) := by decide +kernel
theorem dX6_earliest_21 : decode cX6_earliest 21 = .ok (.bipush 31, 2) := by decide +kernel
theorem dX6_earliest_23 : decode cX6_earliest 23 = .ok (.iload_n 2, 1) := by decide +kernel
theorem dX6_earliest_24 : decode cX6_earliest 24 = .ok (.invokevirtual 155, 3) := by decide +kernel
theorem dX6_earliest_27 : decode cX6_earliest 27 = .ok (.ireturn, 1) := by decide +kernel
theorem dX6_earliestByScan_0 : decode cX6_earliestByScan 0 = .ok (.aload_n 0, 1) := by decide +kernel
theorem dX6_earliestByScan_1 : decode cX6_earliestByScan 1 = .ok (.iload_n 1, 1) := by decide +kernel
theorem dX6_earliestByScan_2 : decode cX6_earliestByScan 2 = .ok (.invokevirtual 96, 3) := by decide +kernel
theorem dX6_earliestByScan_5 : decode cX6_earliestByScan 5 = .ok (.iload_n 2, 1) := by decide +kernel
theorem dX6_earliestByScan_6 : decode cX6_earliestByScan 6 = .ok (.invokestatic 120, 3) := by decide +kernel
theorem dX6_earliestByScan_9 : decode cX6_earliestByScan 9 = .ok (.aload_n 0, 1) := by decide +kernel
theorem dX6_earliestByScan_10 : decode cX6_earliestByScan 10 = .ok (.aload_n 0, 1) := by decide +kernel
theorem dX6_earliestByScan_11 : decode cX6_earliestByScan 11 = .ok (.getfield 16, 3) := by decide +kernel
theorem dX6_earliestByScan_14 : decode cX6_earliestByScan 14 = .ok (.iload_n 1, 1) := by decide +kernel
theorem dX6_earliestByScan_15 : decode cX6_earliestByScan 15 = .ok (.invokevirtual 99, 3) := by decide +kernel
theorem dX6_earliestByScan_18 : decode cX6_earliestByScan 18 = .ok (.checkcast 87, 3) := by decide +kernel
theorem dX6_earliestByScan_21 : decode cX6_earliestByScan 21 = .ok (.bipush 31, 2) := by decide +kernel
theorem dX6_earliestByScan_23 : decode cX6_earliestByScan 23 = .ok (.iload_n 2, 1) := by decide +kernel
theorem dX6_earliestByScan_24 : decode cX6_earliestByScan 24 = .ok (.sipush 600, 3) := by decide +kernel
theorem dX6_earliestByScan_27 : decode cX6_earliestByScan 27 = .ok (.invokevirtual 214, 3) := by decide +kernel
theorem dX6_earliestByScan_30 : decode cX6_earliestByScan 30 = .ok (.ireturn, 1) := by decide +kernel
theorem dX6_staffFor_0 : decode cX6_staffFor 0 = .ok (.aload_n 0, 1) := by decide +kernel
theorem dX6_staffFor_1 : decode cX6_staffFor 1 = .ok (.iload_n 1, 1) := by decide +kernel
theorem dX6_staffFor_2 : decode cX6_staffFor 2 = .ok (.invokevirtual 96, 3) := by decide +kernel
theorem dX6_staffFor_5 : decode cX6_staffFor 5 = .ok (.iload_n 2, 1) := by decide +kernel
theorem dX6_staffFor_6 : decode cX6_staffFor 6 = .ok (.invokestatic 120, 3) := by decide +kernel
theorem dX6_staffFor_9 : decode cX6_staffFor 9 = .ok (.aload_n 0, 1) := by decide +kernel
theorem dX6_staffFor_10 : decode cX6_staffFor 10 = .ok (.getfield 16, 3) := by decide +kernel
theorem dX6_staffFor_13 : decode cX6_staffFor 13 = .ok (.iload_n 1, 1) := by decide +kernel
theorem dX6_staffFor_14 : decode cX6_staffFor 14 = .ok (.invokevirtual 99, 3) := by decide +kernel
theorem dX6_staffFor_17 : decode cX6_staffFor 17 = .ok (.checkcast 87, 3) := by decide +kernel
theorem dX6_staffFor_20 : decode cX6_staffFor 20 = .ok (.astore_n 3, 1) := by decide +kernel
theorem dX6_staffFor_21 : decode cX6_staffFor 21 = .ok (.aload_n 0, 1) := by decide +kernel
theorem dX6_staffFor_22 : decode cX6_staffFor 22 = .ok (.aload_n 3, 1) := by decide +kernel
theorem dX6_staffFor_23 : decode cX6_staffFor 23 = .ok (.bipush 31, 2) := by decide +kernel
theorem dX6_staffFor_25 : decode cX6_staffFor 25 = .ok (.iload_n 2, 1) := by decide +kernel
theorem dX6_staffFor_26 : decode cX6_staffFor 26 = .ok (.invokevirtual 155, 3) := by decide +kernel
theorem dX6_staffFor_29 : decode cX6_staffFor 29 = .ok (.istore 4, 2) := by decide +kernel
theorem dX6_staffFor_31 : decode cX6_staffFor 31 = .ok (.iload 4, 2) := by decide +kernel
theorem dX6_staffFor_33 : decode cX6_staffFor 33 = .ok (.iconst (-1), 1) := by decide +kernel
theorem dX6_staffFor_34 : decode cX6_staffFor 34 = .ok (.if_icmp .ne 7, 3) := by decide +kernel
theorem dX6_staffFor_37 : decode cX6_staffFor 37 = .ok (.iconst (-1), 1) := by decide +kernel
theorem dX6_staffFor_38 : decode cX6_staffFor 38 = .ok (.goto 12, 3) := by decide +kernel
theorem dX6_staffFor_41 : decode cX6_staffFor 41 = .ok (.aload_n 0, 1) := by decide +kernel
theorem dX6_staffFor_42 : decode cX6_staffFor 42 = .ok (.aload_n 3, 1) := by decide +kernel
theorem dX6_staffFor_43 : decode cX6_staffFor 43 = .ok (.bipush 31, 2) := by decide +kernel
theorem dX6_staffFor_45 : decode cX6_staffFor 45 = .ok (.iload 4, 2) := by decide +kernel
theorem dX6_staffFor_47 : decode cX6_staffFor 47 = .ok (.invokevirtual 218, 3) := by decide +kernel
theorem dX6_staffFor_50 : decode cX6_staffFor 50 = .ok (.ireturn, 1) := by decide +kernel
theorem dX6_inRest_0 : decode cX6_inRest 0 = .ok (.aload_n 0, 1) := by decide +kernel
theorem dX6_inRest_1 : decode cX6_inRest 1 = .ok (.iload_n 1, 1) := by decide +kernel
theorem dX6_inRest_2 : decode cX6_inRest 2 = .ok (.invokevirtual 133, 3) := by decide +kernel
theorem dX6_inRest_5 : decode cX6_inRest 5 = .ok (.aload_n 0, 1) := by decide +kernel
theorem dX6_inRest_6 : decode cX6_inRest 6 = .ok (.iload_n 2, 1) := by decide +kernel
theorem dX6_inRest_7 : decode cX6_inRest 7 = .ok (.invokevirtual 96, 3) := by decide +kernel
theorem dX6_inRest_10 : decode cX6_inRest 10 = .ok (.aload_n 0, 1) := by decide +kernel
theorem dX6_inRest_11 : decode cX6_inRest 11 = .ok (.getfield 19, 3) := by decide +kernel
theorem dX6_inRest_14 : decode cX6_inRest 14 = .ok (.iload_n 1, 1) := by decide +kernel
theorem dX6_inRest_15 : decode cX6_inRest 15 = .ok (.invokevirtual 99, 3) := by decide +kernel
theorem dX6_inRest_18 : decode cX6_inRest 18 = .ok (.checkcast 136, 3) := by decide +kernel
theorem dX6_inRest_21 : decode cX6_inRest 21 = .ok (.astore_n 3, 1) := by decide +kernel
theorem dX6_inRest_22 : decode cX6_inRest 22 = .ok (.aload_n 0, 1) := by decide +kernel
theorem dX6_inRest_23 : decode cX6_inRest 23 = .ok (.getfield 16, 3) := by decide +kernel
theorem dX6_inRest_26 : decode cX6_inRest 26 = .ok (.iload_n 2, 1) := by decide +kernel
theorem dX6_inRest_27 : decode cX6_inRest 27 = .ok (.invokevirtual 99, 3) := by decide +kernel
theorem dX6_inRest_30 : decode cX6_inRest 30 = .ok (.checkcast 87, 3) := by decide +kernel
theorem dX6_inRest_33 : decode cX6_inRest 33 = .ok (.astore 4, 2) := by decide +kernel
theorem dX6_inRest_35 : decode cX6_inRest 35 = .ok (.iconst 0, 1) := by decide +kernel
theorem dX6_inRest_36 : decode cX6_inRest 36 = .ok (.istore 5, 2) := by decide +kernel
theorem dX6_inRest_38 : decode cX6_inRest 38 = .ok (.iload 5, 2) := by decide +kernel
theorem dX6_inRest_40 : decode cX6_inRest 40 = .ok (.aload_n 3, 1) := by decide +kernel
theorem dX6_inRest_41 : decode cX6_inRest 41 = .ok (.getfield 151, 3) := by decide +kernel
theorem dX6_inRest_44 : decode cX6_inRest 44 = .ok (.getfield 103, 3) := by decide +kernel
theorem dX6_inRest_47 : decode cX6_inRest 47 = .ok (.if_icmp .ge 80, 3) := by decide +kernel
theorem dX6_inRest_50 : decode cX6_inRest 50 = .ok (.aload_n 3, 1) := by decide +kernel
theorem dX6_inRest_51 : decode cX6_inRest 51 = .ok (.getfield 151, 3) := by decide +kernel
theorem dX6_inRest_54 : decode cX6_inRest 54 = .ok (.iload 5, 2) := by decide +kernel
theorem dX6_inRest_56 : decode cX6_inRest 56 = .ok (.invokevirtual 221, 3) := by decide +kernel
theorem dX6_inRest_59 : decode cX6_inRest 59 = .ok (.ifCond .eq 62, 3) := by decide +kernel
theorem dX6_inRest_62 : decode cX6_inRest 62 = .ok (.aload_n 3, 1) := by decide +kernel
theorem dX6_inRest_63 : decode cX6_inRest 63 = .ok (.getfield 144, 3) := by decide +kernel
theorem dX6_inRest_66 : decode cX6_inRest 66 = .ok (.aload_n 3, 1) := by decide +kernel
theorem dX6_inRest_67 : decode cX6_inRest 67 = .ok (.getfield 151, 3) := by decide +kernel
theorem dX6_inRest_70 : decode cX6_inRest 70 = .ok (.iload 5, 2) := by decide +kernel
theorem dX6_inRest_72 : decode cX6_inRest 72 = .ok (.invokevirtual 224, 3) := by decide +kernel
theorem dX6_inRest_75 : decode cX6_inRest 75 = .ok (.iadd, 1) := by decide +kernel
theorem dX6_inRest_76 : decode cX6_inRest 76 = .ok (.istore 6, 2) := by decide +kernel
theorem dX6_inRest_78 : decode cX6_inRest 78 = .ok (.aload_n 3, 1) := by decide +kernel
theorem dX6_inRest_79 : decode cX6_inRest 79 = .ok (.getfield 144, 3) := by decide +kernel
theorem dX6_inRest_82 : decode cX6_inRest 82 = .ok (.aload_n 3, 1) := by decide +kernel
theorem dX6_inRest_83 : decode cX6_inRest 83 = .ok (.getfield 151, 3) := by decide +kernel
theorem dX6_inRest_86 : decode cX6_inRest 86 = .ok (.iload 5, 2) := by decide +kernel
theorem dX6_inRest_88 : decode cX6_inRest 88 = .ok (.invokevirtual 227, 3) := by decide +kernel
theorem dX6_inRest_91 : decode cX6_inRest 91 = .ok (.iadd, 1) := by decide +kernel
theorem dX6_inRest_92 : decode cX6_inRest 92 = .ok (.istore 7, 2) := by decide +kernel
theorem dX6_inRest_94 : decode cX6_inRest 94 = .ok (.aload_n 0, 1) := by decide +kernel
theorem dX6_inRest_95 : decode cX6_inRest 95 = .ok (.aload 4, 2) := by decide +kernel
theorem dX6_inRest_97 : decode cX6_inRest 97 = .ok (.iconst 1, 1) := by decide +kernel
theorem dX6_inRest_98 : decode cX6_inRest 98 = .ok (.aload_n 3, 1) := by decide +kernel
theorem dX6_inRest_99 : decode cX6_inRest 99 = .ok (.getfield 138, 3) := by decide +kernel
theorem dX6_inRest_102 : decode cX6_inRest 102 = .ok (.ishl, 1) := by decide +kernel
theorem dX6_inRest_103 : decode cX6_inRest 103 = .ok (.iload 6, 2) := by decide +kernel
theorem dX6_inRest_105 : decode cX6_inRest 105 = .ok (.iload 7, 2) := by decide +kernel
theorem dX6_inRest_107 : decode cX6_inRest 107 = .ok (.invokevirtual 214, 3) := by decide +kernel
theorem dX6_inRest_110 : decode cX6_inRest 110 = .ok (.istore 8, 2) := by decide +kernel
theorem dX6_inRest_112 : decode cX6_inRest 112 = .ok (.iload 8, 2) := by decide +kernel
theorem dX6_inRest_114 : decode cX6_inRest 114 = .ok (.iconst (-1), 1) := by decide +kernel
theorem dX6_inRest_115 : decode cX6_inRest 115 = .ok (.if_icmp .eq 6, 3) := by decide +kernel
theorem dX6_inRest_118 : decode cX6_inRest 118 = .ok (.iload 8, 2) := by decide +kernel
theorem dX6_inRest_120 : decode cX6_inRest 120 = .ok (.ireturn, 1) := by decide +kernel
theorem dX6_inRest_121 : decode cX6_inRest 121 = .ok (.iinc 5 1, 3) := by decide +kernel
theorem dX6_inRest_124 : decode cX6_inRest 124 = .ok (.goto (-86), 3) := by decide +kernel
theorem dX6_inRest_127 : decode cX6_inRest 127 = .ok (.iconst (-1), 1) := by decide +kernel
theorem dX6_inRest_128 : decode cX6_inRest 128 = .ok (.ireturn, 1) := by decide +kernel
theorem dX6_fill_0 : decode cX6_fill 0 = .ok (.iload_n 1, 1) := by decide +kernel
theorem dX6_fill_1 : decode cX6_fill 1 = .ok (.ifCond .lt 10, 3) := by decide +kernel
theorem dX6_fill_4 : decode cX6_fill 4 = .ok (.iload_n 1, 1) := by decide +kernel
theorem dX6_fill_5 : decode cX6_fill 5 = .ok (.sipush 600, 3) := by decide +kernel
theorem dX6_fill_8 : decode cX6_fill 8 = .ok (.if_icmp .le 13, 3) := by decide +kernel
theorem dX6_fill_11 : decode cX6_fill 11 = .ok (.new 39, 3) := by decide +kernel
theorem dX6_fill_14 : decode cX6_fill 14 = .ok (.dup, 1) := by decide +kernel
theorem dX6_fill_15 : decode cX6_fill 15 = .ok (.ldc 230, 2) := by decide +kernel
theorem dX6_fill_17 : decode cX6_fill 17 = .ok (.invokespecial 43, 3) := by decide +kernel
theorem dX6_fill_20 : decode cX6_fill 20 = .ok (.athrow, 1) := by decide +kernel
theorem dX6_fill_21 : decode cX6_fill 21 = .ok (.iconst 0, 1) := by decide +kernel
theorem dX6_fill_22 : decode cX6_fill 22 = .ok (.istore_n 2, 1) := by decide +kernel
theorem dX6_fill_23 : decode cX6_fill 23 = .ok (.iconst 0, 1) := by decide +kernel
theorem dX6_fill_24 : decode cX6_fill 24 = .ok (.istore_n 3, 1) := by decide +kernel
theorem dX6_fill_25 : decode cX6_fill 25 = .ok (.iconst 1, 1) := by decide +kernel
theorem dX6_fill_26 : decode cX6_fill 26 = .ok (.aload_n 0, 1) := by decide +kernel
theorem dX6_fill_27 : decode cX6_fill 27 = .ok (.getfield 16, 3) := by decide +kernel
theorem dX6_fill_30 : decode cX6_fill 30 = .ok (.invokevirtual 52, 3) := by decide +kernel
theorem dX6_fill_33 : decode cX6_fill 33 = .ok (.ishl, 1) := by decide +kernel
theorem dX6_fill_34 : decode cX6_fill 34 = .ok (.istore 4, 2) := by decide +kernel
theorem dX6_fill_36 : decode cX6_fill 36 = .ok (.iconst 1, 1) := by decide +kernel
theorem dX6_fill_37 : decode cX6_fill 37 = .ok (.istore 5, 2) := by decide +kernel
theorem dX6_fill_39 : decode cX6_fill 39 = .ok (.iload 5, 2) := by decide +kernel
theorem dX6_fill_41 : decode cX6_fill 41 = .ok (.iload 4, 2) := by decide +kernel
theorem dX6_fill_43 : decode cX6_fill 43 = .ok (.if_icmp .ge 35, 3) := by decide +kernel
theorem dX6_fill_46 : decode cX6_fill 46 = .ok (.aload_n 0, 1) := by decide +kernel
theorem dX6_fill_47 : decode cX6_fill 47 = .ok (.iload 5, 2) := by decide +kernel
theorem dX6_fill_49 : decode cX6_fill 49 = .ok (.invokevirtual 232, 3) := by decide +kernel
theorem dX6_fill_52 : decode cX6_fill 52 = .ok (.istore 6, 2) := by decide +kernel
theorem dX6_fill_54 : decode cX6_fill 54 = .ok (.iload 6, 2) := by decide +kernel
theorem dX6_fill_56 : decode cX6_fill 56 = .ok (.iload_n 1, 1) := by decide +kernel
theorem dX6_fill_57 : decode cX6_fill 57 = .ok (.if_icmp .gt 15, 3) := by decide +kernel
theorem dX6_fill_60 : decode cX6_fill 60 = .ok (.iload 6, 2) := by decide +kernel
theorem dX6_fill_62 : decode cX6_fill 62 = .ok (.iload_n 3, 1) := by decide +kernel
theorem dX6_fill_63 : decode cX6_fill 63 = .ok (.if_icmp .le 9, 3) := by decide +kernel
theorem dX6_fill_66 : decode cX6_fill 66 = .ok (.iload 5, 2) := by decide +kernel
theorem dX6_fill_68 : decode cX6_fill 68 = .ok (.istore_n 2, 1) := by decide +kernel
theorem dX6_fill_69 : decode cX6_fill 69 = .ok (.iload 6, 2) := by decide +kernel
theorem dX6_fill_71 : decode cX6_fill 71 = .ok (.istore_n 3, 1) := by decide +kernel
theorem dX6_fill_72 : decode cX6_fill 72 = .ok (.iinc 5 1, 3) := by decide +kernel
theorem dX6_fill_75 : decode cX6_fill 75 = .ok (.goto (-36), 3) := by decide +kernel
theorem dX6_fill_78 : decode cX6_fill 78 = .ok (.iload_n 2, 1) := by decide +kernel
theorem dX6_fill_79 : decode cX6_fill 79 = .ok (.ireturn, 1) := by decide +kernel
theorem dX6_peak_0 : decode cX6_peak 0 = .ok (.iconst 0, 1) := by decide +kernel
theorem dX6_peak_1 : decode cX6_peak 1 = .ok (.istore_n 1, 1) := by decide +kernel
theorem dX6_peak_2 : decode cX6_peak 2 = .ok (.iconst 0, 1) := by decide +kernel
theorem dX6_peak_3 : decode cX6_peak 3 = .ok (.istore_n 2, 1) := by decide +kernel
theorem dX6_peak_4 : decode cX6_peak 4 = .ok (.iconst 0, 1) := by decide +kernel
theorem dX6_peak_5 : decode cX6_peak 5 = .ok (.istore_n 3, 1) := by decide +kernel
theorem dX6_peak_6 : decode cX6_peak 6 = .ok (.iload_n 3, 1) := by decide +kernel
theorem dX6_peak_7 : decode cX6_peak 7 = .ok (.sipush 600, 3) := by decide +kernel
theorem dX6_peak_10 : decode cX6_peak 10 = .ok (.if_icmp .ge 27, 3) := by decide +kernel
theorem dX6_peak_13 : decode cX6_peak 13 = .ok (.aload_n 0, 1) := by decide +kernel
theorem dX6_peak_14 : decode cX6_peak 14 = .ok (.iload_n 3, 1) := by decide +kernel
theorem dX6_peak_15 : decode cX6_peak 15 = .ok (.invokevirtual 235, 3) := by decide +kernel
theorem dX6_peak_18 : decode cX6_peak 18 = .ok (.istore 4, 2) := by decide +kernel
theorem dX6_peak_20 : decode cX6_peak 20 = .ok (.iload 4, 2) := by decide +kernel
theorem dX6_peak_22 : decode cX6_peak 22 = .ok (.iload_n 2, 1) := by decide +kernel
theorem dX6_peak_23 : decode cX6_peak 23 = .ok (.if_icmp .le 8, 3) := by decide +kernel
theorem dX6_peak_26 : decode cX6_peak 26 = .ok (.iload_n 3, 1) := by decide +kernel
theorem dX6_peak_27 : decode cX6_peak 27 = .ok (.istore_n 1, 1) := by decide +kernel
theorem dX6_peak_28 : decode cX6_peak 28 = .ok (.iload 4, 2) := by decide +kernel
theorem dX6_peak_30 : decode cX6_peak 30 = .ok (.istore_n 2, 1) := by decide +kernel
theorem dX6_peak_31 : decode cX6_peak 31 = .ok (.iinc 3 1, 3) := by decide +kernel
theorem dX6_peak_34 : decode cX6_peak 34 = .ok (.goto (-28), 3) := by decide +kernel
theorem dX6_peak_37 : decode cX6_peak 37 = .ok (.iload_n 1, 1) := by decide +kernel
theorem dX6_peak_38 : decode cX6_peak 38 = .ok (.ireturn, 1) := by decide +kernel
theorem dX6_isMinute_0 : decode cX6_isMinute 0 = .ok (.iload_n 0, 1) := by decide +kernel
theorem dX6_isMinute_1 : decode cX6_isMinute 1 = .ok (.ifCond .lt 14, 3) := by decide +kernel
theorem dX6_isMinute_4 : decode cX6_isMinute 4 = .ok (.iload_n 0, 1) := by decide +kernel
theorem dX6_isMinute_5 : decode cX6_isMinute 5 = .ok (.sipush 600, 3) := by decide +kernel
theorem dX6_isMinute_8 : decode cX6_isMinute 8 = .ok (.if_icmp .ge 7, 3) := by decide +kernel
theorem dX6_isMinute_11 : decode cX6_isMinute 11 = .ok (.iconst 1, 1) := by decide +kernel
theorem dX6_isMinute_12 : decode cX6_isMinute 12 = .ok (.goto 4, 3) := by decide +kernel
theorem dX6_isMinute_15 : decode cX6_isMinute 15 = .ok (.iconst 0, 1) := by decide +kernel
theorem dX6_isMinute_16 : decode cX6_isMinute 16 = .ok (.ireturn, 1) := by decide +kernel
theorem dX6_isSkill_0 : decode cX6_isSkill 0 = .ok (.iload_n 0, 1) := by decide +kernel
theorem dX6_isSkill_1 : decode cX6_isSkill 1 = .ok (.ifCond .lt 12, 3) := by decide +kernel
theorem dX6_isSkill_4 : decode cX6_isSkill 4 = .ok (.iload_n 0, 1) := by decide +kernel
theorem dX6_isSkill_5 : decode cX6_isSkill 5 = .ok (.iconst 4, 1) := by decide +kernel
theorem dX6_isSkill_6 : decode cX6_isSkill 6 = .ok (.if_icmp .ge 7, 3) := by decide +kernel
theorem dX6_isSkill_9 : decode cX6_isSkill 9 = .ok (.iconst 1, 1) := by decide +kernel
theorem dX6_isSkill_10 : decode cX6_isSkill 10 = .ok (.goto 4, 3) := by decide +kernel
theorem dX6_isSkill_13 : decode cX6_isSkill 13 = .ok (.iconst 0, 1) := by decide +kernel
theorem dX6_isSkill_14 : decode cX6_isSkill 14 = .ok (.ireturn, 1) := by decide +kernel
theorem dX6_isChair_0 : decode cX6_isChair 0 = .ok (.iload_n 0, 1) := by decide +kernel
theorem dX6_isChair_1 : decode cX6_isChair 1 = .ok (.ifCond .lt 12, 3) := by decide +kernel
theorem dX6_isChair_4 : decode cX6_isChair 4 = .ok (.iload_n 0, 1) := by decide +kernel
theorem dX6_isChair_5 : decode cX6_isChair 5 = .ok (.iconst 4, 1) := by decide +kernel
theorem dX6_isChair_6 : decode cX6_isChair 6 = .ok (.if_icmp .ge 7, 3) := by decide +kernel
theorem dX6_isChair_9 : decode cX6_isChair 9 = .ok (.iconst 1, 1) := by decide +kernel
theorem dX6_isChair_10 : decode cX6_isChair 10 = .ok (.goto 4, 3) := by decide +kernel
theorem dX6_isChair_13 : decode cX6_isChair 13 = .ok (.iconst 0, 1) := by decide +kernel
theorem dX6_isChair_14 : decode cX6_isChair 14 = .ok (.ireturn, 1) := by decide +kernel
theorem dX6_isMember_0 : decode cX6_isMember 0 = .ok (.iload_n 1, 1) := by decide +kernel
theorem dX6_isMember_1 : decode cX6_isMember 1 = .ok (.ifCond .lt 18, 3) := by decide +kernel
theorem dX6_isMember_4 : decode cX6_isMember 4 = .ok (.iload_n 1, 1) := by decide +kernel
theorem dX6_isMember_5 : decode cX6_isMember 5 = .ok (.aload_n 0, 1) := by decide +kernel
theorem dX6_isMember_6 : decode cX6_isMember 6 = .ok (.getfield 10, 3) := by decide +kernel
theorem dX6_isMember_9 : decode cX6_isMember 9 = .ok (.invokevirtual 52, 3) := by decide +kernel
theorem dX6_isMember_12 : decode cX6_isMember 12 = .ok (.if_icmp .ge 7, 3) := by decide +kernel
theorem dX6_isMember_15 : decode cX6_isMember 15 = .ok (.iconst 1, 1) := by decide +kernel
theorem dX6_isMember_16 : decode cX6_isMember 16 = .ok (.goto 4, 3) := by decide +kernel
theorem dX6_isMember_19 : decode cX6_isMember 19 = .ok (.iconst 0, 1) := by decide +kernel
theorem dX6_isMember_20 : decode cX6_isMember 20 = .ok (.ireturn, 1) := by decide +kernel
theorem dX6_requireMinute_0 : decode cX6_requireMinute 0 = .ok (.iload_n 0, 1) := by decide +kernel
theorem dX6_requireMinute_1 : decode cX6_requireMinute 1 = .ok (.invokestatic 46, 3) := by decide +kernel
theorem dX6_requireMinute_4 : decode cX6_requireMinute 4 = .ok (.ifCond .ne 13, 3) := by decide +kernel
theorem dX6_requireMinute_7 : decode cX6_requireMinute 7 = .ok (.new 180, 3) := by decide +kernel
theorem dX6_requireMinute_10 : decode cX6_requireMinute 10 = .ok (.dup, 1) := by decide +kernel
theorem dX6_requireMinute_11 : decode cX6_requireMinute 11 = .ok (.ldc 238, 2) := by decide +kernel
theorem dX6_requireMinute_13 : decode cX6_requireMinute 13 = .ok (.invokespecial 184, 3) := by decide +kernel
theorem dX6_requireMinute_16 : decode cX6_requireMinute 16 = .ok (.athrow, 1) := by decide +kernel
theorem dX6_requireMinute_17 : decode cX6_requireMinute 17 = .ok (.return_, 1) := by decide +kernel
theorem dX6_requireStepMinutes_0 : decode cX6_requireStepMinutes 0 = .ok (.iload_n 0, 1) := by decide +kernel
theorem dX6_requireStepMinutes_1 : decode cX6_requireStepMinutes 1 = .ok (.iconst 1, 1) := by decide +kernel
theorem dX6_requireStepMinutes_2 : decode cX6_requireStepMinutes 2 = .ok (.if_icmp .lt 10, 3) := by decide +kernel
theorem dX6_requireStepMinutes_5 : decode cX6_requireStepMinutes 5 = .ok (.iload_n 0, 1) := by decide +kernel
theorem dX6_requireStepMinutes_6 : decode cX6_requireStepMinutes 6 = .ok (.sipush 200, 3) := by decide +kernel
theorem dX6_requireStepMinutes_9 : decode cX6_requireStepMinutes 9 = .ok (.if_icmp .le 13, 3) := by decide +kernel
theorem dX6_requireStepMinutes_12 : decode cX6_requireStepMinutes 12 = .ok (.new 39, 3) := by decide +kernel
theorem dX6_requireStepMinutes_15 : decode cX6_requireStepMinutes 15 = .ok (.dup, 1) := by decide +kernel
theorem dX6_requireStepMinutes_16 : decode cX6_requireStepMinutes 16 = .ok (.ldc 230, 2) := by decide +kernel
theorem dX6_requireStepMinutes_18 : decode cX6_requireStepMinutes 18 = .ok (.invokespecial 43, 3) := by decide +kernel
theorem dX6_requireStepMinutes_21 : decode cX6_requireStepMinutes 21 = .ok (.athrow, 1) := by decide +kernel
theorem dX6_requireStepMinutes_22 : decode cX6_requireStepMinutes 22 = .ok (.return_, 1) := by decide +kernel
theorem dX6_requireService_0 : decode cX6_requireService 0 = .ok (.iload_n 1, 1) := by decide +kernel
theorem dX6_requireService_1 : decode cX6_requireService 1 = .ok (.ifCond .lt 14, 3) := by decide +kernel
theorem dX6_requireService_4 : decode cX6_requireService 4 = .ok (.iload_n 1, 1) := by decide +kernel
theorem dX6_requireService_5 : decode cX6_requireService 5 = .ok (.aload_n 0, 1) := by decide +kernel
theorem dX6_requireService_6 : decode cX6_requireService 6 = .ok (.getfield 16, 3) := by decide +kernel
theorem dX6_requireService_9 : decode cX6_requireService 9 = .ok (.invokevirtual 52, 3) := by decide +kernel
theorem dX6_requireService_12 : decode cX6_requireService 12 = .ok (.if_icmp .lt 13, 3) := by decide +kernel
theorem dX6_requireService_15 : decode cX6_requireService 15 = .ok (.new 180, 3) := by decide +kernel
theorem dX6_requireService_18 : decode cX6_requireService 18 = .ok (.dup, 1) := by decide +kernel
theorem dX6_requireService_19 : decode cX6_requireService 19 = .ok (.ldc 240, 2) := by decide +kernel
theorem dX6_requireService_21 : decode cX6_requireService 21 = .ok (.invokespecial 184, 3) := by decide +kernel
theorem dX6_requireService_24 : decode cX6_requireService 24 = .ok (.athrow, 1) := by decide +kernel
theorem dX6_requireService_25 : decode cX6_requireService 25 = .ok (.return_, 1) := by decide +kernel
theorem dX6_requireMember_0 : decode cX6_requireMember 0 = .ok (.aload_n 0, 1) := by decide +kernel
theorem dX6_requireMember_1 : decode cX6_requireMember 1 = .ok (.iload_n 1, 1) := by decide +kernel
theorem dX6_requireMember_2 : decode cX6_requireMember 2 = .ok (.invokevirtual 242, 3) := by decide +kernel
theorem dX6_requireMember_5 : decode cX6_requireMember 5 = .ok (.ifCond .ne 13, 3) := by decide +kernel
theorem dX6_requireMember_8 : decode cX6_requireMember 8 = .ok (.new 180, 3) := by decide +kernel
theorem dX6_requireMember_11 : decode cX6_requireMember 11 = .ok (.dup, 1) := by decide +kernel
theorem dX6_requireMember_12 : decode cX6_requireMember 12 = .ok (.ldc 245, 2) := by decide +kernel
theorem dX6_requireMember_14 : decode cX6_requireMember 14 = .ok (.invokespecial 184, 3) := by decide +kernel
theorem dX6_requireMember_17 : decode cX6_requireMember 17 = .ok (.athrow, 1) := by decide +kernel
theorem dX6_requireMember_18 : decode cX6_requireMember 18 = .ok (.return_, 1) := by decide +kernel
theorem dX6_requireVisit_0 : decode cX6_requireVisit 0 = .ok (.iload_n 1, 1) := by decide +kernel
theorem dX6_requireVisit_1 : decode cX6_requireVisit 1 = .ok (.ifCond .lt 14, 3) := by decide +kernel
theorem dX6_requireVisit_4 : decode cX6_requireVisit 4 = .ok (.iload_n 1, 1) := by decide +kernel
theorem dX6_requireVisit_5 : decode cX6_requireVisit 5 = .ok (.aload_n 0, 1) := by decide +kernel
theorem dX6_requireVisit_6 : decode cX6_requireVisit 6 = .ok (.getfield 19, 3) := by decide +kernel
theorem dX6_requireVisit_9 : decode cX6_requireVisit 9 = .ok (.invokevirtual 52, 3) := by decide +kernel
theorem dX6_requireVisit_12 : decode cX6_requireVisit 12 = .ok (.if_icmp .lt 13, 3) := by decide +kernel
theorem dX6_requireVisit_15 : decode cX6_requireVisit 15 = .ok (.new 180, 3) := by decide +kernel
theorem dX6_requireVisit_18 : decode cX6_requireVisit 18 = .ok (.dup, 1) := by decide +kernel
theorem dX6_requireVisit_19 : decode cX6_requireVisit 19 = .ok (.ldc 247, 2) := by decide +kernel
theorem dX6_requireVisit_21 : decode cX6_requireVisit 21 = .ok (.invokespecial 184, 3) := by decide +kernel
theorem dX6_requireVisit_24 : decode cX6_requireVisit 24 = .ok (.athrow, 1) := by decide +kernel
theorem dX6_requireVisit_25 : decode cX6_requireVisit 25 = .ok (.return_, 1) := by decide +kernel
theorem dX6_requireUndropped_0 : decode cX6_requireUndropped 0 = .ok (.aload_n 0, 1) := by decide +kernel
theorem dX6_requireUndropped_1 : decode cX6_requireUndropped 1 = .ok (.iload_n 1, 1) := by decide +kernel
theorem dX6_requireUndropped_2 : decode cX6_requireUndropped 2 = .ok (.invokevirtual 195, 3) := by decide +kernel
theorem dX6_requireUndropped_5 : decode cX6_requireUndropped 5 = .ok (.aload_n 0, 1) := by decide +kernel
theorem dX6_requireUndropped_6 : decode cX6_requireUndropped 6 = .ok (.getfield 19, 3) := by decide +kernel
theorem dX6_requireUndropped_9 : decode cX6_requireUndropped 9 = .ok (.iload_n 1, 1) := by decide +kernel
theorem dX6_requireUndropped_10 : decode cX6_requireUndropped 10 = .ok (.invokevirtual 99, 3) := by decide +kernel
theorem dX6_requireUndropped_13 : decode cX6_requireUndropped 13 = .ok (.checkcast 136, 3) := by decide +kernel
theorem dX6_requireUndropped_16 : decode cX6_requireUndropped 16 = .ok (.invokevirtual 249, 3) := by decide +kernel
theorem dX6_requireUndropped_19 : decode cX6_requireUndropped 19 = .ok (.ifCond .eq 13, 3) := by decide +kernel
theorem dX6_requireUndropped_22 : decode cX6_requireUndropped 22 = .ok (.new 180, 3) := by decide +kernel
theorem dX6_requireUndropped_25 : decode cX6_requireUndropped 25 = .ok (.dup, 1) := by decide +kernel
theorem dX6_requireUndropped_26 : decode cX6_requireUndropped 26 = .ok (.ldc 253, 2) := by decide +kernel
theorem dX6_requireUndropped_28 : decode cX6_requireUndropped 28 = .ok (.invokespecial 184, 3) := by decide +kernel
theorem dX6_requireUndropped_31 : decode cX6_requireUndropped 31 = .ok (.athrow, 1) := by decide +kernel
theorem dX6_requireUndropped_32 : decode cX6_requireUndropped 32 = .ok (.return_, 1) := by decide +kernel
theorem dX6_requireRoomForService_0 : decode cX6_requireRoomForService 0 = .ok (.aload_n 0, 1) := by decide +kernel
theorem dX6_requireRoomForService_1 : decode cX6_requireRoomForService 1 = .ok (.getfield 16, 3) := by decide +kernel
theorem dX6_requireRoomForService_4 : decode cX6_requireRoomForService 4 = .ok (.invokevirtual 52, 3) := by decide +kernel
theorem dX6_requireRoomForService_7 : decode cX6_requireRoomForService 7 = .ok (.bipush 8, 2) := by decide +kernel
theorem dX6_requireRoomForService_9 : decode cX6_requireRoomForService 9 = .ok (.if_icmp .lt 13, 3) := by decide +kernel
theorem dX6_requireRoomForService_12 : decode cX6_requireRoomForService 12 = .ok (.new 56, 3) := by decide +kernel
theorem dX6_requireRoomForService_15 : decode cX6_requireRoomForService 15 = .ok (.dup, 1) := by decide +kernel
theorem dX6_requireRoomForService_16 : decode cX6_requireRoomForService 16 = .ok (.ldc 255, 2) := by decide +kernel
theorem dX6_requireRoomForService_18 : decode cX6_requireRoomForService 18 = .ok (.invokespecial 60, 3) := by decide +kernel
theorem dX6_requireRoomForService_21 : decode cX6_requireRoomForService 21 = .ok (.athrow, 1) := by decide +kernel
theorem dX6_requireRoomForService_22 : decode cX6_requireRoomForService 22 = .ok (.return_, 1) := by decide +kernel
theorem dX6_requireRoomForVisit_0 : decode cX6_requireRoomForVisit 0 = .ok (.aload_n 0, 1) := by decide +kernel
theorem dX6_requireRoomForVisit_1 : decode cX6_requireRoomForVisit 1 = .ok (.getfield 19, 3) := by decide +kernel
theorem dX6_requireRoomForVisit_4 : decode cX6_requireRoomForVisit 4 = .ok (.invokevirtual 52, 3) := by decide +kernel
theorem dX6_requireRoomForVisit_7 : decode cX6_requireRoomForVisit 7 = .ok (.bipush 30, 2) := by decide +kernel
theorem dX6_requireRoomForVisit_9 : decode cX6_requireRoomForVisit 9 = .ok (.if_icmp .lt 14, 3) := by decide +kernel
theorem dX6_requireRoomForVisit_12 : decode cX6_requireRoomForVisit 12 = .ok (.new 56, 3) := by decide +kernel
theorem dX6_requireRoomForVisit_15 : decode cX6_requireRoomForVisit 15 = .ok (.dup, 1) := by decide +kernel
theorem dX6_requireRoomForVisit_16 : decode cX6_requireRoomForVisit 16 = .ok (.ldc_w 257, 3) := by decide +kernel
theorem dX6_requireRoomForVisit_19 : decode cX6_requireRoomForVisit 19 = .ok (.invokespecial 60, 3) := by decide +kernel
theorem dX6_requireRoomForVisit_22 : decode cX6_requireRoomForVisit 22 = .ok (.athrow, 1) := by decide +kernel
theorem dX6_requireRoomForVisit_23 : decode cX6_requireRoomForVisit 23 = .ok (.return_, 1) := by decide +kernel
theorem dX6_newService_0 : decode cX6_newService 0 = .ok (.new 87, 3) := by decide +kernel
theorem dX6_newService_3 : decode cX6_newService 3 = .ok (.dup, 1) := by decide +kernel
theorem dX6_newService_4 : decode cX6_newService 4 = .ok (.aload_n 0, 1) := by decide +kernel
theorem dX6_newService_5 : decode cX6_newService 5 = .ok (.getfield 16, 3) := by decide +kernel
theorem dX6_newService_8 : decode cX6_newService 8 = .ok (.invokevirtual 52, 3) := by decide +kernel
theorem dX6_newService_11 : decode cX6_newService 11 = .ok (.invokespecial 259, 3) := by decide +kernel
theorem dX6_newService_14 : decode cX6_newService 14 = .ok (.astore_n 1, 1) := by decide +kernel
theorem dX6_newService_15 : decode cX6_newService 15 = .ok (.aload_n 0, 1) := by decide +kernel
theorem dX6_newService_16 : decode cX6_newService 16 = .ok (.getfield 16, 3) := by decide +kernel
theorem dX6_newService_19 : decode cX6_newService 19 = .ok (.aload_n 1, 1) := by decide +kernel
theorem dX6_newService_20 : decode cX6_newService 20 = .ok (.invokevirtual 66, 3) := by decide +kernel
theorem dX6_newService_23 : decode cX6_newService 23 = .ok (.pop, 1) := by decide +kernel
theorem dX6_newService_24 : decode cX6_newService 24 = .ok (.aload_n 1, 1) := by decide +kernel
theorem dX6_newService_25 : decode cX6_newService 25 = .ok (.areturn, 1) := by decide +kernel
theorem dX6_appendUsualSteps_0 : decode cX6_appendUsualSteps 0 = .ok (.iload_n 1, 1) := by decide +kernel
theorem dX6_appendUsualSteps_1 : decode cX6_appendUsualSteps 1 = .ok (.tableswitch 99 0 2 #[27, 44, 75], 27) := by decide +kernel
theorem dX6_appendUsualSteps_28 : decode cX6_appendUsualSteps 28 = .ok (.aload_n 0, 1) := by decide +kernel
theorem dX6_appendUsualSteps_29 : decode cX6_appendUsualSteps 29 = .ok (.iconst 0, 1) := by decide +kernel
theorem dX6_appendUsualSteps_30 : decode cX6_appendUsualSteps 30 = .ok (.bipush 10, 2) := by decide +kernel
theorem dX6_appendUsualSteps_32 : decode cX6_appendUsualSteps 32 = .ok (.invokevirtual 86, 3) := by decide +kernel
theorem dX6_appendUsualSteps_35 : decode cX6_appendUsualSteps 35 = .ok (.aload_n 0, 1) := by decide +kernel
theorem dX6_appendUsualSteps_36 : decode cX6_appendUsualSteps 36 = .ok (.iconst 1, 1) := by decide +kernel
theorem dX6_appendUsualSteps_37 : decode cX6_appendUsualSteps 37 = .ok (.bipush 30, 2) := by decide +kernel
theorem dX6_appendUsualSteps_39 : decode cX6_appendUsualSteps 39 = .ok (.invokevirtual 86, 3) := by decide +kernel
theorem dX6_appendUsualSteps_42 : decode cX6_appendUsualSteps 42 = .ok (.goto 65, 3) := by decide +kernel
theorem dX6_appendUsualSteps_45 : decode cX6_appendUsualSteps 45 = .ok (.aload_n 0, 1) := by decide +kernel
theorem dX6_appendUsualSteps_46 : decode cX6_appendUsualSteps 46 = .ok (.iconst 2, 1) := by decide +kernel
theorem dX6_appendUsualSteps_47 : decode cX6_appendUsualSteps 47 = .ok (.bipush 40, 2) := by decide +kernel
theorem dX6_appendUsualSteps_49 : decode cX6_appendUsualSteps 49 = .ok (.invokevirtual 86, 3) := by decide +kernel
theorem dX6_appendUsualSteps_52 : decode cX6_appendUsualSteps 52 = .ok (.aload_n 0, 1) := by decide +kernel
theorem dX6_appendUsualSteps_53 : decode cX6_appendUsualSteps 53 = .ok (.iconst (-1), 1) := by decide +kernel
theorem dX6_appendUsualSteps_54 : decode cX6_appendUsualSteps 54 = .ok (.bipush 35, 2) := by decide +kernel
theorem dX6_appendUsualSteps_56 : decode cX6_appendUsualSteps 56 = .ok (.invokevirtual 86, 3) := by decide +kernel
theorem dX6_appendUsualSteps_59 : decode cX6_appendUsualSteps 59 = .ok (.aload_n 0, 1) := by decide +kernel
theorem dX6_appendUsualSteps_60 : decode cX6_appendUsualSteps 60 = .ok (.iconst 0, 1) := by decide +kernel
theorem dX6_appendUsualSteps_61 : decode cX6_appendUsualSteps 61 = .ok (.bipush 10, 2) := by decide +kernel
theorem dX6_appendUsualSteps_63 : decode cX6_appendUsualSteps 63 = .ok (.invokevirtual 86, 3) := by decide +kernel
theorem dX6_appendUsualSteps_66 : decode cX6_appendUsualSteps 66 = .ok (.aload_n 0, 1) := by decide +kernel
theorem dX6_appendUsualSteps_67 : decode cX6_appendUsualSteps 67 = .ok (.iconst 1, 1) := by decide +kernel
theorem dX6_appendUsualSteps_68 : decode cX6_appendUsualSteps 68 = .ok (.bipush 30, 2) := by decide +kernel
theorem dX6_appendUsualSteps_70 : decode cX6_appendUsualSteps 70 = .ok (.invokevirtual 86, 3) := by decide +kernel
theorem dX6_appendUsualSteps_73 : decode cX6_appendUsualSteps 73 = .ok (.goto 34, 3) := by decide +kernel
theorem dX6_appendUsualSteps_76 : decode cX6_appendUsualSteps 76 = .ok (.aload_n 0, 1) := by decide +kernel
theorem dX6_appendUsualSteps_77 : decode cX6_appendUsualSteps 77 = .ok (.iconst 3, 1) := by decide +kernel
theorem dX6_appendUsualSteps_78 : decode cX6_appendUsualSteps 78 = .ok (.bipush 15, 2) := by decide +kernel
theorem dX6_appendUsualSteps_80 : decode cX6_appendUsualSteps 80 = .ok (.invokevirtual 86, 3) := by decide +kernel
theorem dX6_appendUsualSteps_83 : decode cX6_appendUsualSteps 83 = .ok (.aload_n 0, 1) := by decide +kernel
theorem dX6_appendUsualSteps_84 : decode cX6_appendUsualSteps 84 = .ok (.iconst (-1), 1) := by decide +kernel
theorem dX6_appendUsualSteps_85 : decode cX6_appendUsualSteps 85 = .ok (.bipush 20, 2) := by decide +kernel
theorem dX6_appendUsualSteps_87 : decode cX6_appendUsualSteps 87 = .ok (.invokevirtual 86, 3) := by decide +kernel
theorem dX6_appendUsualSteps_90 : decode cX6_appendUsualSteps 90 = .ok (.aload_n 0, 1) := by decide +kernel
theorem dX6_appendUsualSteps_91 : decode cX6_appendUsualSteps 91 = .ok (.iconst 0, 1) := by decide +kernel
theorem dX6_appendUsualSteps_92 : decode cX6_appendUsualSteps 92 = .ok (.bipush 10, 2) := by decide +kernel
theorem dX6_appendUsualSteps_94 : decode cX6_appendUsualSteps 94 = .ok (.invokevirtual 86, 3) := by decide +kernel
theorem dX6_appendUsualSteps_97 : decode cX6_appendUsualSteps 97 = .ok (.goto 10, 3) := by decide +kernel
theorem dX6_appendUsualSteps_100 : decode cX6_appendUsualSteps 100 = .ok (.aload_n 0, 1) := by decide +kernel
theorem dX6_appendUsualSteps_101 : decode cX6_appendUsualSteps 101 = .ok (.iconst 1, 1) := by decide +kernel
theorem dX6_appendUsualSteps_102 : decode cX6_appendUsualSteps 102 = .ok (.bipush 20, 2) := by decide +kernel
theorem dX6_appendUsualSteps_104 : decode cX6_appendUsualSteps 104 = .ok (.invokevirtual 86, 3) := by decide +kernel
theorem dX6_appendUsualSteps_107 : decode cX6_appendUsualSteps 107 = .ok (.return_, 1) := by decide +kernel
theorem dX6_lengthOfAll_0 : decode cX6_lengthOfAll 0 = .ok (.iconst 0, 1) := by decide +kernel
theorem dX6_lengthOfAll_1 : decode cX6_lengthOfAll 1 = .ok (.istore_n 2, 1) := by decide +kernel
theorem dX6_lengthOfAll_2 : decode cX6_lengthOfAll 2 = .ok (.iconst 0, 1) := by decide +kernel
theorem dX6_lengthOfAll_3 : decode cX6_lengthOfAll 3 = .ok (.istore_n 3, 1) := by decide +kernel
theorem dX6_lengthOfAll_4 : decode cX6_lengthOfAll 4 = .ok (.iload_n 3, 1) := by decide +kernel
theorem dX6_lengthOfAll_5 : decode cX6_lengthOfAll 5 = .ok (.aload_n 0, 1) := by decide +kernel
theorem dX6_lengthOfAll_6 : decode cX6_lengthOfAll 6 = .ok (.getfield 16, 3) := by decide +kernel
theorem dX6_lengthOfAll_9 : decode cX6_lengthOfAll 9 = .ok (.invokevirtual 52, 3) := by decide +kernel
theorem dX6_lengthOfAll_12 : decode cX6_lengthOfAll 12 = .ok (.if_icmp .ge 35, 3) := by decide +kernel
theorem dX6_lengthOfAll_15 : decode cX6_lengthOfAll 15 = .ok (.iload_n 1, 1) := by decide +kernel
theorem dX6_lengthOfAll_16 : decode cX6_lengthOfAll 16 = .ok (.iload_n 3, 1) := by decide +kernel
theorem dX6_lengthOfAll_17 : decode cX6_lengthOfAll 17 = .ok (.ishr, 1) := by decide +kernel
theorem dX6_lengthOfAll_18 : decode cX6_lengthOfAll 18 = .ok (.iconst 1, 1) := by decide +kernel
theorem dX6_lengthOfAll_19 : decode cX6_lengthOfAll 19 = .ok (.iand, 1) := by decide +kernel
theorem dX6_lengthOfAll_20 : decode cX6_lengthOfAll 20 = .ok (.iconst 1, 1) := by decide +kernel
theorem dX6_lengthOfAll_21 : decode cX6_lengthOfAll 21 = .ok (.if_icmp .ne 20, 3) := by decide +kernel
theorem dX6_lengthOfAll_24 : decode cX6_lengthOfAll 24 = .ok (.iload_n 2, 1) := by decide +kernel
theorem dX6_lengthOfAll_25 : decode cX6_lengthOfAll 25 = .ok (.aload_n 0, 1) := by decide +kernel
theorem dX6_lengthOfAll_26 : decode cX6_lengthOfAll 26 = .ok (.getfield 16, 3) := by decide +kernel
theorem dX6_lengthOfAll_29 : decode cX6_lengthOfAll 29 = .ok (.iload_n 3, 1) := by decide +kernel
theorem dX6_lengthOfAll_30 : decode cX6_lengthOfAll 30 = .ok (.invokevirtual 99, 3) := by decide +kernel
theorem dX6_lengthOfAll_33 : decode cX6_lengthOfAll 33 = .ok (.checkcast 87, 3) := by decide +kernel
theorem dX6_lengthOfAll_36 : decode cX6_lengthOfAll 36 = .ok (.getfield 186, 3) := by decide +kernel
theorem dX6_lengthOfAll_39 : decode cX6_lengthOfAll 39 = .ok (.iadd, 1) := by decide +kernel
theorem dX6_lengthOfAll_40 : decode cX6_lengthOfAll 40 = .ok (.istore_n 2, 1) := by decide +kernel
theorem dX6_lengthOfAll_41 : decode cX6_lengthOfAll 41 = .ok (.iinc 3 1, 3) := by decide +kernel
theorem dX6_lengthOfAll_44 : decode cX6_lengthOfAll 44 = .ok (.goto (-40), 3) := by decide +kernel
theorem dX6_lengthOfAll_47 : decode cX6_lengthOfAll 47 = .ok (.iload_n 2, 1) := by decide +kernel
theorem dX6_lengthOfAll_48 : decode cX6_lengthOfAll 48 = .ok (.ireturn, 1) := by decide +kernel
theorem dX6_bookFirst_0 : decode cX6_bookFirst 0 = .ok (.aload_n 0, 1) := by decide +kernel
theorem dX6_bookFirst_1 : decode cX6_bookFirst 1 = .ok (.aload_n 1, 1) := by decide +kernel
theorem dX6_bookFirst_2 : decode cX6_bookFirst 2 = .ok (.iload_n 2, 1) := by decide +kernel
theorem dX6_bookFirst_3 : decode cX6_bookFirst 3 = .ok (.iload_n 3, 1) := by decide +kernel
theorem dX6_bookFirst_4 : decode cX6_bookFirst 4 = .ok (.invokevirtual 155, 3) := by decide +kernel
theorem dX6_bookFirst_7 : decode cX6_bookFirst 7 = .ok (.istore 4, 2) := by decide +kernel
theorem dX6_bookFirst_9 : decode cX6_bookFirst 9 = .ok (.iload 4, 2) := by decide +kernel
theorem dX6_bookFirst_11 : decode cX6_bookFirst 11 = .ok (.iconst (-1), 1) := by decide +kernel
theorem dX6_bookFirst_12 : decode cX6_bookFirst 12 = .ok (.if_icmp .ne 14, 3) := by decide +kernel
theorem dX6_bookFirst_15 : decode cX6_bookFirst 15 = .ok (.new 162, 3) := by decide +kernel
theorem dX6_bookFirst_18 : decode cX6_bookFirst 18 = .ok (.dup, 1) := by decide +kernel
theorem dX6_bookFirst_19 : decode cX6_bookFirst 19 = .ok (.ldc_w 261, 3) := by decide +kernel
theorem dX6_bookFirst_22 : decode cX6_bookFirst 22 = .ok (.invokespecial 166, 3) := by decide +kernel
theorem dX6_bookFirst_25 : decode cX6_bookFirst 25 = .ok (.athrow, 1) := by decide +kernel
theorem dX6_bookFirst_26 : decode cX6_bookFirst 26 = .ok (.aload_n 0, 1) := by decide +kernel
theorem dX6_bookFirst_27 : decode cX6_bookFirst 27 = .ok (.aload_n 1, 1) := by decide +kernel
theorem dX6_bookFirst_28 : decode cX6_bookFirst 28 = .ok (.iload_n 2, 1) := by decide +kernel
theorem dX6_bookFirst_29 : decode cX6_bookFirst 29 = .ok (.iload 4, 2) := by decide +kernel
theorem dX6_bookFirst_31 : decode cX6_bookFirst 31 = .ok (.invokevirtual 263, 3) := by decide +kernel
theorem dX6_bookFirst_34 : decode cX6_bookFirst 34 = .ok (.ireturn, 1) := by decide +kernel
theorem dX6_bookAt_0 : decode cX6_bookAt 0 = .ok (.new 136, 3) := by decide +kernel
theorem dX6_bookAt_3 : decode cX6_bookAt 3 = .ok (.dup, 1) := by decide +kernel
theorem dX6_bookAt_4 : decode cX6_bookAt 4 = .ok (.aload_n 0, 1) := by decide +kernel
theorem dX6_bookAt_5 : decode cX6_bookAt 5 = .ok (.getfield 19, 3) := by decide +kernel
theorem dX6_bookAt_8 : decode cX6_bookAt 8 = .ok (.invokevirtual 52, 3) := by decide +kernel
theorem dX6_bookAt_11 : decode cX6_bookAt 11 = .ok (.aload_n 1, 1) := by decide +kernel
theorem dX6_bookAt_12 : decode cX6_bookAt 12 = .ok (.invokespecial 266, 3) := by decide +kernel
theorem dX6_bookAt_15 : decode cX6_bookAt 15 = .ok (.astore 4, 2) := by decide +kernel
theorem dX6_bookAt_17 : decode cX6_bookAt 17 = .ok (.aload_n 0, 1) := by decide +kernel
theorem dX6_bookAt_18 : decode cX6_bookAt 18 = .ok (.getfield 19, 3) := by decide +kernel
theorem dX6_bookAt_21 : decode cX6_bookAt 21 = .ok (.aload 4, 2) := by decide +kernel
theorem dX6_bookAt_23 : decode cX6_bookAt 23 = .ok (.invokevirtual 66, 3) := by decide +kernel
theorem dX6_bookAt_26 : decode cX6_bookAt 26 = .ok (.pop, 1) := by decide +kernel
theorem dX6_bookAt_27 : decode cX6_bookAt 27 = .ok (.aload_n 1, 1) := by decide +kernel
theorem dX6_bookAt_28 : decode cX6_bookAt 28 = .ok (.iconst 1, 1) := by decide +kernel
theorem dX6_bookAt_29 : decode cX6_bookAt 29 = .ok (.putfield 108, 3) := by decide +kernel
theorem dX6_bookAt_32 : decode cX6_bookAt 32 = .ok (.aload_n 0, 1) := by decide +kernel
theorem dX6_bookAt_33 : decode cX6_bookAt 33 = .ok (.aload 4, 2) := by decide +kernel
theorem dX6_bookAt_35 : decode cX6_bookAt 35 = .ok (.iload_n 2, 1) := by decide +kernel
theorem dX6_bookAt_36 : decode cX6_bookAt 36 = .ok (.iload_n 3, 1) := by decide +kernel
theorem dX6_bookAt_37 : decode cX6_bookAt 37 = .ok (.invokevirtual 167, 3) := by decide +kernel
theorem dX6_bookAt_40 : decode cX6_bookAt 40 = .ok (.aload 4, 2) := by decide +kernel
theorem dX6_bookAt_42 : decode cX6_bookAt 42 = .ok (.getfield 269, 3) := by decide +kernel
theorem dX6_bookAt_45 : decode cX6_bookAt 45 = .ok (.ireturn, 1) := by decide +kernel
theorem dX6_putAt_0 : decode cX6_putAt 0 = .ok (.aload_n 0, 1) := by decide +kernel
theorem dX6_putAt_1 : decode cX6_putAt 1 = .ok (.aload_n 1, 1) := by decide +kernel
theorem dX6_putAt_2 : decode cX6_putAt 2 = .ok (.getfield 151, 3) := by decide +kernel
theorem dX6_putAt_5 : decode cX6_putAt 5 = .ok (.iload_n 2, 1) := by decide +kernel
theorem dX6_putAt_6 : decode cX6_putAt 6 = .ok (.iload_n 3, 1) := by decide +kernel
theorem dX6_putAt_7 : decode cX6_putAt 7 = .ok (.invokevirtual 218, 3) := by decide +kernel
theorem dX6_putAt_10 : decode cX6_putAt 10 = .ok (.istore 4, 2) := by decide +kernel
theorem dX6_putAt_12 : decode cX6_putAt 12 = .ok (.aload_n 0, 1) := by decide +kernel
theorem dX6_putAt_13 : decode cX6_putAt 13 = .ok (.aload_n 1, 1) := by decide +kernel
theorem dX6_putAt_14 : decode cX6_putAt 14 = .ok (.getfield 151, 3) := by decide +kernel
theorem dX6_putAt_17 : decode cX6_putAt 17 = .ok (.iload_n 3, 1) := by decide +kernel
theorem dX6_putAt_18 : decode cX6_putAt 18 = .ok (.invokevirtual 270, 3) := by decide +kernel
theorem dX6_putAt_21 : decode cX6_putAt 21 = .ok (.istore 5, 2) := by decide +kernel
theorem dX6_putAt_23 : decode cX6_putAt 23 = .ok (.aload_n 0, 1) := by decide +kernel
theorem dX6_putAt_24 : decode cX6_putAt 24 = .ok (.aload_n 1, 1) := by decide +kernel
theorem dX6_putAt_25 : decode cX6_putAt 25 = .ok (.iload 4, 2) := by decide +kernel
theorem dX6_putAt_27 : decode cX6_putAt 27 = .ok (.iload 5, 2) := by decide +kernel
theorem dX6_putAt_29 : decode cX6_putAt 29 = .ok (.iload_n 3, 1) := by decide +kernel
theorem dX6_putAt_30 : decode cX6_putAt 30 = .ok (.invokevirtual 158, 3) := by decide +kernel
theorem dX6_putAt_33 : decode cX6_putAt 33 = .ok (.return_, 1) := by decide +kernel
theorem dX6_put_0 : decode cX6_put 0 = .ok (.aload_n 1, 1) := by decide +kernel
theorem dX6_put_1 : decode cX6_put 1 = .ok (.iload_n 2, 1) := by decide +kernel
theorem dX6_put_2 : decode cX6_put 2 = .ok (.putfield 138, 3) := by decide +kernel
theorem dX6_put_5 : decode cX6_put 5 = .ok (.aload_n 1, 1) := by decide +kernel
theorem dX6_put_6 : decode cX6_put 6 = .ok (.iload_n 3, 1) := by decide +kernel
theorem dX6_put_7 : decode cX6_put 7 = .ok (.putfield 141, 3) := by decide +kernel
theorem dX6_put_10 : decode cX6_put 10 = .ok (.aload_n 1, 1) := by decide +kernel
theorem dX6_put_11 : decode cX6_put 11 = .ok (.iload 4, 2) := by decide +kernel
theorem dX6_put_13 : decode cX6_put 13 = .ok (.putfield 144, 3) := by decide +kernel
theorem dX6_put_16 : decode cX6_put 16 = .ok (.aload_n 0, 1) := by decide +kernel
theorem dX6_put_17 : decode cX6_put 17 = .ok (.aload_n 1, 1) := by decide +kernel
theorem dX6_put_18 : decode cX6_put 18 = .ok (.aload_n 1, 1) := by decide +kernel
theorem dX6_put_19 : decode cX6_put 19 = .ok (.getfield 269, 3) := by decide +kernel
theorem dX6_put_22 : decode cX6_put 22 = .ok (.invokevirtual 274, 3) := by decide +kernel
theorem dX6_put_25 : decode cX6_put 25 = .ok (.return_, 1) := by decide +kernel
theorem dX6_takeOut_0 : decode cX6_takeOut 0 = .ok (.aload_n 0, 1) := by decide +kernel
theorem dX6_takeOut_1 : decode cX6_takeOut 1 = .ok (.aload_n 1, 1) := by decide +kernel
theorem dX6_takeOut_2 : decode cX6_takeOut 2 = .ok (.iconst (-1), 1) := by decide +kernel
theorem dX6_takeOut_3 : decode cX6_takeOut 3 = .ok (.invokevirtual 274, 3) := by decide +kernel
theorem dX6_takeOut_6 : decode cX6_takeOut 6 = .ok (.aload_n 1, 1) := by decide +kernel
theorem dX6_takeOut_7 : decode cX6_takeOut 7 = .ok (.iconst (-1), 1) := by decide +kernel
theorem dX6_takeOut_8 : decode cX6_takeOut 8 = .ok (.putfield 138, 3) := by decide +kernel
theorem dX6_takeOut_11 : decode cX6_takeOut 11 = .ok (.aload_n 1, 1) := by decide +kernel
theorem dX6_takeOut_12 : decode cX6_takeOut 12 = .ok (.iconst (-1), 1) := by decide +kernel
theorem dX6_takeOut_13 : decode cX6_takeOut 13 = .ok (.putfield 141, 3) := by decide +kernel
theorem dX6_takeOut_16 : decode cX6_takeOut 16 = .ok (.aload_n 1, 1) := by decide +kernel
theorem dX6_takeOut_17 : decode cX6_takeOut 17 = .ok (.iconst (-1), 1) := by decide +kernel
theorem dX6_takeOut_18 : decode cX6_takeOut 18 = .ok (.putfield 144, 3) := by decide +kernel
theorem dX6_takeOut_21 : decode cX6_takeOut 21 = .ok (.return_, 1) := by decide +kernel
theorem dX6_write_0 : decode cX6_write 0 = .ok (.aload_n 0, 1) := by decide +kernel
theorem dX6_write_1 : decode cX6_write 1 = .ok (.aload_n 1, 1) := by decide +kernel
theorem dX6_write_2 : decode cX6_write 2 = .ok (.getfield 138, 3) := by decide +kernel
theorem dX6_write_5 : decode cX6_write 5 = .ok (.invokevirtual 242, 3) := by decide +kernel
theorem dX6_write_8 : decode cX6_write 8 = .ok (.ifCond .eq 13, 3) := by decide +kernel
theorem dX6_write_11 : decode cX6_write 11 = .ok (.aload_n 1, 1) := by decide +kernel
theorem dX6_write_12 : decode cX6_write 12 = .ok (.getfield 141, 3) := by decide +kernel
theorem dX6_write_15 : decode cX6_write 15 = .ok (.invokestatic 209, 3) := by decide +kernel
theorem dX6_write_18 : decode cX6_write 18 = .ok (.ifCond .ne 4, 3) := by decide +kernel
theorem dX6_write_21 : decode cX6_write 21 = .ok (.return_, 1) := by decide +kernel
theorem dX6_write_22 : decode cX6_write 22 = .ok (.aload_n 1, 1) := by decide +kernel
theorem dX6_write_23 : decode cX6_write 23 = .ok (.getfield 151, 3) := by decide +kernel
theorem dX6_write_26 : decode cX6_write 26 = .ok (.astore_n 3, 1) := by decide +kernel
theorem dX6_write_27 : decode cX6_write 27 = .ok (.aload_n 0, 1) := by decide +kernel
theorem dX6_write_28 : decode cX6_write 28 = .ok (.getfield 27, 3) := by decide +kernel
theorem dX6_write_31 : decode cX6_write 31 = .ok (.aload_n 1, 1) := by decide +kernel
theorem dX6_write_32 : decode cX6_write 32 = .ok (.getfield 141, 3) := by decide +kernel
theorem dX6_write_35 : decode cX6_write 35 = .ok (.aaload, 1) := by decide +kernel
theorem dX6_write_36 : decode cX6_write 36 = .ok (.aload_n 1, 1) := by decide +kernel
theorem dX6_write_37 : decode cX6_write 37 = .ok (.getfield 144, 3) := by decide +kernel
theorem dX6_write_40 : decode cX6_write 40 = .ok (.aload_n 1, 1) := by decide +kernel
theorem dX6_write_41 : decode cX6_write 41 = .ok (.getfield 144, 3) := by decide +kernel
theorem dX6_write_44 : decode cX6_write 44 = .ok (.aload_n 3, 1) := by decide +kernel
theorem dX6_write_45 : decode cX6_write 45 = .ok (.getfield 186, 3) := by decide +kernel
theorem dX6_write_48 : decode cX6_write 48 = .ok (.iadd, 1) := by decide +kernel
theorem dX6_write_49 : decode cX6_write 49 = .ok (.iload_n 2, 1) := by decide +kernel
theorem dX6_write_50 : decode cX6_write 50 = .ok (.invokevirtual 278, 3) := by decide +kernel
theorem dX6_write_53 : decode cX6_write 53 = .ok (.aload_n 0, 1) := by decide +kernel
theorem dX6_write_54 : decode cX6_write 54 = .ok (.getfield 10, 3) := by decide +kernel
theorem dX6_write_57 : decode cX6_write 57 = .ok (.aload_n 1, 1) := by decide +kernel
theorem dX6_write_58 : decode cX6_write 58 = .ok (.getfield 138, 3) := by decide +kernel
theorem dX6_write_61 : decode cX6_write 61 = .ok (.invokevirtual 99, 3) := by decide +kernel
theorem dX6_write_64 : decode cX6_write 64 = .ok (.checkcast 61, 3) := by decide +kernel
theorem dX6_write_67 : decode cX6_write 67 = .ok (.getfield 202, 3) := by decide +kernel
theorem dX6_write_70 : decode cX6_write 70 = .ok (.astore 4, 2) := by decide +kernel
theorem dX6_write_72 : decode cX6_write 72 = .ok (.iconst 0, 1) := by decide +kernel
theorem dX6_write_73 : decode cX6_write 73 = .ok (.istore 5, 2) := by decide +kernel
theorem dX6_write_75 : decode cX6_write 75 = .ok (.iload 5, 2) := by decide +kernel
theorem dX6_write_77 : decode cX6_write 77 = .ok (.aload_n 3, 1) := by decide +kernel
theorem dX6_write_78 : decode cX6_write 78 = .ok (.getfield 103, 3) := by decide +kernel
theorem dX6_write_81 : decode cX6_write 81 = .ok (.if_icmp .ge 54, 3) := by decide +kernel
theorem dX6_write_84 : decode cX6_write 84 = .ok (.aload_n 3, 1) := by decide +kernel
theorem dX6_write_85 : decode cX6_write 85 = .ok (.iload 5, 2) := by decide +kernel
theorem dX6_write_87 : decode cX6_write 87 = .ok (.invokevirtual 221, 3) := by decide +kernel
theorem dX6_write_90 : decode cX6_write 90 = .ok (.ifCond .ne 39, 3) := by decide +kernel
theorem dX6_write_93 : decode cX6_write 93 = .ok (.aload_n 1, 1) := by decide +kernel
theorem dX6_write_94 : decode cX6_write 94 = .ok (.getfield 144, 3) := by decide +kernel
theorem dX6_write_97 : decode cX6_write 97 = .ok (.aload_n 3, 1) := by decide +kernel
theorem dX6_write_98 : decode cX6_write 98 = .ok (.iload 5, 2) := by decide +kernel
theorem dX6_write_100 : decode cX6_write 100 = .ok (.invokevirtual 224, 3) := by decide +kernel
theorem dX6_write_103 : decode cX6_write 103 = .ok (.iadd, 1) := by decide +kernel
theorem dX6_write_104 : decode cX6_write 104 = .ok (.istore 6, 2) := by decide +kernel
theorem dX6_write_106 : decode cX6_write 106 = .ok (.aload_n 1, 1) := by decide +kernel
theorem dX6_write_107 : decode cX6_write 107 = .ok (.getfield 144, 3) := by decide +kernel
theorem dX6_write_110 : decode cX6_write 110 = .ok (.aload_n 3, 1) := by decide +kernel
theorem dX6_write_111 : decode cX6_write 111 = .ok (.iload 5, 2) := by decide +kernel
theorem dX6_write_113 : decode cX6_write 113 = .ok (.invokevirtual 227, 3) := by decide +kernel
theorem dX6_write_116 : decode cX6_write 116 = .ok (.iadd, 1) := by decide +kernel
theorem dX6_write_117 : decode cX6_write 117 = .ok (.istore 7, 2) := by decide +kernel
theorem dX6_write_119 : decode cX6_write 119 = .ok (.aload 4, 2) := by decide +kernel
theorem dX6_write_121 : decode cX6_write 121 = .ok (.iload 6, 2) := by decide +kernel
theorem dX6_write_123 : decode cX6_write 123 = .ok (.iload 7, 2) := by decide +kernel
theorem dX6_write_125 : decode cX6_write 125 = .ok (.iload_n 2, 1) := by decide +kernel
theorem dX6_write_126 : decode cX6_write 126 = .ok (.invokevirtual 278, 3) := by decide +kernel
theorem dX6_write_129 : decode cX6_write 129 = .ok (.iinc 5 1, 3) := by decide +kernel
theorem dX6_write_132 : decode cX6_write 132 = .ok (.goto (-57), 3) := by decide +kernel
theorem dX6_write_135 : decode cX6_write 135 = .ok (.return_, 1) := by decide +kernel
theorem dX6_serveWaiting_0 : decode cX6_serveWaiting 0 = .ok (.iconst 0, 1) := by decide +kernel
theorem dX6_serveWaiting_1 : decode cX6_serveWaiting 1 = .ok (.istore_n 1, 1) := by decide +kernel
theorem dX6_serveWaiting_2 : decode cX6_serveWaiting 2 = .ok (.iconst 0, 1) := by decide +kernel
theorem dX6_serveWaiting_3 : decode cX6_serveWaiting 3 = .ok (.istore_n 2, 1) := by decide +kernel
theorem dX6_serveWaiting_4 : decode cX6_serveWaiting 4 = .ok (.aload_n 0, 1) := by decide +kernel
theorem dX6_serveWaiting_5 : decode cX6_serveWaiting 5 = .ok (.getfield 22, 3) := by decide +kernel
theorem dX6_serveWaiting_8 : decode cX6_serveWaiting 8 = .ok (.invokevirtual 52, 3) := by decide +kernel
theorem dX6_serveWaiting_11 : decode cX6_serveWaiting 11 = .ok (.istore_n 3, 1) := by decide +kernel
theorem dX6_serveWaiting_12 : decode cX6_serveWaiting 12 = .ok (.iconst 0, 1) := by decide +kernel
theorem dX6_serveWaiting_13 : decode cX6_serveWaiting 13 = .ok (.istore 4, 2) := by decide +kernel
theorem dX6_serveWaiting_15 : decode cX6_serveWaiting 15 = .ok (.iload 4, 2) := by decide +kernel
theorem dX6_serveWaiting_17 : decode cX6_serveWaiting 17 = .ok (.iload_n 3, 1) := by decide +kernel
theorem dX6_serveWaiting_18 : decode cX6_serveWaiting 18 = .ok (.if_icmp .ge 123, 3) := by decide +kernel
theorem dX6_serveWaiting_21 : decode cX6_serveWaiting 21 = .ok (.iload_n 2, 1) := by decide +kernel
theorem dX6_serveWaiting_22 : decode cX6_serveWaiting 22 = .ok (.aload_n 0, 1) := by decide +kernel
theorem dX6_serveWaiting_23 : decode cX6_serveWaiting 23 = .ok (.getfield 22, 3) := by decide +kernel
theorem dX6_serveWaiting_26 : decode cX6_serveWaiting 26 = .ok (.invokevirtual 52, 3) := by decide +kernel
theorem dX6_serveWaiting_29 : decode cX6_serveWaiting 29 = .ok (.if_icmp .ge 112, 3) := by decide +kernel
theorem dX6_serveWaiting_32 : decode cX6_serveWaiting 32 = .ok (.aload_n 0, 1) := by decide +kernel
theorem dX6_serveWaiting_33 : decode cX6_serveWaiting 33 = .ok (.getfield 22, 3) := by decide +kernel
theorem dX6_serveWaiting_36 : decode cX6_serveWaiting 36 = .ok (.iload_n 2, 1) := by decide +kernel
theorem dX6_serveWaiting_37 : decode cX6_serveWaiting 37 = .ok (.invokevirtual 99, 3) := by decide +kernel
theorem dX6_serveWaiting_40 : decode cX6_serveWaiting 40 = .ok (.checkcast 176, 3) := by decide +kernel
theorem dX6_serveWaiting_43 : decode cX6_serveWaiting 43 = .ok (.astore 5, 2) := by decide +kernel
theorem dX6_serveWaiting_45 : decode cX6_serveWaiting 45 = .ok (.aload_n 0, 1) := by decide +kernel
theorem dX6_serveWaiting_46 : decode cX6_serveWaiting 46 = .ok (.getfield 19, 3) := by decide +kernel
theorem dX6_serveWaiting_49 : decode cX6_serveWaiting 49 = .ok (.invokevirtual 52, 3) := by decide +kernel
theorem dX6_serveWaiting_52 : decode cX6_serveWaiting 52 = .ok (.bipush 30, 2) := by decide +kernel
theorem dX6_serveWaiting_54 : decode cX6_serveWaiting 54 = .ok (.if_icmp .lt 7, 3) := by decide +kernel
theorem dX6_serveWaiting_57 : decode cX6_serveWaiting 57 = .ok (.iconst 1, 1) := by decide +kernel
theorem dX6_serveWaiting_58 : decode cX6_serveWaiting 58 = .ok (.goto 4, 3) := by decide +kernel
theorem dX6_serveWaiting_61 : decode cX6_serveWaiting 61 = .ok (.iconst 0, 1) := by decide +kernel
theorem dX6_serveWaiting_62 : decode cX6_serveWaiting 62 = .ok (.istore 6, 2) := by decide +kernel
theorem dX6_serveWaiting_64 : decode cX6_serveWaiting 64 = .ok (.iload 6, 2) := by decide +kernel
theorem dX6_serveWaiting_66 : decode cX6_serveWaiting 66 = .ok (.ifCond .eq 7, 3) := by decide +kernel
theorem dX6_serveWaiting_69 : decode cX6_serveWaiting 69 = .ok (.iconst (-1), 1) := by decide +kernel
theorem dX6_serveWaiting_70 : decode cX6_serveWaiting 70 = .ok (.goto 15, 3) := by decide +kernel
theorem dX6_serveWaiting_73 : decode cX6_serveWaiting 73 = .ok (.aload_n 0, 1) := by decide +kernel
theorem dX6_serveWaiting_74 : decode cX6_serveWaiting 74 = .ok (.aload 5, 2) := by decide +kernel
theorem dX6_serveWaiting_76 : decode cX6_serveWaiting 76 = .ok (.getfield 185, 3) := by decide +kernel
theorem dX6_serveWaiting_79 : decode cX6_serveWaiting 79 = .ok (.bipush 31, 2) := by decide +kernel
theorem dX6_serveWaiting_81 : decode cX6_serveWaiting 81 = .ok (.iconst 0, 1) := by decide +kernel
theorem dX6_serveWaiting_82 : decode cX6_serveWaiting 82 = .ok (.invokevirtual 155, 3) := by decide +kernel
theorem dX6_serveWaiting_85 : decode cX6_serveWaiting 85 = .ok (.istore 7, 2) := by decide +kernel
theorem dX6_serveWaiting_87 : decode cX6_serveWaiting 87 = .ok (.iload 7, 2) := by decide +kernel
theorem dX6_serveWaiting_89 : decode cX6_serveWaiting 89 = .ok (.iconst (-1), 1) := by decide +kernel
theorem dX6_serveWaiting_90 : decode cX6_serveWaiting 90 = .ok (.if_icmp .eq 13, 3) := by decide +kernel
theorem dX6_serveWaiting_93 : decode cX6_serveWaiting 93 = .ok (.iload 7, 2) := by decide +kernel
theorem dX6_serveWaiting_95 : decode cX6_serveWaiting 95 = .ok (.aload 5, 2) := by decide +kernel
theorem dX6_serveWaiting_97 : decode cX6_serveWaiting 97 = .ok (.getfield 280, 3) := by decide +kernel
theorem dX6_serveWaiting_100 : decode cX6_serveWaiting 100 = .ok (.if_icmp .le 9, 3) := by decide +kernel
theorem dX6_serveWaiting_103 : decode cX6_serveWaiting 103 = .ok (.iinc 2 1, 3) := by decide +kernel
theorem dX6_serveWaiting_106 : decode cX6_serveWaiting 106 = .ok (.goto 29, 3) := by decide +kernel
theorem dX6_serveWaiting_109 : decode cX6_serveWaiting 109 = .ok (.aload_n 0, 1) := by decide +kernel
theorem dX6_serveWaiting_110 : decode cX6_serveWaiting 110 = .ok (.aload 5, 2) := by decide +kernel
theorem dX6_serveWaiting_112 : decode cX6_serveWaiting 112 = .ok (.getfield 185, 3) := by decide +kernel
theorem dX6_serveWaiting_115 : decode cX6_serveWaiting 115 = .ok (.bipush 31, 2) := by decide +kernel
theorem dX6_serveWaiting_117 : decode cX6_serveWaiting 117 = .ok (.iload 7, 2) := by decide +kernel
theorem dX6_serveWaiting_119 : decode cX6_serveWaiting 119 = .ok (.invokevirtual 263, 3) := by decide +kernel
theorem dX6_serveWaiting_122 : decode cX6_serveWaiting 122 = .ok (.pop, 1) := by decide +kernel
theorem dX6_serveWaiting_123 : decode cX6_serveWaiting 123 = .ok (.aload_n 0, 1) := by decide +kernel
theorem dX6_serveWaiting_124 : decode cX6_serveWaiting 124 = .ok (.getfield 22, 3) := by decide +kernel
theorem dX6_serveWaiting_127 : decode cX6_serveWaiting 127 = .ok (.iload_n 2, 1) := by decide +kernel
theorem dX6_serveWaiting_128 : decode cX6_serveWaiting 128 = .ok (.invokevirtual 283, 3) := by decide +kernel
theorem dX6_serveWaiting_131 : decode cX6_serveWaiting 131 = .ok (.pop, 1) := by decide +kernel
theorem dX6_serveWaiting_132 : decode cX6_serveWaiting 132 = .ok (.iinc 1 1, 3) := by decide +kernel
theorem dX6_serveWaiting_135 : decode cX6_serveWaiting 135 = .ok (.iinc 4 1, 3) := by decide +kernel
theorem dX6_serveWaiting_138 : decode cX6_serveWaiting 138 = .ok (.goto (-123), 3) := by decide +kernel
theorem dX6_serveWaiting_141 : decode cX6_serveWaiting 141 = .ok (.iload_n 1, 1) := by decide +kernel
theorem dX6_serveWaiting_142 : decode cX6_serveWaiting 142 = .ok (.ireturn, 1) := by decide +kernel
theorem dX6_firstStart_0 : decode cX6_firstStart 0 = .ok (.aload_n 0, 1) := by decide +kernel
theorem dX6_firstStart_1 : decode cX6_firstStart 1 = .ok (.aload_n 1, 1) := by decide +kernel
theorem dX6_firstStart_2 : decode cX6_firstStart 2 = .ok (.iload_n 3, 1) := by decide +kernel
theorem dX6_firstStart_3 : decode cX6_firstStart 3 = .ok (.invokevirtual 286, 3) := by decide +kernel
theorem dX6_firstStart_6 : decode cX6_firstStart 6 = .ok (.iload_n 3, 1) := by decide +kernel
theorem dX6_firstStart_7 : decode cX6_firstStart 7 = .ok (.istore 4, 2) := by decide +kernel
theorem dX6_firstStart_9 : decode cX6_firstStart 9 = .ok (.iload 4, 2) := by decide +kernel
theorem dX6_firstStart_11 : decode cX6_firstStart 11 = .ok (.aload_n 1, 1) := by decide +kernel
theorem dX6_firstStart_12 : decode cX6_firstStart 12 = .ok (.getfield 186, 3) := by decide +kernel
theorem dX6_firstStart_15 : decode cX6_firstStart 15 = .ok (.iadd, 1) := by decide +kernel
theorem dX6_firstStart_16 : decode cX6_firstStart 16 = .ok (.sipush 600, 3) := by decide +kernel
theorem dX6_firstStart_19 : decode cX6_firstStart 19 = .ok (.if_icmp .gt 35, 3) := by decide +kernel
theorem dX6_firstStart_22 : decode cX6_firstStart 22 = .ok (.aload_n 0, 1) := by decide +kernel
theorem dX6_firstStart_23 : decode cX6_firstStart 23 = .ok (.getfield 35, 3) := by decide +kernel
theorem dX6_firstStart_26 : decode cX6_firstStart 26 = .ok (.iload 4, 2) := by decide +kernel
theorem dX6_firstStart_28 : decode cX6_firstStart 28 = .ok (.invokevirtual 289, 3) := by decide +kernel
theorem dX6_firstStart_31 : decode cX6_firstStart 31 = .ok (.ifCond .eq 17, 3) := by decide +kernel
theorem dX6_firstStart_34 : decode cX6_firstStart 34 = .ok (.aload_n 0, 1) := by decide +kernel
theorem dX6_firstStart_35 : decode cX6_firstStart 35 = .ok (.aload_n 1, 1) := by decide +kernel
theorem dX6_firstStart_36 : decode cX6_firstStart 36 = .ok (.iload_n 2, 1) := by decide +kernel
theorem dX6_firstStart_37 : decode cX6_firstStart 37 = .ok (.iload 4, 2) := by decide +kernel
theorem dX6_firstStart_39 : decode cX6_firstStart 39 = .ok (.invokevirtual 292, 3) := by decide +kernel
theorem dX6_firstStart_42 : decode cX6_firstStart 42 = .ok (.ifCond .eq 6, 3) := by decide +kernel
theorem dX6_firstStart_45 : decode cX6_firstStart 45 = .ok (.iload 4, 2) := by decide +kernel
theorem dX6_firstStart_47 : decode cX6_firstStart 47 = .ok (.ireturn, 1) := by decide +kernel
theorem dX6_firstStart_48 : decode cX6_firstStart 48 = .ok (.iinc 4 1, 3) := by decide +kernel
theorem dX6_firstStart_51 : decode cX6_firstStart 51 = .ok (.goto (-42), 3) := by decide +kernel
theorem dX6_firstStart_54 : decode cX6_firstStart 54 = .ok (.iconst (-1), 1) := by decide +kernel
theorem dX6_firstStart_55 : decode cX6_firstStart 55 = .ok (.ireturn, 1) := by decide +kernel
theorem dX6_gatherCandidates_0 : decode cX6_gatherCandidates 0 = .ok (.aload_n 0, 1) := by decide +kernel
theorem dX6_gatherCandidates_1 : decode cX6_gatherCandidates 1 = .ok (.getfield 35, 3) := by decide +kernel
theorem dX6_gatherCandidates_4 : decode cX6_gatherCandidates 4 = .ok (.invokevirtual 296, 3) := by decide +kernel
theorem dX6_gatherCandidates_7 : decode cX6_gatherCandidates 7 = .ok (.aload_n 0, 1) := by decide +kernel
theorem dX6_gatherCandidates_8 : decode cX6_gatherCandidates 8 = .ok (.getfield 35, 3) := by decide +kernel
theorem dX6_gatherCandidates_11 : decode cX6_gatherCandidates 11 = .ok (.iload_n 2, 1) := by decide +kernel
theorem dX6_gatherCandidates_12 : decode cX6_gatherCandidates 12 = .ok (.invokevirtual 299, 3) := by decide +kernel
theorem dX6_gatherCandidates_15 : decode cX6_gatherCandidates 15 = .ok (.iconst 0, 1) := by decide +kernel
theorem dX6_gatherCandidates_16 : decode cX6_gatherCandidates 16 = .ok (.istore_n 3, 1) := by decide +kernel
theorem dX6_gatherCandidates_17 : decode cX6_gatherCandidates 17 = .ok (.iload_n 3, 1) := by decide +kernel
theorem dX6_gatherCandidates_18 : decode cX6_gatherCandidates 18 = .ok (.aload_n 0, 1) := by decide +kernel
theorem dX6_gatherCandidates_19 : decode cX6_gatherCandidates 19 = .ok (.getfield 10, 3) := by decide +kernel
theorem dX6_gatherCandidates_22 : decode cX6_gatherCandidates 22 = .ok (.invokevirtual 52, 3) := by decide +kernel
theorem dX6_gatherCandidates_25 : decode cX6_gatherCandidates 25 = .ok (.if_icmp .ge 30, 3) := by decide +kernel
theorem dX6_gatherCandidates_28 : decode cX6_gatherCandidates 28 = .ok (.aload_n 0, 1) := by decide +kernel
theorem dX6_gatherCandidates_29 : decode cX6_gatherCandidates 29 = .ok (.getfield 35, 3) := by decide +kernel
theorem dX6_gatherCandidates_32 : decode cX6_gatherCandidates 32 = .ok (.aload_n 0, 1) := by decide +kernel
theorem dX6_gatherCandidates_33 : decode cX6_gatherCandidates 33 = .ok (.getfield 10, 3) := by decide +kernel
theorem dX6_gatherCandidates_36 : decode cX6_gatherCandidates 36 = .ok (.iload_n 3, 1) := by decide +kernel
theorem dX6_gatherCandidates_37 : decode cX6_gatherCandidates 37 = .ok (.invokevirtual 99, 3) := by decide +kernel
theorem dX6_gatherCandidates_40 : decode cX6_gatherCandidates 40 = .ok (.checkcast 61, 3) := by decide +kernel
theorem dX6_gatherCandidates_43 : decode cX6_gatherCandidates 43 = .ok (.getfield 301, 3) := by decide +kernel
theorem dX6_gatherCandidates_46 : decode cX6_gatherCandidates 46 = .ok (.invokevirtual 299, 3) := by decide +kernel
theorem dX6_gatherCandidates_49 : decode cX6_gatherCandidates 49 = .ok (.iinc 3 1, 3) := by decide +kernel
theorem dX6_gatherCandidates_52 : decode cX6_gatherCandidates 52 = .ok (.goto (-35), 3) := by decide +kernel
theorem dX6_gatherCandidates_55 : decode cX6_gatherCandidates 55 = .ok (.iconst 0, 1) := by decide +kernel
theorem dX6_gatherCandidates_56 : decode cX6_gatherCandidates 56 = .ok (.istore_n 3, 1) := by decide +kernel
theorem dX6_gatherCandidates_57 : decode cX6_gatherCandidates 57 = .ok (.iload_n 3, 1) := by decide +kernel
theorem dX6_gatherCandidates_58 : decode cX6_gatherCandidates 58 = .ok (.aload_n 0, 1) := by decide +kernel
theorem dX6_gatherCandidates_59 : decode cX6_gatherCandidates 59 = .ok (.getfield 19, 3) := by decide +kernel
theorem dX6_gatherCandidates_62 : decode cX6_gatherCandidates 62 = .ok (.invokevirtual 52, 3) := by decide +kernel
theorem dX6_gatherCandidates_65 : decode cX6_gatherCandidates 65 = .ok (.if_icmp .ge 58, 3) := by decide +kernel
theorem dX6_gatherCandidates_68 : decode cX6_gatherCandidates 68 = .ok (.aload_n 0, 1) := by decide +kernel
theorem dX6_gatherCandidates_69 : decode cX6_gatherCandidates 69 = .ok (.getfield 19, 3) := by decide +kernel
theorem dX6_gatherCandidates_72 : decode cX6_gatherCandidates 72 = .ok (.iload_n 3, 1) := by decide +kernel
theorem dX6_gatherCandidates_73 : decode cX6_gatherCandidates 73 = .ok (.invokevirtual 99, 3) := by decide +kernel
theorem dX6_gatherCandidates_76 : decode cX6_gatherCandidates 76 = .ok (.checkcast 136, 3) := by decide +kernel
theorem dX6_gatherCandidates_79 : decode cX6_gatherCandidates 79 = .ok (.astore 4, 2) := by decide +kernel
theorem dX6_gatherCandidates_81 : decode cX6_gatherCandidates 81 = .ok (.aload 4, 2) := by decide +kernel
theorem dX6_gatherCandidates_83 : decode cX6_gatherCandidates 83 = .ok (.invokevirtual 249, 3) := by decide +kernel
theorem dX6_gatherCandidates_86 : decode cX6_gatherCandidates 86 = .ok (.ifCond .ne 31, 3) := by decide +kernel
theorem dX6_gatherCandidates_89 : decode cX6_gatherCandidates 89 = .ok (.aload_n 0, 1) := by decide +kernel
theorem dX6_gatherCandidates_90 : decode cX6_gatherCandidates 90 = .ok (.getfield 35, 3) := by decide +kernel
theorem dX6_gatherCandidates_93 : decode cX6_gatherCandidates 93 = .ok (.aload 4, 2) := by decide +kernel
theorem dX6_gatherCandidates_95 : decode cX6_gatherCandidates 95 = .ok (.getfield 144, 3) := by decide +kernel
theorem dX6_gatherCandidates_98 : decode cX6_gatherCandidates 98 = .ok (.aload 4, 2) := by decide +kernel
theorem dX6_gatherCandidates_100 : decode cX6_gatherCandidates 100 = .ok (.getfield 151, 3) := by decide +kernel
theorem dX6_gatherCandidates_103 : decode cX6_gatherCandidates 103 = .ok (.getfield 186, 3) := by decide +kernel
theorem dX6_gatherCandidates_106 : decode cX6_gatherCandidates 106 = .ok (.iadd, 1) := by decide +kernel
theorem dX6_gatherCandidates_107 : decode cX6_gatherCandidates 107 = .ok (.invokevirtual 299, 3) := by decide +kernel
theorem dX6_gatherCandidates_110 : decode cX6_gatherCandidates 110 = .ok (.aload_n 0, 1) := by decide +kernel
theorem dX6_gatherCandidates_111 : decode cX6_gatherCandidates 111 = .ok (.aload 4, 2) := by decide +kernel
theorem dX6_gatherCandidates_113 : decode cX6_gatherCandidates 113 = .ok (.aload_n 1, 1) := by decide +kernel
theorem dX6_gatherCandidates_114 : decode cX6_gatherCandidates 114 = .ok (.invokevirtual 304, 3) := by decide +kernel
theorem dX6_gatherCandidates_117 : decode cX6_gatherCandidates 117 = .ok (.iinc 3 1, 3) := by decide +kernel
theorem dX6_gatherCandidates_120 : decode cX6_gatherCandidates 120 = .ok (.goto (-63), 3) := by decide +kernel
theorem dX6_gatherCandidates_123 : decode cX6_gatherCandidates 123 = .ok (.return_, 1) := by decide +kernel
theorem dX6_addStartsBehindSteps_0 : decode cX6_addStartsBehindSteps 0 = .ok (.iconst 0, 1) := by decide +kernel
theorem dX6_addStartsBehindSteps_1 : decode cX6_addStartsBehindSteps 1 = .ok (.istore_n 3, 1) := by decide +kernel
theorem dX6_addStartsBehindSteps_2 : decode cX6_addStartsBehindSteps 2 = .ok (.iload_n 3, 1) := by decide +kernel
theorem dX6_addStartsBehindSteps_3 : decode cX6_addStartsBehindSteps 3 = .ok (.aload_n 1, 1) := by decide +kernel
theorem dX6_addStartsBehindSteps_4 : decode cX6_addStartsBehindSteps 4 = .ok (.getfield 151, 3) := by decide +kernel
theorem dX6_addStartsBehindSteps_7 : decode cX6_addStartsBehindSteps 7 = .ok (.getfield 103, 3) := by decide +kernel
theorem dX6_addStartsBehindSteps_10 : decode cX6_addStartsBehindSteps 10 = .ok (.if_icmp .ge 78, 3) := by decide +kernel
theorem dX6_addStartsBehindSteps_13 : decode cX6_addStartsBehindSteps 13 = .ok (.aload_n 1, 1) := by decide +kernel
theorem dX6_addStartsBehindSteps_14 : decode cX6_addStartsBehindSteps 14 = .ok (.getfield 144, 3) := by decide +kernel
theorem dX6_addStartsBehindSteps_17 : decode cX6_addStartsBehindSteps 17 = .ok (.aload_n 1, 1) := by decide +kernel
theorem dX6_addStartsBehindSteps_18 : decode cX6_addStartsBehindSteps 18 = .ok (.getfield 151, 3) := by decide +kernel
theorem dX6_addStartsBehindSteps_21 : decode cX6_addStartsBehindSteps 21 = .ok (.iload_n 3, 1) := by decide +kernel
theorem dX6_addStartsBehindSteps_22 : decode cX6_addStartsBehindSteps 22 = .ok (.invokevirtual 227, 3) := by decide +kernel
theorem dX6_addStartsBehindSteps_25 : decode cX6_addStartsBehindSteps 25 = .ok (.iadd, 1) := by decide +kernel
theorem dX6_addStartsBehindSteps_26 : decode cX6_addStartsBehindSteps 26 = .ok (.istore 4, 2) := by decide +kernel
theorem dX6_addStartsBehindSteps_28 : decode cX6_addStartsBehindSteps 28 = .ok (.iconst 0, 1) := by decide +kernel
theorem dX6_addStartsBehindSteps_29 : decode cX6_addStartsBehindSteps 29 = .ok (.istore 5, 2) := by decide +kernel
theorem dX6_addStartsBehindSteps_31 : decode cX6_addStartsBehindSteps 31 = .ok (.iload 5, 2) := by decide +kernel
theorem dX6_addStartsBehindSteps_33 : decode cX6_addStartsBehindSteps 33 = .ok (.aload_n 2, 1) := by decide +kernel
theorem dX6_addStartsBehindSteps_34 : decode cX6_addStartsBehindSteps 34 = .ok (.getfield 103, 3) := by decide +kernel
theorem dX6_addStartsBehindSteps_37 : decode cX6_addStartsBehindSteps 37 = .ok (.if_icmp .ge 45, 3) := by decide +kernel
theorem dX6_addStartsBehindSteps_40 : decode cX6_addStartsBehindSteps 40 = .ok (.aload_n 1, 1) := by decide +kernel
theorem dX6_addStartsBehindSteps_41 : decode cX6_addStartsBehindSteps 41 = .ok (.getfield 151, 3) := by decide +kernel
theorem dX6_addStartsBehindSteps_44 : decode cX6_addStartsBehindSteps 44 = .ok (.iload_n 3, 1) := by decide +kernel
theorem dX6_addStartsBehindSteps_45 : decode cX6_addStartsBehindSteps 45 = .ok (.invokevirtual 221, 3) := by decide +kernel
theorem dX6_addStartsBehindSteps_48 : decode cX6_addStartsBehindSteps 48 = .ok (.ifCond .ne 28, 3) := by decide +kernel
theorem dX6_addStartsBehindSteps_51 : decode cX6_addStartsBehindSteps 51 = .ok (.aload_n 2, 1) := by decide +kernel
theorem dX6_addStartsBehindSteps_52 : decode cX6_addStartsBehindSteps 52 = .ok (.iload 5, 2) := by decide +kernel
theorem dX6_addStartsBehindSteps_54 : decode cX6_addStartsBehindSteps 54 = .ok (.invokevirtual 221, 3) := by decide +kernel
theorem dX6_addStartsBehindSteps_57 : decode cX6_addStartsBehindSteps 57 = .ok (.ifCond .ne 19, 3) := by decide +kernel
theorem dX6_addStartsBehindSteps_60 : decode cX6_addStartsBehindSteps 60 = .ok (.aload_n 0, 1) := by decide +kernel
theorem dX6_addStartsBehindSteps_61 : decode cX6_addStartsBehindSteps 61 = .ok (.getfield 35, 3) := by decide +kernel
theorem dX6_addStartsBehindSteps_64 : decode cX6_addStartsBehindSteps 64 = .ok (.iload 4, 2) := by decide +kernel
theorem dX6_addStartsBehindSteps_66 : decode cX6_addStartsBehindSteps 66 = .ok (.aload_n 2, 1) := by decide +kernel
theorem dX6_addStartsBehindSteps_67 : decode cX6_addStartsBehindSteps 67 = .ok (.iload 5, 2) := by decide +kernel
theorem dX6_addStartsBehindSteps_69 : decode cX6_addStartsBehindSteps 69 = .ok (.invokevirtual 224, 3) := by decide +kernel
theorem dX6_addStartsBehindSteps_72 : decode cX6_addStartsBehindSteps 72 = .ok (.isub, 1) := by decide +kernel
theorem dX6_addStartsBehindSteps_73 : decode cX6_addStartsBehindSteps 73 = .ok (.invokevirtual 299, 3) := by decide +kernel
theorem dX6_addStartsBehindSteps_76 : decode cX6_addStartsBehindSteps 76 = .ok (.iinc 5 1, 3) := by decide +kernel
theorem dX6_addStartsBehindSteps_79 : decode cX6_addStartsBehindSteps 79 = .ok (.goto (-48), 3) := by decide +kernel
theorem dX6_addStartsBehindSteps_82 : decode cX6_addStartsBehindSteps 82 = .ok (.iinc 3 1, 3) := by decide +kernel
theorem dX6_addStartsBehindSteps_85 : decode cX6_addStartsBehindSteps 85 = .ok (.goto (-83), 3) := by decide +kernel
theorem dX6_addStartsBehindSteps_88 : decode cX6_addStartsBehindSteps 88 = .ok (.return_, 1) := by decide +kernel
theorem dX6_firstStartByScan_0 : decode cX6_firstStartByScan 0 = .ok (.iload_n 3, 1) := by decide +kernel
theorem dX6_firstStartByScan_1 : decode cX6_firstStartByScan 1 = .ok (.istore 5, 2) := by decide +kernel
theorem dX6_firstStartByScan_3 : decode cX6_firstStartByScan 3 = .ok (.iload 5, 2) := by decide +kernel
theorem dX6_firstStartByScan_5 : decode cX6_firstStartByScan 5 = .ok (.aload_n 1, 1) := by decide +kernel
theorem dX6_firstStartByScan_6 : decode cX6_firstStartByScan 6 = .ok (.getfield 186, 3) := by decide +kernel
theorem dX6_firstStartByScan_9 : decode cX6_firstStartByScan 9 = .ok (.iadd, 1) := by decide +kernel
theorem dX6_firstStartByScan_10 : decode cX6_firstStartByScan 10 = .ok (.iload 4, 2) := by decide +kernel
theorem dX6_firstStartByScan_12 : decode cX6_firstStartByScan 12 = .ok (.if_icmp .gt 23, 3) := by decide +kernel
theorem dX6_firstStartByScan_15 : decode cX6_firstStartByScan 15 = .ok (.aload_n 0, 1) := by decide +kernel
theorem dX6_firstStartByScan_16 : decode cX6_firstStartByScan 16 = .ok (.aload_n 1, 1) := by decide +kernel
theorem dX6_firstStartByScan_17 : decode cX6_firstStartByScan 17 = .ok (.iload_n 2, 1) := by decide +kernel
theorem dX6_firstStartByScan_18 : decode cX6_firstStartByScan 18 = .ok (.iload 5, 2) := by decide +kernel
theorem dX6_firstStartByScan_20 : decode cX6_firstStartByScan 20 = .ok (.invokevirtual 292, 3) := by decide +kernel
theorem dX6_firstStartByScan_23 : decode cX6_firstStartByScan 23 = .ok (.ifCond .eq 6, 3) := by decide +kernel
theorem dX6_firstStartByScan_26 : decode cX6_firstStartByScan 26 = .ok (.iload 5, 2) := by decide +kernel
theorem dX6_firstStartByScan_28 : decode cX6_firstStartByScan 28 = .ok (.ireturn, 1) := by decide +kernel
theorem dX6_firstStartByScan_29 : decode cX6_firstStartByScan 29 = .ok (.iinc 5 1, 3) := by decide +kernel
theorem dX6_firstStartByScan_32 : decode cX6_firstStartByScan 32 = .ok (.goto (-29), 3) := by decide +kernel
theorem dX6_firstStartByScan_35 : decode cX6_firstStartByScan 35 = .ok (.iconst (-1), 1) := by decide +kernel
theorem dX6_firstStartByScan_36 : decode cX6_firstStartByScan 36 = .ok (.ireturn, 1) := by decide +kernel
theorem dX6_hasRoom_0 : decode cX6_hasRoom 0 = .ok (.aload_n 0, 1) := by decide +kernel
theorem dX6_hasRoom_1 : decode cX6_hasRoom 1 = .ok (.aload_n 1, 1) := by decide +kernel
theorem dX6_hasRoom_2 : decode cX6_hasRoom 2 = .ok (.iload_n 3, 1) := by decide +kernel
theorem dX6_hasRoom_3 : decode cX6_hasRoom 3 = .ok (.invokevirtual 270, 3) := by decide +kernel
theorem dX6_hasRoom_6 : decode cX6_hasRoom 6 = .ok (.iconst (-1), 1) := by decide +kernel
theorem dX6_hasRoom_7 : decode cX6_hasRoom 7 = .ok (.if_icmp .eq 18, 3) := by decide +kernel
theorem dX6_hasRoom_10 : decode cX6_hasRoom 10 = .ok (.aload_n 0, 1) := by decide +kernel
theorem dX6_hasRoom_11 : decode cX6_hasRoom 11 = .ok (.aload_n 1, 1) := by decide +kernel
theorem dX6_hasRoom_12 : decode cX6_hasRoom 12 = .ok (.iload_n 2, 1) := by decide +kernel
theorem dX6_hasRoom_13 : decode cX6_hasRoom 13 = .ok (.iload_n 3, 1) := by decide +kernel
theorem dX6_hasRoom_14 : decode cX6_hasRoom 14 = .ok (.invokevirtual 218, 3) := by decide +kernel
theorem dX6_hasRoom_17 : decode cX6_hasRoom 17 = .ok (.iconst (-1), 1) := by decide +kernel
theorem dX6_hasRoom_18 : decode cX6_hasRoom 18 = .ok (.if_icmp .eq 7, 3) := by decide +kernel
theorem dX6_hasRoom_21 : decode cX6_hasRoom 21 = .ok (.iconst 1, 1) := by decide +kernel
theorem dX6_hasRoom_22 : decode cX6_hasRoom 22 = .ok (.goto 4, 3) := by decide +kernel
theorem dX6_hasRoom_25 : decode cX6_hasRoom 25 = .ok (.iconst 0, 1) := by decide +kernel
theorem dX6_hasRoom_26 : decode cX6_hasRoom 26 = .ok (.ireturn, 1) := by decide +kernel
theorem dX6_memberFor_0 : decode cX6_memberFor 0 = .ok (.iconst (-1), 1) := by decide +kernel
theorem dX6_memberFor_1 : decode cX6_memberFor 1 = .ok (.istore 4, 2) := by decide +kernel
theorem dX6_memberFor_3 : decode cX6_memberFor 3 = .ok (.iconst 0, 1) := by decide +kernel
theorem dX6_memberFor_4 : decode cX6_memberFor 4 = .ok (.istore 5, 2) := by decide +kernel
theorem dX6_memberFor_6 : decode cX6_memberFor 6 = .ok (.iconst 0, 1) := by decide +kernel
theorem dX6_memberFor_7 : decode cX6_memberFor 7 = .ok (.istore 6, 2) := by decide +kernel
theorem dX6_memberFor_9 : decode cX6_memberFor 9 = .ok (.iload 6, 2) := by decide +kernel
theorem dX6_memberFor_11 : decode cX6_memberFor 11 = .ok (.aload_n 0, 1) := by decide +kernel
theorem dX6_memberFor_12 : decode cX6_memberFor 12 = .ok (.getfield 10, 3) := by decide +kernel
theorem dX6_memberFor_15 : decode cX6_memberFor 15 = .ok (.invokevirtual 52, 3) := by decide +kernel
theorem dX6_memberFor_18 : decode cX6_memberFor 18 = .ok (.if_icmp .ge 68, 3) := by decide +kernel
theorem dX6_memberFor_21 : decode cX6_memberFor 21 = .ok (.iload_n 2, 1) := by decide +kernel
theorem dX6_memberFor_22 : decode cX6_memberFor 22 = .ok (.iload 6, 2) := by decide +kernel
theorem dX6_memberFor_24 : decode cX6_memberFor 24 = .ok (.ishr, 1) := by decide +kernel
theorem dX6_memberFor_25 : decode cX6_memberFor 25 = .ok (.iconst 1, 1) := by decide +kernel
theorem dX6_memberFor_26 : decode cX6_memberFor 26 = .ok (.iand, 1) := by decide +kernel
theorem dX6_memberFor_27 : decode cX6_memberFor 27 = .ok (.iconst 1, 1) := by decide +kernel
theorem dX6_memberFor_28 : decode cX6_memberFor 28 = .ok (.if_icmp .ne 52, 3) := by decide +kernel
theorem dX6_memberFor_31 : decode cX6_memberFor 31 = .ok (.aload_n 0, 1) := by decide +kernel
theorem dX6_memberFor_32 : decode cX6_memberFor 32 = .ok (.getfield 10, 3) := by decide +kernel
theorem dX6_memberFor_35 : decode cX6_memberFor 35 = .ok (.iload 6, 2) := by decide +kernel
theorem dX6_memberFor_37 : decode cX6_memberFor 37 = .ok (.invokevirtual 99, 3) := by decide +kernel
theorem dX6_memberFor_40 : decode cX6_memberFor 40 = .ok (.checkcast 61, 3) := by decide +kernel
theorem dX6_memberFor_43 : decode cX6_memberFor 43 = .ok (.aload_n 1, 1) := by decide +kernel
theorem dX6_memberFor_44 : decode cX6_memberFor 44 = .ok (.iload_n 3, 1) := by decide +kernel
theorem dX6_memberFor_45 : decode cX6_memberFor 45 = .ok (.invokevirtual 308, 3) := by decide +kernel
theorem dX6_memberFor_48 : decode cX6_memberFor 48 = .ok (.ifCond .eq 32, 3) := by decide +kernel
theorem dX6_memberFor_51 : decode cX6_memberFor 51 = .ok (.aload_n 0, 1) := by decide +kernel
theorem dX6_memberFor_52 : decode cX6_memberFor 52 = .ok (.iload 6, 2) := by decide +kernel
theorem dX6_memberFor_54 : decode cX6_memberFor 54 = .ok (.invokevirtual 198, 3) := by decide +kernel
theorem dX6_memberFor_57 : decode cX6_memberFor 57 = .ok (.istore 7, 2) := by decide +kernel
theorem dX6_memberFor_59 : decode cX6_memberFor 59 = .ok (.iload 4, 2) := by decide +kernel
theorem dX6_memberFor_61 : decode cX6_memberFor 61 = .ok (.iconst (-1), 1) := by decide +kernel
theorem dX6_memberFor_62 : decode cX6_memberFor 62 = .ok (.if_icmp .eq 10, 3) := by decide +kernel
theorem dX6_memberFor_65 : decode cX6_memberFor 65 = .ok (.iload 7, 2) := by decide +kernel
theorem dX6_memberFor_67 : decode cX6_memberFor 67 = .ok (.iload 5, 2) := by decide +kernel
theorem dX6_memberFor_69 : decode cX6_memberFor 69 = .ok (.if_icmp .ge 11, 3) := by decide +kernel
theorem dX6_memberFor_72 : decode cX6_memberFor 72 = .ok (.iload 6, 2) := by decide +kernel
theorem dX6_memberFor_74 : decode cX6_memberFor 74 = .ok (.istore 4, 2) := by decide +kernel
theorem dX6_memberFor_76 : decode cX6_memberFor 76 = .ok (.iload 7, 2) := by decide +kernel
theorem dX6_memberFor_78 : decode cX6_memberFor 78 = .ok (.istore 5, 2) := by decide +kernel
theorem dX6_memberFor_80 : decode cX6_memberFor 80 = .ok (.iinc 6 1, 3) := by decide +kernel
theorem dX6_memberFor_83 : decode cX6_memberFor 83 = .ok (.goto (-74), 3) := by decide +kernel
theorem dX6_memberFor_86 : decode cX6_memberFor 86 = .ok (.iload 4, 2) := by decide +kernel
theorem dX6_memberFor_88 : decode cX6_memberFor 88 = .ok (.ireturn, 1) := by decide +kernel
theorem dX6_chairFor_0 : decode cX6_chairFor 0 = .ok (.iconst 0, 1) := by decide +kernel
theorem dX6_chairFor_1 : decode cX6_chairFor 1 = .ok (.istore_n 3, 1) := by decide +kernel
theorem dX6_chairFor_2 : decode cX6_chairFor 2 = .ok (.iload_n 3, 1) := by decide +kernel
theorem dX6_chairFor_3 : decode cX6_chairFor 3 = .ok (.iconst 4, 1) := by decide +kernel
theorem dX6_chairFor_4 : decode cX6_chairFor 4 = .ok (.if_icmp .ge 30, 3) := by decide +kernel
theorem dX6_chairFor_7 : decode cX6_chairFor 7 = .ok (.aload_n 0, 1) := by decide +kernel
theorem dX6_chairFor_8 : decode cX6_chairFor 8 = .ok (.getfield 27, 3) := by decide +kernel
theorem dX6_chairFor_11 : decode cX6_chairFor 11 = .ok (.iload_n 3, 1) := by decide +kernel
theorem dX6_chairFor_12 : decode cX6_chairFor 12 = .ok (.aaload, 1) := by decide +kernel
theorem dX6_chairFor_13 : decode cX6_chairFor 13 = .ok (.iload_n 2, 1) := by decide +kernel
theorem dX6_chairFor_14 : decode cX6_chairFor 14 = .ok (.iload_n 2, 1) := by decide +kernel
theorem dX6_chairFor_15 : decode cX6_chairFor 15 = .ok (.aload_n 1, 1) := by decide +kernel
theorem dX6_chairFor_16 : decode cX6_chairFor 16 = .ok (.getfield 186, 3) := by decide +kernel
theorem dX6_chairFor_19 : decode cX6_chairFor 19 = .ok (.iadd, 1) := by decide +kernel
theorem dX6_chairFor_20 : decode cX6_chairFor 20 = .ok (.invokevirtual 312, 3) := by decide +kernel
theorem dX6_chairFor_23 : decode cX6_chairFor 23 = .ok (.ifCond .eq 5, 3) := by decide +kernel
theorem dX6_chairFor_26 : decode cX6_chairFor 26 = .ok (.iload_n 3, 1) := by decide +kernel
theorem dX6_chairFor_27 : decode cX6_chairFor 27 = .ok (.ireturn, 1) := by decide +kernel
theorem dX6_chairFor_28 : decode cX6_chairFor 28 = .ok (.iinc 3 1, 3) := by decide +kernel
theorem dX6_chairFor_31 : decode cX6_chairFor 31 = .ok (.goto (-29), 3) := by decide +kernel
theorem dX6_chairFor_34 : decode cX6_chairFor 34 = .ok (.iconst (-1), 1) := by decide +kernel
theorem dX6_chairFor_35 : decode cX6_chairFor 35 = .ok (.ireturn, 1) := by decide +kernel
theorem dX6_workBookedWith_0 : decode cX6_workBookedWith 0 = .ok (.iconst 0, 1) := by decide +kernel
theorem dX6_workBookedWith_1 : decode cX6_workBookedWith 1 = .ok (.istore_n 2, 1) := by decide +kernel
theorem dX6_workBookedWith_2 : decode cX6_workBookedWith 2 = .ok (.iconst 0, 1) := by decide +kernel
theorem dX6_workBookedWith_3 : decode cX6_workBookedWith 3 = .ok (.istore_n 3, 1) := by decide +kernel
theorem dX6_workBookedWith_4 : decode cX6_workBookedWith 4 = .ok (.iload_n 3, 1) := by decide +kernel
theorem dX6_workBookedWith_5 : decode cX6_workBookedWith 5 = .ok (.aload_n 0, 1) := by decide +kernel
theorem dX6_workBookedWith_6 : decode cX6_workBookedWith 6 = .ok (.getfield 19, 3) := by decide +kernel
theorem dX6_workBookedWith_9 : decode cX6_workBookedWith 9 = .ok (.invokevirtual 52, 3) := by decide +kernel
theorem dX6_workBookedWith_12 : decode cX6_workBookedWith 12 = .ok (.if_icmp .ge 42, 3) := by decide +kernel
theorem dX6_workBookedWith_15 : decode cX6_workBookedWith 15 = .ok (.aload_n 0, 1) := by decide +kernel
theorem dX6_workBookedWith_16 : decode cX6_workBookedWith 16 = .ok (.getfield 19, 3) := by decide +kernel
theorem dX6_workBookedWith_19 : decode cX6_workBookedWith 19 = .ok (.iload_n 3, 1) := by decide +kernel
theorem dX6_workBookedWith_20 : decode cX6_workBookedWith 20 = .ok (.invokevirtual 99, 3) := by decide +kernel
theorem dX6_workBookedWith_23 : decode cX6_workBookedWith 23 = .ok (.checkcast 136, 3) := by decide +kernel
theorem dX6_workBookedWith_26 : decode cX6_workBookedWith 26 = .ok (.astore 4, 2) := by decide +kernel
theorem dX6_workBookedWith_28 : decode cX6_workBookedWith 28 = .ok (.aload 4, 2) := by decide +kernel
theorem dX6_workBookedWith_30 : decode cX6_workBookedWith 30 = .ok (.getfield 138, 3) := by decide +kernel
theorem dX6_workBookedWith_33 : decode cX6_workBookedWith 33 = .ok (.iload_n 1, 1) := by decide +kernel
theorem dX6_workBookedWith_34 : decode cX6_workBookedWith 34 = .ok (.if_icmp .ne 14, 3) := by decide +kernel
theorem dX6_workBookedWith_37 : decode cX6_workBookedWith 37 = .ok (.iload_n 2, 1) := by decide +kernel
theorem dX6_workBookedWith_38 : decode cX6_workBookedWith 38 = .ok (.aload 4, 2) := by decide +kernel
theorem dX6_workBookedWith_40 : decode cX6_workBookedWith 40 = .ok (.getfield 151, 3) := by decide +kernel
theorem dX6_workBookedWith_43 : decode cX6_workBookedWith 43 = .ok (.getfield 189, 3) := by decide +kernel
theorem dX6_workBookedWith_46 : decode cX6_workBookedWith 46 = .ok (.iadd, 1) := by decide +kernel
theorem dX6_workBookedWith_47 : decode cX6_workBookedWith 47 = .ok (.istore_n 2, 1) := by decide +kernel
theorem dX6_workBookedWith_48 : decode cX6_workBookedWith 48 = .ok (.iinc 3 1, 3) := by decide +kernel
theorem dX6_workBookedWith_51 : decode cX6_workBookedWith 51 = .ok (.goto (-47), 3) := by decide +kernel
theorem dX6_workBookedWith_54 : decode cX6_workBookedWith 54 = .ok (.iload_n 2, 1) := by decide +kernel
theorem dX6_workBookedWith_55 : decode cX6_workBookedWith 55 = .ok (.ireturn, 1) := by decide +kernel
theorem dX6_chairsTakenAt_0 : decode cX6_chairsTakenAt 0 = .ok (.iconst 0, 1) := by decide +kernel
theorem dX6_chairsTakenAt_1 : decode cX6_chairsTakenAt 1 = .ok (.istore_n 2, 1) := by decide +kernel
theorem dX6_chairsTakenAt_2 : decode cX6_chairsTakenAt 2 = .ok (.iconst 0, 1) := by decide +kernel
theorem dX6_chairsTakenAt_3 : decode cX6_chairsTakenAt 3 = .ok (.istore_n 3, 1) := by decide +kernel
theorem dX6_chairsTakenAt_4 : decode cX6_chairsTakenAt 4 = .ok (.iload_n 3, 1) := by decide +kernel
theorem dX6_chairsTakenAt_5 : decode cX6_chairsTakenAt 5 = .ok (.iconst 4, 1) := by decide +kernel
theorem dX6_chairsTakenAt_6 : decode cX6_chairsTakenAt 6 = .ok (.if_icmp .ge 26, 3) := by decide +kernel
theorem dX6_chairsTakenAt_9 : decode cX6_chairsTakenAt 9 = .ok (.aload_n 0, 1) := by decide +kernel
theorem dX6_chairsTakenAt_10 : decode cX6_chairsTakenAt 10 = .ok (.getfield 27, 3) := by decide +kernel
theorem dX6_chairsTakenAt_13 : decode cX6_chairsTakenAt 13 = .ok (.iload_n 3, 1) := by decide +kernel
theorem dX6_chairsTakenAt_14 : decode cX6_chairsTakenAt 14 = .ok (.aaload, 1) := by decide +kernel
theorem dX6_chairsTakenAt_15 : decode cX6_chairsTakenAt 15 = .ok (.iload_n 1, 1) := by decide +kernel
theorem dX6_chairsTakenAt_16 : decode cX6_chairsTakenAt 16 = .ok (.invokevirtual 206, 3) := by decide +kernel
theorem dX6_chairsTakenAt_19 : decode cX6_chairsTakenAt 19 = .ok (.iconst (-1), 1) := by decide +kernel
theorem dX6_chairsTakenAt_20 : decode cX6_chairsTakenAt 20 = .ok (.if_icmp .eq 6, 3) := by decide +kernel
theorem dX6_chairsTakenAt_23 : decode cX6_chairsTakenAt 23 = .ok (.iinc 2 1, 3) := by decide +kernel
theorem dX6_chairsTakenAt_26 : decode cX6_chairsTakenAt 26 = .ok (.iinc 3 1, 3) := by decide +kernel
theorem dX6_chairsTakenAt_29 : decode cX6_chairsTakenAt 29 = .ok (.goto (-25), 3) := by decide +kernel
theorem dX6_chairsTakenAt_32 : decode cX6_chairsTakenAt 32 = .ok (.iload_n 2, 1) := by decide +kernel
theorem dX6_chairsTakenAt_33 : decode cX6_chairsTakenAt 33 = .ok (.ireturn, 1) := by decide +kernel
theorem dX7_init_0 : decode cX7_init 0 = .ok (.aload_n 0, 1) := by decide +kernel
theorem dX7_init_1 : decode cX7_init 1 = .ok (.invokespecial 1, 3) := by decide +kernel
theorem dX7_init_4 : decode cX7_init 4 = .ok (.aload_n 0, 1) := by decide +kernel
theorem dX7_init_5 : decode cX7_init 5 = .ok (.iconst 5, 1) := by decide +kernel
theorem dX7_init_6 : decode cX7_init 6 = .ok (.newarray .int, 2) := by decide +kernel
theorem dX7_init_8 : decode cX7_init 8 = .ok (.putfield 7, 3) := by decide +kernel
theorem dX7_init_11 : decode cX7_init 11 = .ok (.aload_n 0, 1) := by decide +kernel
theorem dX7_init_12 : decode cX7_init 12 = .ok (.iconst 5, 1) := by decide +kernel
theorem dX7_init_13 : decode cX7_init 13 = .ok (.newarray .int, 2) := by decide +kernel
theorem dX7_init_15 : decode cX7_init 15 = .ok (.putfield 13, 3) := by decide +kernel
theorem dX7_init_18 : decode cX7_init 18 = .ok (.aload_n 0, 1) := by decide +kernel
theorem dX7_init_19 : decode cX7_init 19 = .ok (.iconst 5, 1) := by decide +kernel
theorem dX7_init_20 : decode cX7_init 20 = .ok (.newarray .int, 2) := by decide +kernel
theorem dX7_init_22 : decode cX7_init 22 = .ok (.putfield 16, 3) := by decide +kernel
theorem dX7_init_25 : decode cX7_init 25 = .ok (.aload_n 0, 1) := by decide +kernel
theorem dX7_init_26 : decode cX7_init 26 = .ok (.bipush 40, 2) := by decide +kernel
theorem dX7_init_28 : decode cX7_init 28 = .ok (.newarray .int, 2) := by decide +kernel
theorem dX7_init_30 : decode cX7_init 30 = .ok (.putfield 19, 3) := by decide +kernel
theorem dX7_init_33 : decode cX7_init 33 = .ok (.aload_n 0, 1) := by decide +kernel
theorem dX7_init_34 : decode cX7_init 34 = .ok (.bipush 40, 2) := by decide +kernel
theorem dX7_init_36 : decode cX7_init 36 = .ok (.newarray .int, 2) := by decide +kernel
theorem dX7_init_38 : decode cX7_init 38 = .ok (.putfield 22, 3) := by decide +kernel
theorem dX7_init_41 : decode cX7_init 41 = .ok (.aload_n 0, 1) := by decide +kernel
theorem dX7_init_42 : decode cX7_init 42 = .ok (.bipush 8, 2) := by decide +kernel
theorem dX7_init_44 : decode cX7_init 44 = .ok (.newarray .int, 2) := by decide +kernel
theorem dX7_init_46 : decode cX7_init 46 = .ok (.putfield 25, 3) := by decide +kernel
theorem dX7_init_49 : decode cX7_init 49 = .ok (.aload_n 0, 1) := by decide +kernel
theorem dX7_init_50 : decode cX7_init 50 = .ok (.bipush 8, 2) := by decide +kernel
theorem dX7_init_52 : decode cX7_init 52 = .ok (.newarray .boolean, 2) := by decide +kernel
theorem dX7_init_54 : decode cX7_init 54 = .ok (.putfield 28, 3) := by decide +kernel
theorem dX7_init_57 : decode cX7_init 57 = .ok (.aload_n 0, 1) := by decide +kernel
theorem dX7_init_58 : decode cX7_init 58 = .ok (.bipush 30, 2) := by decide +kernel
theorem dX7_init_60 : decode cX7_init 60 = .ok (.newarray .int, 2) := by decide +kernel
theorem dX7_init_62 : decode cX7_init 62 = .ok (.putfield 32, 3) := by decide +kernel
theorem dX7_init_65 : decode cX7_init 65 = .ok (.aload_n 0, 1) := by decide +kernel
theorem dX7_init_66 : decode cX7_init 66 = .ok (.bipush 30, 2) := by decide +kernel
theorem dX7_init_68 : decode cX7_init 68 = .ok (.newarray .int, 2) := by decide +kernel
theorem dX7_init_70 : decode cX7_init 70 = .ok (.putfield 35, 3) := by decide +kernel
theorem dX7_init_73 : decode cX7_init 73 = .ok (.aload_n 0, 1) := by decide +kernel
theorem dX7_init_74 : decode cX7_init 74 = .ok (.bipush 30, 2) := by decide +kernel
theorem dX7_init_76 : decode cX7_init 76 = .ok (.newarray .int, 2) := by decide +kernel
theorem dX7_init_78 : decode cX7_init 78 = .ok (.putfield 38, 3) := by decide +kernel
theorem dX7_init_81 : decode cX7_init 81 = .ok (.aload_n 0, 1) := by decide +kernel
theorem dX7_init_82 : decode cX7_init 82 = .ok (.bipush 30, 2) := by decide +kernel
theorem dX7_init_84 : decode cX7_init 84 = .ok (.newarray .int, 2) := by decide +kernel
theorem dX7_init_86 : decode cX7_init 86 = .ok (.putfield 41, 3) := by decide +kernel
theorem dX7_init_89 : decode cX7_init 89 = .ok (.aload_n 0, 1) := by decide +kernel
theorem dX7_init_90 : decode cX7_init 90 = .ok (.sipush 3000, 3) := by decide +kernel
theorem dX7_init_93 : decode cX7_init 93 = .ok (.newarray .int, 2) := by decide +kernel
theorem dX7_init_95 : decode cX7_init 95 = .ok (.putfield 44, 3) := by decide +kernel
theorem dX7_init_98 : decode cX7_init 98 = .ok (.aload_n 0, 1) := by decide +kernel
theorem dX7_init_99 : decode cX7_init 99 = .ok (.sipush 2400, 3) := by decide +kernel
theorem dX7_init_102 : decode cX7_init 102 = .ok (.newarray .int, 2) := by decide +kernel
theorem dX7_init_104 : decode cX7_init 104 = .ok (.putfield 47, 3) := by decide +kernel
theorem dX7_init_107 : decode cX7_init 107 = .ok (.aload_n 0, 1) := by decide +kernel
theorem dX7_init_108 : decode cX7_init 108 = .ok (.bipush 6, 2) := by decide +kernel
theorem dX7_init_110 : decode cX7_init 110 = .ok (.newarray .int, 2) := by decide +kernel
theorem dX7_init_112 : decode cX7_init 112 = .ok (.putfield 50, 3) := by decide +kernel
theorem dX7_init_115 : decode cX7_init 115 = .ok (.aload_n 0, 1) := by decide +kernel
theorem dX7_init_116 : decode cX7_init 116 = .ok (.bipush 6, 2) := by decide +kernel
theorem dX7_init_118 : decode cX7_init 118 = .ok (.newarray .int, 2) := by decide +kernel
theorem dX7_init_120 : decode cX7_init 120 = .ok (.putfield 53, 3) := by decide +kernel
theorem dX7_init_123 : decode cX7_init 123 = .ok (.iconst 0, 1) := by decide +kernel
theorem dX7_init_124 : decode cX7_init 124 = .ok (.istore_n 1, 1) := by decide +kernel
theorem dX7_init_125 : decode cX7_init 125 = .ok (.iload_n 1, 1) := by decide +kernel
theorem dX7_init_126 : decode cX7_init 126 = .ok (.sipush 3000, 3) := by decide +kernel
theorem dX7_init_129 : decode cX7_init 129 = .ok (.if_icmp .ge 16, 3) := by decide +kernel
theorem dX7_init_132 : decode cX7_init 132 = .ok (.aload_n 0, 1) := by decide +kernel
theorem dX7_init_133 : decode cX7_init 133 = .ok (.getfield 44, 3) := by decide +kernel
theorem dX7_init_136 : decode cX7_init 136 = .ok (.iload_n 1, 1) := by decide +kernel
theorem dX7_init_137 : decode cX7_init 137 = .ok (.iconst (-1), 1) := by decide +kernel
theorem dX7_init_138 : decode cX7_init 138 = .ok (.iastore, 1) := by decide +kernel
theorem dX7_init_139 : decode cX7_init 139 = .ok (.iinc 1 1, 3) := by decide +kernel
theorem dX7_init_142 : decode cX7_init 142 = .ok (.goto (-17), 3) := by decide +kernel
theorem dX7_init_145 : decode cX7_init 145 = .ok (.iconst 0, 1) := by decide +kernel
theorem dX7_init_146 : decode cX7_init 146 = .ok (.istore_n 1, 1) := by decide +kernel
theorem dX7_init_147 : decode cX7_init 147 = .ok (.iload_n 1, 1) := by decide +kernel
theorem dX7_init_148 : decode cX7_init 148 = .ok (.sipush 2400, 3) := by decide +kernel
theorem dX7_init_151 : decode cX7_init 151 = .ok (.if_icmp .ge 16, 3) := by decide +kernel
theorem dX7_init_154 : decode cX7_init 154 = .ok (.aload_n 0, 1) := by decide +kernel
theorem dX7_init_155 : decode cX7_init 155 = .ok (.getfield 47, 3) := by decide +kernel
theorem dX7_init_158 : decode cX7_init 158 = .ok (.iload_n 1, 1) := by decide +kernel
theorem dX7_init_159 : decode cX7_init 159 = .ok (.iconst (-1), 1) := by decide +kernel
theorem dX7_init_160 : decode cX7_init 160 = .ok (.iastore, 1) := by decide +kernel
theorem dX7_init_161 : decode cX7_init 161 = .ok (.iinc 1 1, 3) := by decide +kernel
theorem dX7_init_164 : decode cX7_init 164 = .ok (.goto (-17), 3) := by decide +kernel
theorem dX7_init_167 : decode cX7_init 167 = .ok (.return_, 1) := by decide +kernel
theorem dX7_thrown_0 : decode cX7_thrown 0 = .ok (.aload_n 0, 1) := by decide +kernel
theorem dX7_thrown_1 : decode cX7_thrown 1 = .ok (.getfield 56, 3) := by decide +kernel
theorem dX7_thrown_4 : decode cX7_thrown 4 = .ok (.ireturn, 1) := by decide +kernel
theorem dX7_in_0 : decode cX7_in 0 = .ok (.iload_n 0, 1) := by decide +kernel
theorem dX7_in_1 : decode cX7_in 1 = .ok (.iload_n 1, 1) := by decide +kernel
theorem dX7_in_2 : decode cX7_in 2 = .ok (.if_icmp .lt 12, 3) := by decide +kernel
theorem dX7_in_5 : decode cX7_in 5 = .ok (.iload_n 0, 1) := by decide +kernel
theorem dX7_in_6 : decode cX7_in 6 = .ok (.iload_n 2, 1) := by decide +kernel
theorem dX7_in_7 : decode cX7_in 7 = .ok (.if_icmp .gt 7, 3) := by decide +kernel
theorem dX7_in_10 : decode cX7_in 10 = .ok (.iconst 1, 1) := by decide +kernel
theorem dX7_in_11 : decode cX7_in 11 = .ok (.goto 4, 3) := by decide +kernel
theorem dX7_in_14 : decode cX7_in 14 = .ok (.iconst 0, 1) := by decide +kernel
theorem dX7_in_15 : decode cX7_in 15 = .ok (.ireturn, 1) := by decide +kernel
theorem dX7_isFine_0 : decode cX7_isFine 0 = .ok (.aload_n 0, 1) := by decide +kernel
theorem dX7_isFine_1 : decode cX7_isFine 1 = .ok (.iload_n 1, 1) := by decide +kernel
theorem dX7_isFine_2 : decode cX7_isFine 2 = .ok (.putfield 56, 3) := by decide +kernel
theorem dX7_isFine_5 : decode cX7_isFine 5 = .ok (.iload_n 1, 1) := by decide +kernel
theorem dX7_isFine_6 : decode cX7_isFine 6 = .ok (.ifCond .ne 7, 3) := by decide +kernel
theorem dX7_isFine_9 : decode cX7_isFine 9 = .ok (.iconst 1, 1) := by decide +kernel
theorem dX7_isFine_10 : decode cX7_isFine 10 = .ok (.goto 4, 3) := by decide +kernel
theorem dX7_isFine_13 : decode cX7_isFine 13 = .ok (.iconst 0, 1) := by decide +kernel
theorem dX7_isFine_14 : decode cX7_isFine 14 = .ok (.ireturn, 1) := by decide +kernel
theorem dX7_isService_0 : decode cX7_isService 0 = .ok (.iload_n 1, 1) := by decide +kernel
theorem dX7_isService_1 : decode cX7_isService 1 = .ok (.iconst 0, 1) := by decide +kernel
theorem dX7_isService_2 : decode cX7_isService 2 = .ok (.aload_n 0, 1) := by decide +kernel
theorem dX7_isService_3 : decode cX7_isService 3 = .ok (.getfield 60, 3) := by decide +kernel
theorem dX7_isService_6 : decode cX7_isService 6 = .ok (.iconst 1, 1) := by decide +kernel
theorem dX7_isService_7 : decode cX7_isService 7 = .ok (.isub, 1) := by decide +kernel
theorem dX7_isService_8 : decode cX7_isService 8 = .ok (.invokestatic 63, 3) := by decide +kernel
theorem dX7_isService_11 : decode cX7_isService 11 = .ok (.ireturn, 1) := by decide +kernel
theorem dX7_isStaff_0 : decode cX7_isStaff 0 = .ok (.iload_n 1, 1) := by decide +kernel
theorem dX7_isStaff_1 : decode cX7_isStaff 1 = .ok (.iconst 0, 1) := by decide +kernel
theorem dX7_isStaff_2 : decode cX7_isStaff 2 = .ok (.aload_n 0, 1) := by decide +kernel
theorem dX7_isStaff_3 : decode cX7_isStaff 3 = .ok (.getfield 67, 3) := by decide +kernel
theorem dX7_isStaff_6 : decode cX7_isStaff 6 = .ok (.iconst 1, 1) := by decide +kernel
theorem dX7_isStaff_7 : decode cX7_isStaff 7 = .ok (.isub, 1) := by decide +kernel
theorem dX7_isStaff_8 : decode cX7_isStaff 8 = .ok (.invokestatic 63, 3) := by decide +kernel
theorem dX7_isStaff_11 : decode cX7_isStaff 11 = .ok (.ireturn, 1) := by decide +kernel
theorem dX7_isMinute_0 : decode cX7_isMinute 0 = .ok (.iload_n 0, 1) := by decide +kernel
theorem dX7_isMinute_1 : decode cX7_isMinute 1 = .ok (.iconst 0, 1) := by decide +kernel
theorem dX7_isMinute_2 : decode cX7_isMinute 2 = .ok (.sipush 599, 3) := by decide +kernel
theorem dX7_isMinute_5 : decode cX7_isMinute 5 = .ok (.invokestatic 63, 3) := by decide +kernel
theorem dX7_isMinute_8 : decode cX7_isMinute 8 = .ok (.ireturn, 1) := by decide +kernel
theorem dX7_isVisit_0 : decode cX7_isVisit 0 = .ok (.iload_n 1, 1) := by decide +kernel
theorem dX7_isVisit_1 : decode cX7_isVisit 1 = .ok (.iconst 0, 1) := by decide +kernel
theorem dX7_isVisit_2 : decode cX7_isVisit 2 = .ok (.aload_n 0, 1) := by decide +kernel
theorem dX7_isVisit_3 : decode cX7_isVisit 3 = .ok (.getfield 70, 3) := by decide +kernel
theorem dX7_isVisit_6 : decode cX7_isVisit 6 = .ok (.iconst 1, 1) := by decide +kernel
theorem dX7_isVisit_7 : decode cX7_isVisit 7 = .ok (.isub, 1) := by decide +kernel
theorem dX7_isVisit_8 : decode cX7_isVisit 8 = .ok (.invokestatic 63, 3) := by decide +kernel
theorem dX7_isVisit_11 : decode cX7_isVisit 11 = .ok (.ireturn, 1) := by decide +kernel
theorem dX7_isThere_0 : decode cX7_isThere 0 = .ok (.aload_n 0, 1) := by decide +kernel
theorem dX7_isThere_1 : decode cX7_isThere 1 = .ok (.iload_n 1, 1) := by decide +kernel
theorem dX7_isThere_2 : decode cX7_isThere 2 = .ok (.invokevirtual 73, 3) := by decide +kernel
theorem dX7_isThere_5 : decode cX7_isThere 5 = .ok (.ifCond .eq 17, 3) := by decide +kernel
theorem dX7_isThere_8 : decode cX7_isThere 8 = .ok (.aload_n 0, 1) := by decide +kernel
theorem dX7_isThere_9 : decode cX7_isThere 9 = .ok (.getfield 41, 3) := by decide +kernel
theorem dX7_isThere_12 : decode cX7_isThere 12 = .ok (.iload_n 1, 1) := by decide +kernel
theorem dX7_isThere_13 : decode cX7_isThere 13 = .ok (.iaload, 1) := by decide +kernel
theorem dX7_isThere_14 : decode cX7_isThere 14 = .ok (.iconst (-1), 1) := by decide +kernel
theorem dX7_isThere_15 : decode cX7_isThere 15 = .ok (.if_icmp .eq 7, 3) := by decide +kernel
theorem dX7_isThere_18 : decode cX7_isThere 18 = .ok (.iconst 1, 1) := by decide +kernel
theorem dX7_isThere_19 : decode cX7_isThere 19 = .ok (.goto 4, 3) := by decide +kernel
theorem dX7_isThere_22 : decode cX7_isThere 22 = .ok (.iconst 0, 1) := by decide +kernel
theorem dX7_isThere_23 : decode cX7_isThere 23 = .ok (.ireturn, 1) := by decide +kernel
theorem dX7_hire_0 : decode cX7_hire 0 = .ok (.iload_n 1, 1) := by decide +kernel
theorem dX7_hire_1 : decode cX7_hire 1 = .ok (.iconst 1, 1) := by decide +kernel
theorem dX7_hire_2 : decode cX7_hire 2 = .ok (.bipush 15, 2) := by decide +kernel
theorem dX7_hire_4 : decode cX7_hire 4 = .ok (.invokestatic 63, 3) := by decide +kernel
theorem dX7_hire_7 : decode cX7_hire 7 = .ok (.ifCond .eq 30, 3) := by decide +kernel
theorem dX7_hire_10 : decode cX7_hire 10 = .ok (.iload_n 2, 1) := by decide +kernel
theorem dX7_hire_11 : decode cX7_hire 11 = .ok (.iconst 0, 1) := by decide +kernel
theorem dX7_hire_12 : decode cX7_hire 12 = .ok (.sipush 599, 3) := by decide +kernel
theorem dX7_hire_15 : decode cX7_hire 15 = .ok (.invokestatic 63, 3) := by decide +kernel
theorem dX7_hire_18 : decode cX7_hire 18 = .ok (.ifCond .eq 19, 3) := by decide +kernel
theorem dX7_hire_21 : decode cX7_hire 21 = .ok (.iload_n 3, 1) := by decide +kernel
theorem dX7_hire_22 : decode cX7_hire 22 = .ok (.iload_n 2, 1) := by decide +kernel
theorem dX7_hire_23 : decode cX7_hire 23 = .ok (.if_icmp .le 14, 3) := by decide +kernel
theorem dX7_hire_26 : decode cX7_hire 26 = .ok (.iload_n 3, 1) := by decide +kernel
theorem dX7_hire_27 : decode cX7_hire 27 = .ok (.sipush 600, 3) := by decide +kernel
theorem dX7_hire_30 : decode cX7_hire 30 = .ok (.if_icmp .gt 7, 3) := by decide +kernel
theorem dX7_hire_33 : decode cX7_hire 33 = .ok (.iconst 1, 1) := by decide +kernel
theorem dX7_hire_34 : decode cX7_hire 34 = .ok (.goto 4, 3) := by decide +kernel
theorem dX7_hire_37 : decode cX7_hire 37 = .ok (.iconst 0, 1) := by decide +kernel
theorem dX7_hire_38 : decode cX7_hire 38 = .ok (.istore 4, 2) := by decide +kernel
theorem dX7_hire_40 : decode cX7_hire 40 = .ok (.aload_n 0, 1) := by decide +kernel
theorem dX7_hire_41 : decode cX7_hire 41 = .ok (.iload 4, 2) := by decide +kernel
theorem dX7_hire_43 : decode cX7_hire 43 = .ok (.ifCond .ne 7, 3) := by decide +kernel
theorem dX7_hire_46 : decode cX7_hire 46 = .ok (.iconst 1, 1) := by decide +kernel
theorem dX7_hire_47 : decode cX7_hire 47 = .ok (.goto 16, 3) := by decide +kernel
theorem dX7_hire_50 : decode cX7_hire 50 = .ok (.aload_n 0, 1) := by decide +kernel
theorem dX7_hire_51 : decode cX7_hire 51 = .ok (.getfield 67, 3) := by decide +kernel
theorem dX7_hire_54 : decode cX7_hire 54 = .ok (.iconst 5, 1) := by decide +kernel
theorem dX7_hire_55 : decode cX7_hire 55 = .ok (.if_icmp .ne 7, 3) := by decide +kernel
theorem dX7_hire_58 : decode cX7_hire 58 = .ok (.iconst 2, 1) := by decide +kernel
theorem dX7_hire_59 : decode cX7_hire 59 = .ok (.goto 4, 3) := by decide +kernel
theorem dX7_hire_62 : decode cX7_hire 62 = .ok (.iconst 0, 1) := by decide +kernel
theorem dX7_hire_63 : decode cX7_hire 63 = .ok (.invokevirtual 77, 3) := by decide +kernel
theorem dX7_hire_66 : decode cX7_hire 66 = .ok (.ifCond .ne 5, 3) := by decide +kernel
theorem dX7_hire_69 : decode cX7_hire 69 = .ok (.iconst 0, 1) := by decide +kernel
theorem dX7_hire_70 : decode cX7_hire 70 = .ok (.ireturn, 1) := by decide +kernel
theorem dX7_hire_71 : decode cX7_hire 71 = .ok (.aload_n 0, 1) := by decide +kernel
theorem dX7_hire_72 : decode cX7_hire 72 = .ok (.getfield 7, 3) := by decide +kernel
theorem dX7_hire_75 : decode cX7_hire 75 = .ok (.aload_n 0, 1) := by decide +kernel
theorem dX7_hire_76 : decode cX7_hire 76 = .ok (.getfield 67, 3) := by decide +kernel
theorem dX7_hire_79 : decode cX7_hire 79 = .ok (.iload_n 1, 1) := by decide +kernel
theorem dX7_hire_80 : decode cX7_hire 80 = .ok (.iastore, 1) := by decide +kernel
theorem dX7_hire_81 : decode cX7_hire 81 = .ok (.aload_n 0, 1) := by decide +kernel
theorem dX7_hire_82 : decode cX7_hire 82 = .ok (.getfield 13, 3) := by decide +kernel
theorem dX7_hire_85 : decode cX7_hire 85 = .ok (.aload_n 0, 1) := by decide +kernel
theorem dX7_hire_86 : decode cX7_hire 86 = .ok (.getfield 67, 3) := by decide +kernel
theorem dX7_hire_89 : decode cX7_hire 89 = .ok (.iload_n 2, 1) := by decide +kernel
theorem dX7_hire_90 : decode cX7_hire 90 = .ok (.iastore, 1) := by decide +kernel
theorem dX7_hire_91 : decode cX7_hire 91 = .ok (.aload_n 0, 1) := by decide +kernel
theorem dX7_hire_92 : decode cX7_hire 92 = .ok (.getfield 16, 3) := by decide +kernel
theorem dX7_hire_95 : decode cX7_hire 95 = .ok (.aload_n 0, 1) := by decide +kernel
theorem dX7_hire_96 : decode cX7_hire 96 = .ok (.getfield 67, 3) := by decide +kernel
theorem dX7_hire_99 : decode cX7_hire 99 = .ok (.iload_n 3, 1) := by decide +kernel
theorem dX7_hire_100 : decode cX7_hire 100 = .ok (.iastore, 1) := by decide +kernel
theorem dX7_hire_101 : decode cX7_hire 101 = .ok (.aload_n 0, 1) := by decide +kernel
theorem dX7_hire_102 : decode cX7_hire 102 = .ok (.dup, 1) := by decide +kernel
theorem dX7_hire_103 : decode cX7_hire 103 = .ok (.getfield 67, 3) := by decide +kernel
theorem dX7_hire_106 : decode cX7_hire 106 = .ok (.iconst 1, 1) := by decide +kernel
theorem dX7_hire_107 : decode cX7_hire 107 = .ok (.iadd, 1) := by decide +kernel
theorem dX7_hire_108 : decode cX7_hire 108 = .ok (.putfield 67, 3) := by decide +kernel
theorem dX7_hire_111 : decode cX7_hire 111 = .ok (.aload_n 0, 1) := by decide +kernel
theorem dX7_hire_112 : decode cX7_hire 112 = .ok (.getfield 67, 3) := by decide +kernel
theorem dX7_hire_115 : decode cX7_hire 115 = .ok (.iconst 1, 1) := by decide +kernel
theorem dX7_hire_116 : decode cX7_hire 116 = .ok (.isub, 1) := by decide +kernel
theorem dX7_hire_117 : decode cX7_hire 117 = .ok (.ireturn, 1) := by decide +kernel
theorem dX7_puts_0 : decode cX7_puts 0 = .ok (.aload_n 0, 1) := by decide +kernel
theorem dX7_puts_1 : decode cX7_puts 1 = .ok (.getfield 19, 3) := by decide +kernel
theorem dX7_puts_4 : decode cX7_puts 4 = .ok (.iconst 5, 1) := by decide +kernel
theorem dX7_puts_5 : decode cX7_puts 5 = .ok (.iload_n 1, 1) := by decide +kernel
theorem dX7_puts_6 : decode cX7_puts 6 = .ok (.imul, 1) := by decide +kernel
theorem dX7_puts_7 : decode cX7_puts 7 = .ok (.aload_n 0, 1) := by decide +kernel
theorem dX7_puts_8 : decode cX7_puts 8 = .ok (.getfield 25, 3) := by decide +kernel
theorem dX7_puts_11 : decode cX7_puts 11 = .ok (.iload_n 1, 1) := by decide +kernel
theorem dX7_puts_12 : decode cX7_puts 12 = .ok (.iaload, 1) := by decide +kernel
theorem dX7_puts_13 : decode cX7_puts 13 = .ok (.iadd, 1) := by decide +kernel
theorem dX7_puts_14 : decode cX7_puts 14 = .ok (.iload_n 2, 1) := by decide +kernel
theorem dX7_puts_15 : decode cX7_puts 15 = .ok (.iastore, 1) := by decide +kernel
theorem dX7_puts_16 : decode cX7_puts 16 = .ok (.aload_n 0, 1) := by decide +kernel
theorem dX7_puts_17 : decode cX7_puts 17 = .ok (.getfield 22, 3) := by decide +kernel
theorem dX7_puts_20 : decode cX7_puts 20 = .ok (.iconst 5, 1) := by decide +kernel
theorem dX7_puts_21 : decode cX7_puts 21 = .ok (.iload_n 1, 1) := by decide +kernel
theorem dX7_puts_22 : decode cX7_puts 22 = .ok (.imul, 1) := by decide +kernel
theorem dX7_puts_23 : decode cX7_puts 23 = .ok (.aload_n 0, 1) := by decide +kernel
theorem dX7_puts_24 : decode cX7_puts 24 = .ok (.getfield 25, 3) := by decide +kernel
theorem dX7_puts_27 : decode cX7_puts 27 = .ok (.iload_n 1, 1) := by decide +kernel
theorem dX7_puts_28 : decode cX7_puts 28 = .ok (.iaload, 1) := by decide +kernel
theorem dX7_puts_29 : decode cX7_puts 29 = .ok (.iadd, 1) := by decide +kernel
theorem dX7_puts_30 : decode cX7_puts 30 = .ok (.iload_n 3, 1) := by decide +kernel
theorem dX7_puts_31 : decode cX7_puts 31 = .ok (.iastore, 1) := by decide +kernel
theorem dX7_puts_32 : decode cX7_puts 32 = .ok (.aload_n 0, 1) := by decide +kernel
theorem dX7_puts_33 : decode cX7_puts 33 = .ok (.getfield 25, 3) := by decide +kernel
theorem dX7_puts_36 : decode cX7_puts 36 = .ok (.iload_n 1, 1) := by decide +kernel
theorem dX7_puts_37 : decode cX7_puts 37 = .ok (.dup2, 1) := by decide +kernel
theorem dX7_puts_38 : decode cX7_puts 38 = .ok (.iaload, 1) := by decide +kernel
theorem dX7_puts_39 : decode cX7_puts 39 = .ok (.iconst 1, 1) := by decide +kernel
theorem dX7_puts_40 : decode cX7_puts 40 = .ok (.iadd, 1) := by decide +kernel
theorem dX7_puts_41 : decode cX7_puts 41 = .ok (.iastore, 1) := by decide +kernel
theorem dX7_puts_42 : decode cX7_puts 42 = .ok (.return_, 1) := by decide +kernel
theorem dX7_addService_0 : decode cX7_addService 0 = .ok (.aload_n 0, 1) := by decide +kernel
theorem dX7_addService_1 : decode cX7_addService 1 = .ok (.iload_n 1, 1) := by decide +kernel
theorem dX7_addService_2 : decode cX7_addService 2 = .ok (.iconst 0, 1) := by decide +kernel
theorem dX7_addService_3 : decode cX7_addService 3 = .ok (.iconst 3, 1) := by decide +kernel
theorem dX7_addService_4 : decode cX7_addService 4 = .ok (.invokestatic 63, 3) := by decide +kernel
theorem dX7_addService_7 : decode cX7_addService 7 = .ok (.ifCond .eq 14, 3) := by decide +kernel
theorem dX7_addService_10 : decode cX7_addService 10 = .ok (.iload_n 2, 1) := by decide +kernel
theorem dX7_addService_11 : decode cX7_addService 11 = .ok (.iconst 1, 1) := by decide +kernel
theorem dX7_addService_12 : decode cX7_addService 12 = .ok (.sipush 200, 3) := by decide +kernel
theorem dX7_addService_15 : decode cX7_addService 15 = .ok (.invokestatic 63, 3) := by decide +kernel
theorem dX7_addService_18 : decode cX7_addService 18 = .ok (.ifCond .ne 7, 3) := by decide +kernel
theorem dX7_addService_21 : decode cX7_addService 21 = .ok (.iconst 1, 1) := by decide +kernel
theorem dX7_addService_22 : decode cX7_addService 22 = .ok (.goto 17, 3) := by decide +kernel
theorem dX7_addService_25 : decode cX7_addService 25 = .ok (.aload_n 0, 1) := by decide +kernel
theorem dX7_addService_26 : decode cX7_addService 26 = .ok (.getfield 60, 3) := by decide +kernel
theorem dX7_addService_29 : decode cX7_addService 29 = .ok (.bipush 8, 2) := by decide +kernel
theorem dX7_addService_31 : decode cX7_addService 31 = .ok (.if_icmp .ne 7, 3) := by decide +kernel
theorem dX7_addService_34 : decode cX7_addService 34 = .ok (.iconst 2, 1) := by decide +kernel
theorem dX7_addService_35 : decode cX7_addService 35 = .ok (.goto 4, 3) := by decide +kernel
theorem dX7_addService_38 : decode cX7_addService 38 = .ok (.iconst 0, 1) := by decide +kernel
theorem dX7_addService_39 : decode cX7_addService 39 = .ok (.invokevirtual 77, 3) := by decide +kernel
theorem dX7_addService_42 : decode cX7_addService 42 = .ok (.ifCond .ne 5, 3) := by decide +kernel
theorem dX7_addService_45 : decode cX7_addService 45 = .ok (.iconst 0, 1) := by decide +kernel
theorem dX7_addService_46 : decode cX7_addService 46 = .ok (.ireturn, 1) := by decide +kernel
theorem dX7_addService_47 : decode cX7_addService 47 = .ok (.aload_n 0, 1) := by decide +kernel
theorem dX7_addService_48 : decode cX7_addService 48 = .ok (.aload_n 0, 1) := by decide +kernel
theorem dX7_addService_49 : decode cX7_addService 49 = .ok (.getfield 60, 3) := by decide +kernel
theorem dX7_addService_52 : decode cX7_addService 52 = .ok (.iload_n 1, 1) := by decide +kernel
theorem dX7_addService_53 : decode cX7_addService 53 = .ok (.iload_n 2, 1) := by decide +kernel
theorem dX7_addService_54 : decode cX7_addService 54 = .ok (.invokevirtual 80, 3) := by decide +kernel
theorem dX7_addService_57 : decode cX7_addService 57 = .ok (.aload_n 0, 1) := by decide +kernel
theorem dX7_addService_58 : decode cX7_addService 58 = .ok (.dup, 1) := by decide +kernel
theorem dX7_addService_59 : decode cX7_addService 59 = .ok (.getfield 60, 3) := by decide +kernel
theorem dX7_addService_62 : decode cX7_addService 62 = .ok (.iconst 1, 1) := by decide +kernel
theorem dX7_addService_63 : decode cX7_addService 63 = .ok (.iadd, 1) := by decide +kernel
theorem dX7_addService_64 : decode cX7_addService 64 = .ok (.putfield 60, 3) := by decide +kernel
theorem dX7_addService_67 : decode cX7_addService 67 = .ok (.aload_n 0, 1) := by decide +kernel
theorem dX7_addService_68 : decode cX7_addService 68 = .ok (.getfield 60, 3) := by decide +kernel
theorem dX7_addService_71 : decode cX7_addService 71 = .ok (.iconst 1, 1) := by decide +kernel
theorem dX7_addService_72 : decode cX7_addService 72 = .ok (.isub, 1) := by decide +kernel
theorem dX7_addService_73 : decode cX7_addService 73 = .ok (.ireturn, 1) := by decide +kernel
theorem dX7_addStep_0 : decode cX7_addStep 0 = .ok (.aload_n 0, 1) := by decide +kernel
theorem dX7_addStep_1 : decode cX7_addStep 1 = .ok (.iload_n 1, 1) := by decide +kernel
theorem dX7_addStep_2 : decode cX7_addStep 2 = .ok (.invokevirtual 84, 3) := by decide +kernel
theorem dX7_addStep_5 : decode cX7_addStep 5 = .ok (.ifCond .ne 7, 3) := by decide +kernel
theorem dX7_addStep_8 : decode cX7_addStep 8 = .ok (.iconst 1, 1) := by decide +kernel
theorem dX7_addStep_9 : decode cX7_addStep 9 = .ok (.goto 28, 3) := by decide +kernel
theorem dX7_addStep_12 : decode cX7_addStep 12 = .ok (.iload_n 2, 1) := by decide +kernel
theorem dX7_addStep_13 : decode cX7_addStep 13 = .ok (.iconst (-1), 1) := by decide +kernel
theorem dX7_addStep_14 : decode cX7_addStep 14 = .ok (.iconst 3, 1) := by decide +kernel
theorem dX7_addStep_15 : decode cX7_addStep 15 = .ok (.invokestatic 63, 3) := by decide +kernel
theorem dX7_addStep_18 : decode cX7_addStep 18 = .ok (.ifCond .eq 14, 3) := by decide +kernel
theorem dX7_addStep_21 : decode cX7_addStep 21 = .ok (.iload_n 3, 1) := by decide +kernel
theorem dX7_addStep_22 : decode cX7_addStep 22 = .ok (.iconst 1, 1) := by decide +kernel
theorem dX7_addStep_23 : decode cX7_addStep 23 = .ok (.sipush 200, 3) := by decide +kernel
theorem dX7_addStep_26 : decode cX7_addStep 26 = .ok (.invokestatic 63, 3) := by decide +kernel
theorem dX7_addStep_29 : decode cX7_addStep 29 = .ok (.ifCond .ne 7, 3) := by decide +kernel
theorem dX7_addStep_32 : decode cX7_addStep 32 = .ok (.iconst 2, 1) := by decide +kernel
theorem dX7_addStep_33 : decode cX7_addStep 33 = .ok (.goto 4, 3) := by decide +kernel
theorem dX7_addStep_36 : decode cX7_addStep 36 = .ok (.iconst 0, 1) := by decide +kernel
theorem dX7_addStep_37 : decode cX7_addStep 37 = .ok (.istore 4, 2) := by decide +kernel
theorem dX7_addStep_39 : decode cX7_addStep 39 = .ok (.iload 4, 2) := by decide +kernel
theorem dX7_addStep_41 : decode cX7_addStep 41 = .ok (.ifCond .ne 25, 3) := by decide +kernel
theorem dX7_addStep_44 : decode cX7_addStep 44 = .ok (.aload_n 0, 1) := by decide +kernel
theorem dX7_addStep_45 : decode cX7_addStep 45 = .ok (.getfield 25, 3) := by decide +kernel
theorem dX7_addStep_48 : decode cX7_addStep 48 = .ok (.iload_n 1, 1) := by decide +kernel
theorem dX7_addStep_49 : decode cX7_addStep 49 = .ok (.iaload, 1) := by decide +kernel
theorem dX7_addStep_50 : decode cX7_addStep 50 = .ok (.iconst 5, 1) := by decide +kernel
theorem dX7_addStep_51 : decode cX7_addStep 51 = .ok (.if_icmp .eq 12, 3) := by decide +kernel
theorem dX7_addStep_54 : decode cX7_addStep 54 = .ok (.aload_n 0, 1) := by decide +kernel
theorem dX7_addStep_55 : decode cX7_addStep 55 = .ok (.getfield 28, 3) := by decide +kernel
theorem dX7_addStep_58 : decode cX7_addStep 58 = .ok (.iload_n 1, 1) := by decide +kernel
theorem dX7_addStep_59 : decode cX7_addStep 59 = .ok (.baload, 1) := by decide +kernel
theorem dX7_addStep_60 : decode cX7_addStep 60 = .ok (.ifCond .eq 6, 3) := by decide +kernel
theorem dX7_addStep_63 : decode cX7_addStep 63 = .ok (.iconst 3, 1) := by decide +kernel
theorem dX7_addStep_64 : decode cX7_addStep 64 = .ok (.istore 4, 2) := by decide +kernel
theorem dX7_addStep_66 : decode cX7_addStep 66 = .ok (.aload_n 0, 1) := by decide +kernel
theorem dX7_addStep_67 : decode cX7_addStep 67 = .ok (.iload 4, 2) := by decide +kernel
theorem dX7_addStep_69 : decode cX7_addStep 69 = .ok (.invokevirtual 77, 3) := by decide +kernel
theorem dX7_addStep_72 : decode cX7_addStep 72 = .ok (.ifCond .ne 5, 3) := by decide +kernel
theorem dX7_addStep_75 : decode cX7_addStep 75 = .ok (.iconst 0, 1) := by decide +kernel
theorem dX7_addStep_76 : decode cX7_addStep 76 = .ok (.ireturn, 1) := by decide +kernel
theorem dX7_addStep_77 : decode cX7_addStep 77 = .ok (.aload_n 0, 1) := by decide +kernel
theorem dX7_addStep_78 : decode cX7_addStep 78 = .ok (.iload_n 1, 1) := by decide +kernel
theorem dX7_addStep_79 : decode cX7_addStep 79 = .ok (.iload_n 2, 1) := by decide +kernel
theorem dX7_addStep_80 : decode cX7_addStep 80 = .ok (.iload_n 3, 1) := by decide +kernel
theorem dX7_addStep_81 : decode cX7_addStep 81 = .ok (.invokevirtual 80, 3) := by decide +kernel
theorem dX7_addStep_84 : decode cX7_addStep 84 = .ok (.aload_n 0, 1) := by decide +kernel
theorem dX7_addStep_85 : decode cX7_addStep 85 = .ok (.getfield 25, 3) := by decide +kernel
theorem dX7_addStep_88 : decode cX7_addStep 88 = .ok (.iload_n 1, 1) := by decide +kernel
theorem dX7_addStep_89 : decode cX7_addStep 89 = .ok (.iaload, 1) := by decide +kernel
theorem dX7_addStep_90 : decode cX7_addStep 90 = .ok (.ireturn, 1) := by decide +kernel
theorem dX7_addUsual_0 : decode cX7_addUsual 0 = .ok (.aload_n 0, 1) := by decide +kernel
theorem dX7_addUsual_1 : decode cX7_addUsual 1 = .ok (.iload_n 1, 1) := by decide +kernel
theorem dX7_addUsual_2 : decode cX7_addUsual 2 = .ok (.iconst 0, 1) := by decide +kernel
theorem dX7_addUsual_3 : decode cX7_addUsual 3 = .ok (.iconst 3, 1) := by decide +kernel
theorem dX7_addUsual_4 : decode cX7_addUsual 4 = .ok (.invokestatic 63, 3) := by decide +kernel
theorem dX7_addUsual_7 : decode cX7_addUsual 7 = .ok (.ifCond .ne 7, 3) := by decide +kernel
theorem dX7_addUsual_10 : decode cX7_addUsual 10 = .ok (.iconst 1, 1) := by decide +kernel
theorem dX7_addUsual_11 : decode cX7_addUsual 11 = .ok (.goto 17, 3) := by decide +kernel
theorem dX7_addUsual_14 : decode cX7_addUsual 14 = .ok (.aload_n 0, 1) := by decide +kernel
theorem dX7_addUsual_15 : decode cX7_addUsual 15 = .ok (.getfield 60, 3) := by decide +kernel
theorem dX7_addUsual_18 : decode cX7_addUsual 18 = .ok (.bipush 8, 2) := by decide +kernel
theorem dX7_addUsual_20 : decode cX7_addUsual 20 = .ok (.if_icmp .ne 7, 3) := by decide +kernel
theorem dX7_addUsual_23 : decode cX7_addUsual 23 = .ok (.iconst 2, 1) := by decide +kernel
theorem dX7_addUsual_24 : decode cX7_addUsual 24 = .ok (.goto 4, 3) := by decide +kernel
theorem dX7_addUsual_27 : decode cX7_addUsual 27 = .ok (.iconst 0, 1) := by decide +kernel
theorem dX7_addUsual_28 : decode cX7_addUsual 28 = .ok (.invokevirtual 77, 3) := by decide +kernel
theorem dX7_addUsual_31 : decode cX7_addUsual 31 = .ok (.ifCond .ne 5, 3) := by decide +kernel
theorem dX7_addUsual_34 : decode cX7_addUsual 34 = .ok (.iconst 0, 1) := by decide +kernel
theorem dX7_addUsual_35 : decode cX7_addUsual 35 = .ok (.ireturn, 1) := by decide +kernel
theorem dX7_addUsual_36 : decode cX7_addUsual 36 = .ok (.iload_n 1, 1) := by decide +kernel
theorem dX7_addUsual_37 : decode cX7_addUsual 37 = .ok (.ifCond .ne 28, 3) := by decide +kernel
theorem dX7_addUsual_40 : decode cX7_addUsual 40 = .ok (.aload_n 0, 1) := by decide +kernel
theorem dX7_addUsual_41 : decode cX7_addUsual 41 = .ok (.aload_n 0, 1) := by decide +kernel
theorem dX7_addUsual_42 : decode cX7_addUsual 42 = .ok (.getfield 60, 3) := by decide +kernel
theorem dX7_addUsual_45 : decode cX7_addUsual 45 = .ok (.iconst 0, 1) := by decide +kernel
theorem dX7_addUsual_46 : decode cX7_addUsual 46 = .ok (.bipush 10, 2) := by decide +kernel
theorem dX7_addUsual_48 : decode cX7_addUsual 48 = .ok (.invokevirtual 80, 3) := by decide +kernel
theorem dX7_addUsual_51 : decode cX7_addUsual 51 = .ok (.aload_n 0, 1) := by decide +kernel
theorem dX7_addUsual_52 : decode cX7_addUsual 52 = .ok (.aload_n 0, 1) := by decide +kernel
theorem dX7_addUsual_53 : decode cX7_addUsual 53 = .ok (.getfield 60, 3) := by decide +kernel
theorem dX7_addUsual_56 : decode cX7_addUsual 56 = .ok (.iconst 1, 1) := by decide +kernel
theorem dX7_addUsual_57 : decode cX7_addUsual 57 = .ok (.bipush 30, 2) := by decide +kernel
theorem dX7_addUsual_59 : decode cX7_addUsual 59 = .ok (.invokevirtual 80, 3) := by decide +kernel
theorem dX7_addUsual_62 : decode cX7_addUsual 62 = .ok (.goto 107, 3) := by decide +kernel
theorem dX7_addUsual_65 : decode cX7_addUsual 65 = .ok (.iload_n 1, 1) := by decide +kernel
theorem dX7_addUsual_66 : decode cX7_addUsual 66 = .ok (.iconst 1, 1) := by decide +kernel
theorem dX7_addUsual_67 : decode cX7_addUsual 67 = .ok (.if_icmp .ne 50, 3) := by decide +kernel
theorem dX7_addUsual_70 : decode cX7_addUsual 70 = .ok (.aload_n 0, 1) := by decide +kernel
theorem dX7_addUsual_71 : decode cX7_addUsual 71 = .ok (.aload_n 0, 1) := by decide +kernel
theorem dX7_addUsual_72 : decode cX7_addUsual 72 = .ok (.getfield 60, 3) := by decide +kernel
theorem dX7_addUsual_75 : decode cX7_addUsual 75 = .ok (.iconst 2, 1) := by decide +kernel
theorem dX7_addUsual_76 : decode cX7_addUsual 76 = .ok (.bipush 40, 2) := by decide +kernel
theorem dX7_addUsual_78 : decode cX7_addUsual 78 = .ok (.invokevirtual 80, 3) := by decide +kernel
theorem dX7_addUsual_81 : decode cX7_addUsual 81 = .ok (.aload_n 0, 1) := by decide +kernel
theorem dX7_addUsual_82 : decode cX7_addUsual 82 = .ok (.aload_n 0, 1) := by decide +kernel
theorem dX7_addUsual_83 : decode cX7_addUsual 83 = .ok (.getfield 60, 3) := by decide +kernel
theorem dX7_addUsual_86 : decode cX7_addUsual 86 = .ok (.iconst (-1), 1) := by decide +kernel
theorem dX7_addUsual_87 : decode cX7_addUsual 87 = .ok (.bipush 35, 2) := by decide +kernel
theorem dX7_addUsual_89 : decode cX7_addUsual 89 = .ok (.invokevirtual 80, 3) := by decide +kernel
theorem dX7_addUsual_92 : decode cX7_addUsual 92 = .ok (.aload_n 0, 1) := by decide +kernel
theorem dX7_addUsual_93 : decode cX7_addUsual 93 = .ok (.aload_n 0, 1) := by decide +kernel
theorem dX7_addUsual_94 : decode cX7_addUsual 94 = .ok (.getfield 60, 3) := by decide +kernel
theorem dX7_addUsual_97 : decode cX7_addUsual 97 = .ok (.iconst 0, 1) := by decide +kernel
theorem dX7_addUsual_98 : decode cX7_addUsual 98 = .ok (.bipush 10, 2) := by decide +kernel
theorem dX7_addUsual_100 : decode cX7_addUsual 100 = .ok (.invokevirtual 80, 3) := by decide +kernel
theorem dX7_addUsual_103 : decode cX7_addUsual 103 = .ok (.aload_n 0, 1) := by decide +kernel
theorem dX7_addUsual_104 : decode cX7_addUsual 104 = .ok (.aload_n 0, 1) := by decide +kernel
theorem dX7_addUsual_105 : decode cX7_addUsual 105 = .ok (.getfield 60, 3) := by decide +kernel
theorem dX7_addUsual_108 : decode cX7_addUsual 108 = .ok (.iconst 1, 1) := by decide +kernel
theorem dX7_addUsual_109 : decode cX7_addUsual 109 = .ok (.bipush 30, 2) := by decide +kernel
theorem dX7_addUsual_111 : decode cX7_addUsual 111 = .ok (.invokevirtual 80, 3) := by decide +kernel
theorem dX7_addUsual_114 : decode cX7_addUsual 114 = .ok (.goto 55, 3) := by decide +kernel
theorem dX7_addUsual_117 : decode cX7_addUsual 117 = .ok (.iload_n 1, 1) := by decide +kernel
theorem dX7_addUsual_118 : decode cX7_addUsual 118 = .ok (.iconst 2, 1) := by decide +kernel
theorem dX7_addUsual_119 : decode cX7_addUsual 119 = .ok (.if_icmp .ne 39, 3) := by decide +kernel
theorem dX7_addUsual_122 : decode cX7_addUsual 122 = .ok (.aload_n 0, 1) := by decide +kernel
theorem dX7_addUsual_123 : decode cX7_addUsual 123 = .ok (.aload_n 0, 1) := by decide +kernel
theorem dX7_addUsual_124 : decode cX7_addUsual 124 = .ok (.getfield 60, 3) := by decide +kernel
theorem dX7_addUsual_127 : decode cX7_addUsual 127 = .ok (.iconst 3, 1) := by decide +kernel
theorem dX7_addUsual_128 : decode cX7_addUsual 128 = .ok (.bipush 15, 2) := by decide +kernel
theorem dX7_addUsual_130 : decode cX7_addUsual 130 = .ok (.invokevirtual 80, 3) := by decide +kernel
theorem dX7_addUsual_133 : decode cX7_addUsual 133 = .ok (.aload_n 0, 1) := by decide +kernel
theorem dX7_addUsual_134 : decode cX7_addUsual 134 = .ok (.aload_n 0, 1) := by decide +kernel
theorem dX7_addUsual_135 : decode cX7_addUsual 135 = .ok (.getfield 60, 3) := by decide +kernel
theorem dX7_addUsual_138 : decode cX7_addUsual 138 = .ok (.iconst (-1), 1) := by decide +kernel
theorem dX7_addUsual_139 : decode cX7_addUsual 139 = .ok (.bipush 20, 2) := by decide +kernel
theorem dX7_addUsual_141 : decode cX7_addUsual 141 = .ok (.invokevirtual 80, 3) := by decide +kernel
theorem dX7_addUsual_144 : decode cX7_addUsual 144 = .ok (.aload_n 0, 1) := by decide +kernel
theorem dX7_addUsual_145 : decode cX7_addUsual 145 = .ok (.aload_n 0, 1) := by decide +kernel
theorem dX7_addUsual_146 : decode cX7_addUsual 146 = .ok (.getfield 60, 3) := by decide +kernel
theorem dX7_addUsual_149 : decode cX7_addUsual 149 = .ok (.iconst 0, 1) := by decide +kernel
theorem dX7_addUsual_150 : decode cX7_addUsual 150 = .ok (.bipush 10, 2) := by decide +kernel
theorem dX7_addUsual_152 : decode cX7_addUsual 152 = .ok (.invokevirtual 80, 3) := by decide +kernel
theorem dX7_addUsual_155 : decode cX7_addUsual 155 = .ok (.goto 14, 3) := by decide +kernel
theorem dX7_addUsual_158 : decode cX7_addUsual 158 = .ok (.aload_n 0, 1) := by decide +kernel
theorem dX7_addUsual_159 : decode cX7_addUsual 159 = .ok (.aload_n 0, 1) := by decide +kernel
theorem dX7_addUsual_160 : decode cX7_addUsual 160 = .ok (.getfield 60, 3) := by decide +kernel
theorem dX7_addUsual_163 : decode cX7_addUsual 163 = .ok (.iconst 1, 1) := by decide +kernel
theorem dX7_addUsual_164 : decode cX7_addUsual 164 = .ok (.bipush 20, 2) := by decide +kernel
theorem dX7_addUsual_166 : decode cX7_addUsual 166 = .ok (.invokevirtual 80, 3) := by decide +kernel
theorem dX7_addUsual_169 : decode cX7_addUsual 169 = .ok (.aload_n 0, 1) := by decide +kernel
theorem dX7_addUsual_170 : decode cX7_addUsual 170 = .ok (.dup, 1) := by decide +kernel
theorem dX7_addUsual_171 : decode cX7_addUsual 171 = .ok (.getfield 60, 3) := by decide +kernel
theorem dX7_addUsual_174 : decode cX7_addUsual 174 = .ok (.iconst 1, 1) := by decide +kernel
theorem dX7_addUsual_175 : decode cX7_addUsual 175 = .ok (.iadd, 1) := by decide +kernel
theorem dX7_addUsual_176 : decode cX7_addUsual 176 = .ok (.putfield 60, 3) := by decide +kernel
theorem dX7_addUsual_179 : decode cX7_addUsual 179 = .ok (.aload_n 0, 1) := by decide +kernel
theorem dX7_addUsual_180 : decode cX7_addUsual 180 = .ok (.getfield 60, 3) := by decide +kernel
theorem dX7_addUsual_183 : decode cX7_addUsual 183 = .ok (.iconst 1, 1) := by decide +kernel
theorem dX7_addUsual_184 : decode cX7_addUsual 184 = .ok (.isub, 1) := by decide +kernel
theorem dX7_addUsual_185 : decode cX7_addUsual 185 = .ok (.ireturn, 1) := by decide +kernel
theorem dX7_length_0 : decode cX7_length 0 = .ok (.iconst 0, 1) := by decide +kernel
theorem dX7_length_1 : decode cX7_length 1 = .ok (.istore_n 2, 1) := by decide +kernel
theorem dX7_length_2 : decode cX7_length 2 = .ok (.iconst 0, 1) := by decide +kernel
theorem dX7_length_3 : decode cX7_length 3 = .ok (.istore_n 3, 1) := by decide +kernel
theorem dX7_length_4 : decode cX7_length 4 = .ok (.iload_n 3, 1) := by decide +kernel
theorem dX7_length_5 : decode cX7_length 5 = .ok (.aload_n 0, 1) := by decide +kernel
theorem dX7_length_6 : decode cX7_length 6 = .ok (.getfield 25, 3) := by decide +kernel
theorem dX7_length_9 : decode cX7_length 9 = .ok (.iload_n 1, 1) := by decide +kernel
theorem dX7_length_10 : decode cX7_length 10 = .ok (.iaload, 1) := by decide +kernel
theorem dX7_length_11 : decode cX7_length 11 = .ok (.if_icmp .ge 22, 3) := by decide +kernel
theorem dX7_length_14 : decode cX7_length 14 = .ok (.iload_n 2, 1) := by decide +kernel
theorem dX7_length_15 : decode cX7_length 15 = .ok (.aload_n 0, 1) := by decide +kernel
theorem dX7_length_16 : decode cX7_length 16 = .ok (.getfield 22, 3) := by decide +kernel
theorem dX7_length_19 : decode cX7_length 19 = .ok (.iconst 5, 1) := by decide +kernel
theorem dX7_length_20 : decode cX7_length 20 = .ok (.iload_n 1, 1) := by decide +kernel
theorem dX7_length_21 : decode cX7_length 21 = .ok (.imul, 1) := by decide +kernel
theorem dX7_length_22 : decode cX7_length 22 = .ok (.iload_n 3, 1) := by decide +kernel
theorem dX7_length_23 : decode cX7_length 23 = .ok (.iadd, 1) := by decide +kernel
theorem dX7_length_24 : decode cX7_length 24 = .ok (.iaload, 1) := by decide +kernel
theorem dX7_length_25 : decode cX7_length 25 = .ok (.iadd, 1) := by decide +kernel
theorem dX7_length_26 : decode cX7_length 26 = .ok (.istore_n 2, 1) := by decide +kernel
theorem dX7_length_27 : decode cX7_length 27 = .ok (.iinc 3 1, 3) := by decide +kernel
theorem dX7_length_30 : decode cX7_length 30 = .ok (.goto (-26), 3) := by decide +kernel
theorem dX7_length_33 : decode cX7_length 33 = .ok (.iload_n 2, 1) := by decide +kernel
theorem dX7_length_34 : decode cX7_length 34 = .ok (.ireturn, 1) := by decide +kernel
theorem dX7_work_0 : decode cX7_work 0 = .ok (.iconst 0, 1) := by decide +kernel
theorem dX7_work_1 : decode cX7_work 1 = .ok (.istore_n 2, 1) := by decide +kernel
theorem dX7_work_2 : decode cX7_work 2 = .ok (.iconst 0, 1) := by decide +kernel
theorem dX7_work_3 : decode cX7_work 3 = .ok (.istore_n 3, 1) := by decide +kernel
theorem dX7_work_4 : decode cX7_work 4 = .ok (.iload_n 3, 1) := by decide +kernel
theorem dX7_work_5 : decode cX7_work 5 = .ok (.aload_n 0, 1) := by decide +kernel
theorem dX7_work_6 : decode cX7_work 6 = .ok (.getfield 25, 3) := by decide +kernel
theorem dX7_work_9 : decode cX7_work 9 = .ok (.iload_n 1, 1) := by decide +kernel
theorem dX7_work_10 : decode cX7_work 10 = .ok (.iaload, 1) := by decide +kernel
theorem dX7_work_11 : decode cX7_work 11 = .ok (.if_icmp .ge 40, 3) := by decide +kernel
theorem dX7_work_14 : decode cX7_work 14 = .ok (.iload_n 2, 1) := by decide +kernel
theorem dX7_work_15 : decode cX7_work 15 = .ok (.aload_n 0, 1) := by decide +kernel
theorem dX7_work_16 : decode cX7_work 16 = .ok (.getfield 19, 3) := by decide +kernel
theorem dX7_work_19 : decode cX7_work 19 = .ok (.iconst 5, 1) := by decide +kernel
theorem dX7_work_20 : decode cX7_work 20 = .ok (.iload_n 1, 1) := by decide +kernel
theorem dX7_work_21 : decode cX7_work 21 = .ok (.imul, 1) := by decide +kernel
theorem dX7_work_22 : decode cX7_work 22 = .ok (.iload_n 3, 1) := by decide +kernel
theorem dX7_work_23 : decode cX7_work 23 = .ok (.iadd, 1) := by decide +kernel
theorem dX7_work_24 : decode cX7_work 24 = .ok (.iaload, 1) := by decide +kernel
theorem dX7_work_25 : decode cX7_work 25 = .ok (.iconst (-1), 1) := by decide +kernel
theorem dX7_work_26 : decode cX7_work 26 = .ok (.if_icmp .ne 7, 3) := by decide +kernel
theorem dX7_work_29 : decode cX7_work 29 = .ok (.iconst 0, 1) := by decide +kernel
theorem dX7_work_30 : decode cX7_work 30 = .ok (.goto 13, 3) := by decide +kernel
theorem dX7_work_33 : decode cX7_work 33 = .ok (.aload_n 0, 1) := by decide +kernel
theorem dX7_work_34 : decode cX7_work 34 = .ok (.getfield 22, 3) := by decide +kernel
theorem dX7_work_37 : decode cX7_work 37 = .ok (.iconst 5, 1) := by decide +kernel
theorem dX7_work_38 : decode cX7_work 38 = .ok (.iload_n 1, 1) := by decide +kernel
theorem dX7_work_39 : decode cX7_work 39 = .ok (.imul, 1) := by decide +kernel
theorem dX7_work_40 : decode cX7_work 40 = .ok (.iload_n 3, 1) := by decide +kernel
theorem dX7_work_41 : decode cX7_work 41 = .ok (.iadd, 1) := by decide +kernel
theorem dX7_work_42 : decode cX7_work 42 = .ok (.iaload, 1) := by decide +kernel
theorem dX7_work_43 : decode cX7_work 43 = .ok (.iadd, 1) := by decide +kernel
theorem dX7_work_44 : decode cX7_work 44 = .ok (.istore_n 2, 1) := by decide +kernel
theorem dX7_work_45 : decode cX7_work 45 = .ok (.iinc 3 1, 3) := by decide +kernel
theorem dX7_work_48 : decode cX7_work 48 = .ok (.goto (-44), 3) := by decide +kernel
theorem dX7_work_51 : decode cX7_work 51 = .ok (.iload_n 2, 1) := by decide +kernel
theorem dX7_work_52 : decode cX7_work 52 = .ok (.ireturn, 1) := by decide +kernel
theorem dX7_asked_0 : decode cX7_asked 0 = .ok (.iconst 0, 1) := by decide +kernel
theorem dX7_asked_1 : decode cX7_asked 1 = .ok (.istore_n 2, 1) := by decide +kernel
theorem dX7_asked_2 : decode cX7_asked 2 = .ok (.iconst 0, 1) := by decide +kernel
theorem dX7_asked_3 : decode cX7_asked 3 = .ok (.istore_n 3, 1) := by decide +kernel
theorem dX7_asked_4 : decode cX7_asked 4 = .ok (.iload_n 3, 1) := by decide +kernel
theorem dX7_asked_5 : decode cX7_asked 5 = .ok (.aload_n 0, 1) := by decide +kernel
theorem dX7_asked_6 : decode cX7_asked 6 = .ok (.getfield 25, 3) := by decide +kernel
theorem dX7_asked_9 : decode cX7_asked 9 = .ok (.iload_n 1, 1) := by decide +kernel
theorem dX7_asked_10 : decode cX7_asked 10 = .ok (.iaload, 1) := by decide +kernel
theorem dX7_asked_11 : decode cX7_asked 11 = .ok (.if_icmp .ge 38, 3) := by decide +kernel
theorem dX7_asked_14 : decode cX7_asked 14 = .ok (.aload_n 0, 1) := by decide +kernel
theorem dX7_asked_15 : decode cX7_asked 15 = .ok (.getfield 19, 3) := by decide +kernel
theorem dX7_asked_18 : decode cX7_asked 18 = .ok (.iconst 5, 1) := by decide +kernel
theorem dX7_asked_19 : decode cX7_asked 19 = .ok (.iload_n 1, 1) := by decide +kernel
theorem dX7_asked_20 : decode cX7_asked 20 = .ok (.imul, 1) := by decide +kernel
theorem dX7_asked_21 : decode cX7_asked 21 = .ok (.iload_n 3, 1) := by decide +kernel
theorem dX7_asked_22 : decode cX7_asked 22 = .ok (.iadd, 1) := by decide +kernel
theorem dX7_asked_23 : decode cX7_asked 23 = .ok (.iaload, 1) := by decide +kernel
theorem dX7_asked_24 : decode cX7_asked 24 = .ok (.istore 4, 2) := by decide +kernel
theorem dX7_asked_26 : decode cX7_asked 26 = .ok (.iload_n 2, 1) := by decide +kernel
theorem dX7_asked_27 : decode cX7_asked 27 = .ok (.iload 4, 2) := by decide +kernel
theorem dX7_asked_29 : decode cX7_asked 29 = .ok (.iconst (-1), 1) := by decide +kernel
theorem dX7_asked_30 : decode cX7_asked 30 = .ok (.if_icmp .ne 7, 3) := by decide +kernel
theorem dX7_asked_33 : decode cX7_asked 33 = .ok (.iconst 0, 1) := by decide +kernel
theorem dX7_asked_34 : decode cX7_asked 34 = .ok (.goto 7, 3) := by decide +kernel
theorem dX7_asked_37 : decode cX7_asked 37 = .ok (.iconst 1, 1) := by decide +kernel
theorem dX7_asked_38 : decode cX7_asked 38 = .ok (.iload 4, 2) := by decide +kernel
theorem dX7_asked_40 : decode cX7_asked 40 = .ok (.ishl, 1) := by decide +kernel
theorem dX7_asked_41 : decode cX7_asked 41 = .ok (.ior, 1) := by decide +kernel
theorem dX7_asked_42 : decode cX7_asked 42 = .ok (.istore_n 2, 1) := by decide +kernel
theorem dX7_asked_43 : decode cX7_asked 43 = .ok (.iinc 3 1, 3) := by decide +kernel
theorem dX7_asked_46 : decode cX7_asked 46 = .ok (.goto (-42), 3) := by decide +kernel
theorem dX7_asked_49 : decode cX7_asked 49 = .ok (.iload_n 2, 1) := by decide +kernel
theorem dX7_asked_50 : decode cX7_asked 50 = .ok (.ireturn, 1) := by decide +kernel
theorem dX7_canTake_0 : decode cX7_canTake 0 = .ok (.iload_n 3, 1) := by decide +kernel
theorem dX7_canTake_1 : decode cX7_canTake 1 = .ok (.aload_n 0, 1) := by decide +kernel
theorem dX7_canTake_2 : decode cX7_canTake 2 = .ok (.iload_n 2, 1) := by decide +kernel
theorem dX7_canTake_3 : decode cX7_canTake 3 = .ok (.invokevirtual 87, 3) := by decide +kernel
theorem dX7_canTake_6 : decode cX7_canTake 6 = .ok (.iadd, 1) := by decide +kernel
theorem dX7_canTake_7 : decode cX7_canTake 7 = .ok (.istore 4, 2) := by decide +kernel
theorem dX7_canTake_9 : decode cX7_canTake 9 = .ok (.aload_n 0, 1) := by decide +kernel
theorem dX7_canTake_10 : decode cX7_canTake 10 = .ok (.iload_n 2, 1) := by decide +kernel
theorem dX7_canTake_11 : decode cX7_canTake 11 = .ok (.invokevirtual 91, 3) := by decide +kernel
theorem dX7_canTake_14 : decode cX7_canTake 14 = .ok (.aload_n 0, 1) := by decide +kernel
theorem dX7_canTake_15 : decode cX7_canTake 15 = .ok (.getfield 7, 3) := by decide +kernel
theorem dX7_canTake_18 : decode cX7_canTake 18 = .ok (.iload_n 1, 1) := by decide +kernel
theorem dX7_canTake_19 : decode cX7_canTake 19 = .ok (.iaload, 1) := by decide +kernel
theorem dX7_canTake_20 : decode cX7_canTake 20 = .ok (.iconst (-1), 1) := by decide +kernel
theorem dX7_canTake_21 : decode cX7_canTake 21 = .ok (.ixor, 1) := by decide +kernel
theorem dX7_canTake_22 : decode cX7_canTake 22 = .ok (.iand, 1) := by decide +kernel
theorem dX7_canTake_23 : decode cX7_canTake 23 = .ok (.ifCond .ne 28, 3) := by decide +kernel
theorem dX7_canTake_26 : decode cX7_canTake 26 = .ok (.iload_n 3, 1) := by decide +kernel
theorem dX7_canTake_27 : decode cX7_canTake 27 = .ok (.aload_n 0, 1) := by decide +kernel
theorem dX7_canTake_28 : decode cX7_canTake 28 = .ok (.getfield 13, 3) := by decide +kernel
theorem dX7_canTake_31 : decode cX7_canTake 31 = .ok (.iload_n 1, 1) := by decide +kernel
theorem dX7_canTake_32 : decode cX7_canTake 32 = .ok (.iaload, 1) := by decide +kernel
theorem dX7_canTake_33 : decode cX7_canTake 33 = .ok (.if_icmp .lt 18, 3) := by decide +kernel
theorem dX7_canTake_36 : decode cX7_canTake 36 = .ok (.iload 4, 2) := by decide +kernel
theorem dX7_canTake_38 : decode cX7_canTake 38 = .ok (.aload_n 0, 1) := by decide +kernel
theorem dX7_canTake_39 : decode cX7_canTake 39 = .ok (.getfield 16, 3) := by decide +kernel
theorem dX7_canTake_42 : decode cX7_canTake 42 = .ok (.iload_n 1, 1) := by decide +kernel
theorem dX7_canTake_43 : decode cX7_canTake 43 = .ok (.iaload, 1) := by decide +kernel
theorem dX7_canTake_44 : decode cX7_canTake 44 = .ok (.if_icmp .gt 7, 3) := by decide +kernel
theorem dX7_canTake_47 : decode cX7_canTake 47 = .ok (.iconst 1, 1) := by decide +kernel
theorem dX7_canTake_48 : decode cX7_canTake 48 = .ok (.goto 4, 3) := by decide +kernel
theorem dX7_canTake_51 : decode cX7_canTake 51 = .ok (.iconst 0, 1) := by decide +kernel
theorem dX7_canTake_52 : decode cX7_canTake 52 = .ok (.istore 5, 2) := by decide +kernel
theorem dX7_canTake_54 : decode cX7_canTake 54 = .ok (.iload_n 3, 1) := by decide +kernel
theorem dX7_canTake_55 : decode cX7_canTake 55 = .ok (.istore 6, 2) := by decide +kernel
theorem dX7_canTake_57 : decode cX7_canTake 57 = .ok (.iconst 0, 1) := by decide +kernel
theorem dX7_canTake_58 : decode cX7_canTake 58 = .ok (.istore 7, 2) := by decide +kernel
theorem dX7_canTake_60 : decode cX7_canTake 60 = .ok (.iload 7, 2) := by decide +kernel
theorem dX7_canTake_62 : decode cX7_canTake 62 = .ok (.aload_n 0, 1) := by decide +kernel
theorem dX7_canTake_63 : decode cX7_canTake 63 = .ok (.getfield 25, 3) := by decide +kernel
theorem dX7_canTake_66 : decode cX7_canTake 66 = .ok (.iload_n 2, 1) := by decide +kernel
theorem dX7_canTake_67 : decode cX7_canTake 67 = .ok (.iaload, 1) := by decide +kernel
theorem dX7_canTake_68 : decode cX7_canTake 68 = .ok (.if_icmp .ge 86, 3) := by decide +kernel
theorem dX7_canTake_71 : decode cX7_canTake 71 = .ok (.iload 5, 2) := by decide +kernel
theorem dX7_canTake_73 : decode cX7_canTake 73 = .ok (.ifCond .eq 81, 3) := by decide +kernel
theorem dX7_canTake_76 : decode cX7_canTake 76 = .ok (.iconst 0, 1) := by decide +kernel
theorem dX7_canTake_77 : decode cX7_canTake 77 = .ok (.istore 8, 2) := by decide +kernel
theorem dX7_canTake_79 : decode cX7_canTake 79 = .ok (.iload 8, 2) := by decide +kernel
theorem dX7_canTake_81 : decode cX7_canTake 81 = .ok (.aload_n 0, 1) := by decide +kernel
theorem dX7_canTake_82 : decode cX7_canTake 82 = .ok (.getfield 22, 3) := by decide +kernel
theorem dX7_canTake_85 : decode cX7_canTake 85 = .ok (.iconst 5, 1) := by decide +kernel
theorem dX7_canTake_86 : decode cX7_canTake 86 = .ok (.iload_n 2, 1) := by decide +kernel
theorem dX7_canTake_87 : decode cX7_canTake 87 = .ok (.imul, 1) := by decide +kernel
theorem dX7_canTake_88 : decode cX7_canTake 88 = .ok (.iload 7, 2) := by decide +kernel
theorem dX7_canTake_90 : decode cX7_canTake 90 = .ok (.iadd, 1) := by decide +kernel
theorem dX7_canTake_91 : decode cX7_canTake 91 = .ok (.iaload, 1) := by decide +kernel
theorem dX7_canTake_92 : decode cX7_canTake 92 = .ok (.if_icmp .ge 56, 3) := by decide +kernel
theorem dX7_canTake_95 : decode cX7_canTake 95 = .ok (.iload 5, 2) := by decide +kernel
theorem dX7_canTake_97 : decode cX7_canTake 97 = .ok (.ifCond .eq 39, 3) := by decide +kernel
theorem dX7_canTake_100 : decode cX7_canTake 100 = .ok (.aload_n 0, 1) := by decide +kernel
theorem dX7_canTake_101 : decode cX7_canTake 101 = .ok (.getfield 19, 3) := by decide +kernel
theorem dX7_canTake_104 : decode cX7_canTake 104 = .ok (.iconst 5, 1) := by decide +kernel
theorem dX7_canTake_105 : decode cX7_canTake 105 = .ok (.iload_n 2, 1) := by decide +kernel
theorem dX7_canTake_106 : decode cX7_canTake 106 = .ok (.imul, 1) := by decide +kernel
theorem dX7_canTake_107 : decode cX7_canTake 107 = .ok (.iload 7, 2) := by decide +kernel
theorem dX7_canTake_109 : decode cX7_canTake 109 = .ok (.iadd, 1) := by decide +kernel
theorem dX7_canTake_110 : decode cX7_canTake 110 = .ok (.iaload, 1) := by decide +kernel
theorem dX7_canTake_111 : decode cX7_canTake 111 = .ok (.iconst (-1), 1) := by decide +kernel
theorem dX7_canTake_112 : decode cX7_canTake 112 = .ok (.if_icmp .eq 20, 3) := by decide +kernel
theorem dX7_canTake_115 : decode cX7_canTake 115 = .ok (.aload_n 0, 1) := by decide +kernel
theorem dX7_canTake_116 : decode cX7_canTake 116 = .ok (.getfield 44, 3) := by decide +kernel
theorem dX7_canTake_119 : decode cX7_canTake 119 = .ok (.sipush 600, 3) := by decide +kernel
theorem dX7_canTake_122 : decode cX7_canTake 122 = .ok (.iload_n 1, 1) := by decide +kernel
theorem dX7_canTake_123 : decode cX7_canTake 123 = .ok (.imul, 1) := by decide +kernel
theorem dX7_canTake_124 : decode cX7_canTake 124 = .ok (.iload 6, 2) := by decide +kernel
theorem dX7_canTake_126 : decode cX7_canTake 126 = .ok (.iadd, 1) := by decide +kernel
theorem dX7_canTake_127 : decode cX7_canTake 127 = .ok (.iaload, 1) := by decide +kernel
theorem dX7_canTake_128 : decode cX7_canTake 128 = .ok (.iconst (-1), 1) := by decide +kernel
theorem dX7_canTake_129 : decode cX7_canTake 129 = .ok (.if_icmp .ne 7, 3) := by decide +kernel
theorem dX7_canTake_132 : decode cX7_canTake 132 = .ok (.iconst 1, 1) := by decide +kernel
theorem dX7_canTake_133 : decode cX7_canTake 133 = .ok (.goto 4, 3) := by decide +kernel
theorem dX7_canTake_136 : decode cX7_canTake 136 = .ok (.iconst 0, 1) := by decide +kernel
theorem dX7_canTake_137 : decode cX7_canTake 137 = .ok (.istore 5, 2) := by decide +kernel
theorem dX7_canTake_139 : decode cX7_canTake 139 = .ok (.iinc 6 1, 3) := by decide +kernel
theorem dX7_canTake_142 : decode cX7_canTake 142 = .ok (.iinc 8 1, 3) := by decide +kernel
theorem dX7_canTake_145 : decode cX7_canTake 145 = .ok (.goto (-66), 3) := by decide +kernel
theorem dX7_canTake_148 : decode cX7_canTake 148 = .ok (.iinc 7 1, 3) := by decide +kernel
theorem dX7_canTake_151 : decode cX7_canTake 151 = .ok (.goto (-91), 3) := by decide +kernel
theorem dX7_canTake_154 : decode cX7_canTake 154 = .ok (.iload 5, 2) := by decide +kernel
theorem dX7_canTake_156 : decode cX7_canTake 156 = .ok (.ireturn, 1) := by decide +kernel
theorem dX7_chairFor_0 : decode cX7_chairFor 0 = .ok (.iload_n 2, 1) := by decide +kernel
theorem dX7_chairFor_1 : decode cX7_chairFor 1 = .ok (.aload_n 0, 1) := by decide +kernel
theorem dX7_chairFor_2 : decode cX7_chairFor 2 = .ok (.iload_n 1, 1) := by decide +kernel
theorem dX7_chairFor_3 : decode cX7_chairFor 3 = .ok (.invokevirtual 87, 3) := by decide +kernel
theorem dX7_chairFor_6 : decode cX7_chairFor 6 = .ok (.iadd, 1) := by decide +kernel
theorem dX7_chairFor_7 : decode cX7_chairFor 7 = .ok (.istore_n 3, 1) := by decide +kernel
theorem dX7_chairFor_8 : decode cX7_chairFor 8 = .ok (.iload_n 3, 1) := by decide +kernel
theorem dX7_chairFor_9 : decode cX7_chairFor 9 = .ok (.sipush 600, 3) := by decide +kernel
theorem dX7_chairFor_12 : decode cX7_chairFor 12 = .ok (.if_icmp .le 5, 3) := by decide +kernel
theorem dX7_chairFor_15 : decode cX7_chairFor 15 = .ok (.iconst (-1), 1) := by decide +kernel
theorem dX7_chairFor_16 : decode cX7_chairFor 16 = .ok (.ireturn, 1) := by decide +kernel
theorem dX7_chairFor_17 : decode cX7_chairFor 17 = .ok (.iconst 0, 1) := by decide +kernel
theorem dX7_chairFor_18 : decode cX7_chairFor 18 = .ok (.istore 4, 2) := by decide +kernel
theorem dX7_chairFor_20 : decode cX7_chairFor 20 = .ok (.iload 4, 2) := by decide +kernel
theorem dX7_chairFor_22 : decode cX7_chairFor 22 = .ok (.iconst 4, 1) := by decide +kernel
theorem dX7_chairFor_23 : decode cX7_chairFor 23 = .ok (.if_icmp .ge 65, 3) := by decide +kernel
theorem dX7_chairFor_26 : decode cX7_chairFor 26 = .ok (.iconst 1, 1) := by decide +kernel
theorem dX7_chairFor_27 : decode cX7_chairFor 27 = .ok (.istore 5, 2) := by decide +kernel
theorem dX7_chairFor_29 : decode cX7_chairFor 29 = .ok (.iload_n 2, 1) := by decide +kernel
theorem dX7_chairFor_30 : decode cX7_chairFor 30 = .ok (.istore 6, 2) := by decide +kernel
theorem dX7_chairFor_32 : decode cX7_chairFor 32 = .ok (.iload 6, 2) := by decide +kernel
theorem dX7_chairFor_34 : decode cX7_chairFor 34 = .ok (.iload_n 3, 1) := by decide +kernel
theorem dX7_chairFor_35 : decode cX7_chairFor 35 = .ok (.if_icmp .ge 39, 3) := by decide +kernel
theorem dX7_chairFor_38 : decode cX7_chairFor 38 = .ok (.iload 5, 2) := by decide +kernel
theorem dX7_chairFor_40 : decode cX7_chairFor 40 = .ok (.ifCond .eq 25, 3) := by decide +kernel
theorem dX7_chairFor_43 : decode cX7_chairFor 43 = .ok (.aload_n 0, 1) := by decide +kernel
theorem dX7_chairFor_44 : decode cX7_chairFor 44 = .ok (.getfield 47, 3) := by decide +kernel
theorem dX7_chairFor_47 : decode cX7_chairFor 47 = .ok (.sipush 600, 3) := by decide +kernel
theorem dX7_chairFor_50 : decode cX7_chairFor 50 = .ok (.iload 4, 2) := by decide +kernel
theorem dX7_chairFor_52 : decode cX7_chairFor 52 = .ok (.imul, 1) := by decide +kernel
theorem dX7_chairFor_53 : decode cX7_chairFor 53 = .ok (.iload 6, 2) := by decide +kernel
theorem dX7_chairFor_55 : decode cX7_chairFor 55 = .ok (.iadd, 1) := by decide +kernel
theorem dX7_chairFor_56 : decode cX7_chairFor 56 = .ok (.iaload, 1) := by decide +kernel
theorem dX7_chairFor_57 : decode cX7_chairFor 57 = .ok (.iconst (-1), 1) := by decide +kernel
theorem dX7_chairFor_58 : decode cX7_chairFor 58 = .ok (.if_icmp .ne 7, 3) := by decide +kernel
theorem dX7_chairFor_61 : decode cX7_chairFor 61 = .ok (.iconst 1, 1) := by decide +kernel
theorem dX7_chairFor_62 : decode cX7_chairFor 62 = .ok (.goto 4, 3) := by decide +kernel
theorem dX7_chairFor_65 : decode cX7_chairFor 65 = .ok (.iconst 0, 1) := by decide +kernel
theorem dX7_chairFor_66 : decode cX7_chairFor 66 = .ok (.istore 5, 2) := by decide +kernel
theorem dX7_chairFor_68 : decode cX7_chairFor 68 = .ok (.iinc 6 1, 3) := by decide +kernel
theorem dX7_chairFor_71 : decode cX7_chairFor 71 = .ok (.goto (-39), 3) := by decide +kernel
theorem dX7_chairFor_74 : decode cX7_chairFor 74 = .ok (.iload 5, 2) := by decide +kernel
theorem dX7_chairFor_76 : decode cX7_chairFor 76 = .ok (.ifCond .eq 6, 3) := by decide +kernel
theorem dX7_chairFor_79 : decode cX7_chairFor 79 = .ok (.iload 4, 2) := by decide +kernel
theorem dX7_chairFor_81 : decode cX7_chairFor 81 = .ok (.ireturn, 1) := by decide +kernel
theorem dX7_chairFor_82 : decode cX7_chairFor 82 = .ok (.iinc 4 1, 3) := by decide +kernel
theorem dX7_chairFor_85 : decode cX7_chairFor 85 = .ok (.goto (-65), 3) := by decide +kernel
theorem dX7_chairFor_88 : decode cX7_chairFor 88 = .ok (.iconst (-1), 1) := by decide +kernel
theorem dX7_chairFor_89 : decode cX7_chairFor 89 = .ok (.ireturn, 1) := by decide +kernel
theorem dX7_load_0 : decode cX7_load 0 = .ok (.iconst 0, 1) := by decide +kernel
theorem dX7_load_1 : decode cX7_load 1 = .ok (.istore_n 2, 1) := by decide +kernel
theorem dX7_load_2 : decode cX7_load 2 = .ok (.iconst 0, 1) := by decide +kernel
theorem dX7_load_3 : decode cX7_load 3 = .ok (.istore_n 3, 1) := by decide +kernel
theorem dX7_load_4 : decode cX7_load 4 = .ok (.iload_n 3, 1) := by decide +kernel
theorem dX7_load_5 : decode cX7_load 5 = .ok (.aload_n 0, 1) := by decide +kernel
theorem dX7_load_6 : decode cX7_load 6 = .ok (.getfield 70, 3) := by decide +kernel
theorem dX7_load_9 : decode cX7_load 9 = .ok (.if_icmp .ge 46, 3) := by decide +kernel
theorem dX7_load_12 : decode cX7_load 12 = .ok (.iload_n 2, 1) := by decide +kernel
theorem dX7_load_13 : decode cX7_load 13 = .ok (.aload_n 0, 1) := by decide +kernel
theorem dX7_load_14 : decode cX7_load 14 = .ok (.getfield 41, 3) := by decide +kernel
theorem dX7_load_17 : decode cX7_load 17 = .ok (.iload_n 3, 1) := by decide +kernel
theorem dX7_load_18 : decode cX7_load 18 = .ok (.iaload, 1) := by decide +kernel
theorem dX7_load_19 : decode cX7_load 19 = .ok (.iconst (-1), 1) := by decide +kernel
theorem dX7_load_20 : decode cX7_load 20 = .ok (.if_icmp .eq 26, 3) := by decide +kernel
theorem dX7_load_23 : decode cX7_load 23 = .ok (.aload_n 0, 1) := by decide +kernel
theorem dX7_load_24 : decode cX7_load 24 = .ok (.getfield 35, 3) := by decide +kernel
theorem dX7_load_27 : decode cX7_load 27 = .ok (.iload_n 3, 1) := by decide +kernel
theorem dX7_load_28 : decode cX7_load 28 = .ok (.iaload, 1) := by decide +kernel
theorem dX7_load_29 : decode cX7_load 29 = .ok (.iload_n 1, 1) := by decide +kernel
theorem dX7_load_30 : decode cX7_load 30 = .ok (.if_icmp .ne 16, 3) := by decide +kernel
theorem dX7_load_33 : decode cX7_load 33 = .ok (.aload_n 0, 1) := by decide +kernel
theorem dX7_load_34 : decode cX7_load 34 = .ok (.aload_n 0, 1) := by decide +kernel
theorem dX7_load_35 : decode cX7_load 35 = .ok (.getfield 32, 3) := by decide +kernel
theorem dX7_load_38 : decode cX7_load 38 = .ok (.iload_n 3, 1) := by decide +kernel
theorem dX7_load_39 : decode cX7_load 39 = .ok (.iaload, 1) := by decide +kernel
theorem dX7_load_40 : decode cX7_load 40 = .ok (.invokevirtual 94, 3) := by decide +kernel
theorem dX7_load_43 : decode cX7_load 43 = .ok (.goto 4, 3) := by decide +kernel
theorem dX7_load_46 : decode cX7_load 46 = .ok (.iconst 0, 1) := by decide +kernel
theorem dX7_load_47 : decode cX7_load 47 = .ok (.iadd, 1) := by decide +kernel
theorem dX7_load_48 : decode cX7_load 48 = .ok (.istore_n 2, 1) := by decide +kernel
theorem dX7_load_49 : decode cX7_load 49 = .ok (.iinc 3 1, 3) := by decide +kernel
theorem dX7_load_52 : decode cX7_load 52 = .ok (.goto (-48), 3) := by decide +kernel
theorem dX7_load_55 : decode cX7_load 55 = .ok (.iload_n 2, 1) := by decide +kernel
theorem dX7_load_56 : decode cX7_load 56 = .ok (.ireturn, 1) := by decide +kernel
theorem dX7_takerOf_0 : decode cX7_takerOf 0 = .ok (.iconst (-1), 1) := by decide +kernel
theorem dX7_takerOf_1 : decode cX7_takerOf 1 = .ok (.istore 4, 2) := by decide +kernel
theorem dX7_takerOf_3 : decode cX7_takerOf 3 = .ok (.iconst 0, 1) := by decide +kernel
theorem dX7_takerOf_4 : decode cX7_takerOf 4 = .ok (.istore 5, 2) := by decide +kernel
theorem dX7_takerOf_6 : decode cX7_takerOf 6 = .ok (.iload 5, 2) := by decide +kernel
theorem dX7_takerOf_8 : decode cX7_takerOf 8 = .ok (.aload_n 0, 1) := by decide +kernel
theorem dX7_takerOf_9 : decode cX7_takerOf 9 = .ok (.getfield 67, 3) := by decide +kernel
theorem dX7_takerOf_12 : decode cX7_takerOf 12 = .ok (.if_icmp .ge 68, 3) := by decide +kernel
theorem dX7_takerOf_15 : decode cX7_takerOf 15 = .ok (.iload_n 3, 1) := by decide +kernel
theorem dX7_takerOf_16 : decode cX7_takerOf 16 = .ok (.iconst (-1), 1) := by decide +kernel
theorem dX7_takerOf_17 : decode cX7_takerOf 17 = .ok (.if_icmp .eq 9, 3) := by decide +kernel
theorem dX7_takerOf_20 : decode cX7_takerOf 20 = .ok (.iload_n 3, 1) := by decide +kernel
theorem dX7_takerOf_21 : decode cX7_takerOf 21 = .ok (.iload 5, 2) := by decide +kernel
theorem dX7_takerOf_23 : decode cX7_takerOf 23 = .ok (.if_icmp .ne 18, 3) := by decide +kernel
theorem dX7_takerOf_26 : decode cX7_takerOf 26 = .ok (.aload_n 0, 1) := by decide +kernel
theorem dX7_takerOf_27 : decode cX7_takerOf 27 = .ok (.iload 5, 2) := by decide +kernel
theorem dX7_takerOf_29 : decode cX7_takerOf 29 = .ok (.iload_n 1, 1) := by decide +kernel
theorem dX7_takerOf_30 : decode cX7_takerOf 30 = .ok (.iload_n 2, 1) := by decide +kernel
theorem dX7_takerOf_31 : decode cX7_takerOf 31 = .ok (.invokevirtual 97, 3) := by decide +kernel
theorem dX7_takerOf_34 : decode cX7_takerOf 34 = .ok (.ifCond .eq 7, 3) := by decide +kernel
theorem dX7_takerOf_37 : decode cX7_takerOf 37 = .ok (.iconst 1, 1) := by decide +kernel
theorem dX7_takerOf_38 : decode cX7_takerOf 38 = .ok (.goto 4, 3) := by decide +kernel
theorem dX7_takerOf_41 : decode cX7_takerOf 41 = .ok (.iconst 0, 1) := by decide +kernel
theorem dX7_takerOf_42 : decode cX7_takerOf 42 = .ok (.istore 6, 2) := by decide +kernel
theorem dX7_takerOf_44 : decode cX7_takerOf 44 = .ok (.iload 6, 2) := by decide +kernel
theorem dX7_takerOf_46 : decode cX7_takerOf 46 = .ok (.ifCond .eq 28, 3) := by decide +kernel
theorem dX7_takerOf_49 : decode cX7_takerOf 49 = .ok (.iload 4, 2) := by decide +kernel
theorem dX7_takerOf_51 : decode cX7_takerOf 51 = .ok (.iconst (-1), 1) := by decide +kernel
theorem dX7_takerOf_52 : decode cX7_takerOf 52 = .ok (.if_icmp .eq 18, 3) := by decide +kernel
theorem dX7_takerOf_55 : decode cX7_takerOf 55 = .ok (.aload_n 0, 1) := by decide +kernel
theorem dX7_takerOf_56 : decode cX7_takerOf 56 = .ok (.iload 5, 2) := by decide +kernel
theorem dX7_takerOf_58 : decode cX7_takerOf 58 = .ok (.invokevirtual 100, 3) := by decide +kernel
theorem dX7_takerOf_61 : decode cX7_takerOf 61 = .ok (.aload_n 0, 1) := by decide +kernel
theorem dX7_takerOf_62 : decode cX7_takerOf 62 = .ok (.iload 4, 2) := by decide +kernel
theorem dX7_takerOf_64 : decode cX7_takerOf 64 = .ok (.invokevirtual 100, 3) := by decide +kernel
theorem dX7_takerOf_67 : decode cX7_takerOf 67 = .ok (.if_icmp .ge 7, 3) := by decide +kernel
theorem dX7_takerOf_70 : decode cX7_takerOf 70 = .ok (.iload 5, 2) := by decide +kernel
theorem dX7_takerOf_72 : decode cX7_takerOf 72 = .ok (.istore 4, 2) := by decide +kernel
theorem dX7_takerOf_74 : decode cX7_takerOf 74 = .ok (.iinc 5 1, 3) := by decide +kernel
theorem dX7_takerOf_77 : decode cX7_takerOf 77 = .ok (.goto (-71), 3) := by decide +kernel
theorem dX7_takerOf_80 : decode cX7_takerOf 80 = .ok (.iload 4, 2) := by decide +kernel
theorem dX7_takerOf_82 : decode cX7_takerOf 82 = .ok (.ireturn, 1) := by decide +kernel
theorem dX7_find_0 : decode cX7_find 0 = .ok (.iload_n 2, 1) := by decide +kernel
theorem dX7_find_1 : decode cX7_find 1 = .ok (.istore 4, 2) := by decide +kernel
theorem dX7_find_3 : decode cX7_find 3 = .ok (.iload 4, 2) := by decide +kernel
theorem dX7_find_5 : decode cX7_find 5 = .ok (.aload_n 0, 1) := by decide +kernel
theorem dX7_find_6 : decode cX7_find 6 = .ok (.iload_n 1, 1) := by decide +kernel
theorem dX7_find_7 : decode cX7_find 7 = .ok (.invokevirtual 87, 3) := by decide +kernel
theorem dX7_find_10 : decode cX7_find 10 = .ok (.iadd, 1) := by decide +kernel
theorem dX7_find_11 : decode cX7_find 11 = .ok (.sipush 600, 3) := by decide +kernel
theorem dX7_find_14 : decode cX7_find 14 = .ok (.if_icmp .gt 55, 3) := by decide +kernel
theorem dX7_find_17 : decode cX7_find 17 = .ok (.aload_n 0, 1) := by decide +kernel
theorem dX7_find_18 : decode cX7_find 18 = .ok (.aload_n 0, 1) := by decide +kernel
theorem dX7_find_19 : decode cX7_find 19 = .ok (.iload_n 1, 1) := by decide +kernel
theorem dX7_find_20 : decode cX7_find 20 = .ok (.iload 4, 2) := by decide +kernel
theorem dX7_find_22 : decode cX7_find 22 = .ok (.iload_n 3, 1) := by decide +kernel
theorem dX7_find_23 : decode cX7_find 23 = .ok (.invokevirtual 103, 3) := by decide +kernel
theorem dX7_find_26 : decode cX7_find 26 = .ok (.putfield 107, 3) := by decide +kernel
theorem dX7_find_29 : decode cX7_find 29 = .ok (.aload_n 0, 1) := by decide +kernel
theorem dX7_find_30 : decode cX7_find 30 = .ok (.aload_n 0, 1) := by decide +kernel
theorem dX7_find_31 : decode cX7_find 31 = .ok (.getfield 107, 3) := by decide +kernel
theorem dX7_find_34 : decode cX7_find 34 = .ok (.iconst (-1), 1) := by decide +kernel
theorem dX7_find_35 : decode cX7_find 35 = .ok (.if_icmp .ne 7, 3) := by decide +kernel
theorem dX7_find_38 : decode cX7_find 38 = .ok (.iconst (-1), 1) := by decide +kernel
theorem dX7_find_39 : decode cX7_find 39 = .ok (.goto 10, 3) := by decide +kernel
theorem dX7_find_42 : decode cX7_find 42 = .ok (.aload_n 0, 1) := by decide +kernel
theorem dX7_find_43 : decode cX7_find 43 = .ok (.iload_n 1, 1) := by decide +kernel
theorem dX7_find_44 : decode cX7_find 44 = .ok (.iload 4, 2) := by decide +kernel
theorem dX7_find_46 : decode cX7_find 46 = .ok (.invokevirtual 110, 3) := by decide +kernel
theorem dX7_find_49 : decode cX7_find 49 = .ok (.putfield 114, 3) := by decide +kernel
theorem dX7_find_52 : decode cX7_find 52 = .ok (.aload_n 0, 1) := by decide +kernel
theorem dX7_find_53 : decode cX7_find 53 = .ok (.getfield 114, 3) := by decide +kernel
theorem dX7_find_56 : decode cX7_find 56 = .ok (.iconst (-1), 1) := by decide +kernel
theorem dX7_find_57 : decode cX7_find 57 = .ok (.if_icmp .eq 6, 3) := by decide +kernel
theorem dX7_find_60 : decode cX7_find 60 = .ok (.iload 4, 2) := by decide +kernel
theorem dX7_find_62 : decode cX7_find 62 = .ok (.ireturn, 1) := by decide +kernel
theorem dX7_find_63 : decode cX7_find 63 = .ok (.iinc 4 1, 3) := by decide +kernel
theorem dX7_find_66 : decode cX7_find 66 = .ok (.goto (-63), 3) := by decide +kernel
theorem dX7_find_69 : decode cX7_find 69 = .ok (.iconst (-1), 1) := by decide +kernel
theorem dX7_find_70 : decode cX7_find 70 = .ok (.ireturn, 1) := by decide +kernel
theorem dX7_marks_0 : decode cX7_marks 0 = .ok (.aload_n 0, 1) := by decide +kernel
theorem dX7_marks_1 : decode cX7_marks 1 = .ok (.getfield 32, 3) := by decide +kernel
theorem dX7_marks_4 : decode cX7_marks 4 = .ok (.iload_n 1, 1) := by decide +kernel
theorem dX7_marks_5 : decode cX7_marks 5 = .ok (.iaload, 1) := by decide +kernel
theorem dX7_marks_6 : decode cX7_marks 6 = .ok (.istore_n 3, 1) := by decide +kernel
theorem dX7_marks_7 : decode cX7_marks 7 = .ok (.aload_n 0, 1) := by decide +kernel
theorem dX7_marks_8 : decode cX7_marks 8 = .ok (.getfield 41, 3) := by decide +kernel
theorem dX7_marks_11 : decode cX7_marks 11 = .ok (.iload_n 1, 1) := by decide +kernel
theorem dX7_marks_12 : decode cX7_marks 12 = .ok (.iaload, 1) := by decide +kernel
theorem dX7_marks_13 : decode cX7_marks 13 = .ok (.istore 4, 2) := by decide +kernel
theorem dX7_marks_15 : decode cX7_marks 15 = .ok (.iconst 0, 1) := by decide +kernel
theorem dX7_marks_16 : decode cX7_marks 16 = .ok (.istore 5, 2) := by decide +kernel
theorem dX7_marks_18 : decode cX7_marks 18 = .ok (.iload 5, 2) := by decide +kernel
theorem dX7_marks_20 : decode cX7_marks 20 = .ok (.aload_n 0, 1) := by decide +kernel
theorem dX7_marks_21 : decode cX7_marks 21 = .ok (.getfield 25, 3) := by decide +kernel
theorem dX7_marks_24 : decode cX7_marks 24 = .ok (.iload_n 3, 1) := by decide +kernel
theorem dX7_marks_25 : decode cX7_marks 25 = .ok (.iaload, 1) := by decide +kernel
theorem dX7_marks_26 : decode cX7_marks 26 = .ok (.if_icmp .ge 90, 3) := by decide +kernel
theorem dX7_marks_29 : decode cX7_marks 29 = .ok (.iconst 0, 1) := by decide +kernel
theorem dX7_marks_30 : decode cX7_marks 30 = .ok (.istore 6, 2) := by decide +kernel
theorem dX7_marks_32 : decode cX7_marks 32 = .ok (.iload 6, 2) := by decide +kernel
theorem dX7_marks_34 : decode cX7_marks 34 = .ok (.aload_n 0, 1) := by decide +kernel
theorem dX7_marks_35 : decode cX7_marks 35 = .ok (.getfield 22, 3) := by decide +kernel
theorem dX7_marks_38 : decode cX7_marks 38 = .ok (.iconst 5, 1) := by decide +kernel
theorem dX7_marks_39 : decode cX7_marks 39 = .ok (.iload_n 3, 1) := by decide +kernel
theorem dX7_marks_40 : decode cX7_marks 40 = .ok (.imul, 1) := by decide +kernel
theorem dX7_marks_41 : decode cX7_marks 41 = .ok (.iload 5, 2) := by decide +kernel
theorem dX7_marks_43 : decode cX7_marks 43 = .ok (.iadd, 1) := by decide +kernel
theorem dX7_marks_44 : decode cX7_marks 44 = .ok (.iaload, 1) := by decide +kernel
theorem dX7_marks_45 : decode cX7_marks 45 = .ok (.if_icmp .ge 65, 3) := by decide +kernel
theorem dX7_marks_48 : decode cX7_marks 48 = .ok (.aload_n 0, 1) := by decide +kernel
theorem dX7_marks_49 : decode cX7_marks 49 = .ok (.getfield 19, 3) := by decide +kernel
theorem dX7_marks_52 : decode cX7_marks 52 = .ok (.iconst 5, 1) := by decide +kernel
theorem dX7_marks_53 : decode cX7_marks 53 = .ok (.iload_n 3, 1) := by decide +kernel
theorem dX7_marks_54 : decode cX7_marks 54 = .ok (.imul, 1) := by decide +kernel
theorem dX7_marks_55 : decode cX7_marks 55 = .ok (.iload 5, 2) := by decide +kernel
theorem dX7_marks_57 : decode cX7_marks 57 = .ok (.iadd, 1) := by decide +kernel
theorem dX7_marks_58 : decode cX7_marks 58 = .ok (.iaload, 1) := by decide +kernel
theorem dX7_marks_59 : decode cX7_marks 59 = .ok (.iconst (-1), 1) := by decide +kernel
theorem dX7_marks_60 : decode cX7_marks 60 = .ok (.if_icmp .eq 22, 3) := by decide +kernel
theorem dX7_marks_63 : decode cX7_marks 63 = .ok (.aload_n 0, 1) := by decide +kernel
end
section
theorem dX7_marks_64 : decode cX7_marks 64 = .ok (.getfield 44, 3) := by decide +kernel
theorem dX7_marks_67 : decode cX7_marks 67 = .ok (.sipush 600, 3) := by decide +kernel
theorem dX7_marks_70 : decode cX7_marks 70 = .ok (.aload_n 0, 1) := by decide +kernel
theorem dX7_marks_71 : decode cX7_marks 71 = .ok (.getfield 35, 3) := by decide +kernel
theorem dX7_marks_74 : decode cX7_marks 74 = .ok (.iload_n 1, 1) := by decide +kernel
theorem dX7_marks_75 : decode cX7_marks 75 = .ok (.iaload, 1) := by decide +kernel
theorem dX7_marks_76 : decode cX7_marks 76 = .ok (.imul, 1) := by decide +kernel
theorem dX7_marks_77 : decode cX7_marks 77 = .ok (.iload 4, 2) := by decide +kernel
theorem dX7_marks_79 : decode cX7_marks 79 = .ok (.iadd, 1) := by decide +kernel
theorem dX7_marks_80 : decode cX7_marks 80 = .ok (.iload_n 2, 1) := by decide +kernel
theorem dX7_marks_81 : decode cX7_marks 81 = .ok (.iastore, 1) := by decide +kernel
theorem dX7_marks_82 : decode cX7_marks 82 = .ok (.aload_n 0, 1) := by decide +kernel
theorem dX7_marks_83 : decode cX7_marks 83 = .ok (.getfield 47, 3) := by decide +kernel
theorem dX7_marks_86 : decode cX7_marks 86 = .ok (.sipush 600, 3) := by decide +kernel
theorem dX7_marks_89 : decode cX7_marks 89 = .ok (.aload_n 0, 1) := by decide +kernel
theorem dX7_marks_90 : decode cX7_marks 90 = .ok (.getfield 38, 3) := by decide +kernel
theorem dX7_marks_93 : decode cX7_marks 93 = .ok (.iload_n 1, 1) := by decide +kernel
theorem dX7_marks_94 : decode cX7_marks 94 = .ok (.iaload, 1) := by decide +kernel
theorem dX7_marks_95 : decode cX7_marks 95 = .ok (.imul, 1) := by decide +kernel
theorem dX7_marks_96 : decode cX7_marks 96 = .ok (.iload 4, 2) := by decide +kernel
theorem dX7_marks_98 : decode cX7_marks 98 = .ok (.iadd, 1) := by decide +kernel
theorem dX7_marks_99 : decode cX7_marks 99 = .ok (.iload_n 2, 1) := by decide +kernel
theorem dX7_marks_100 : decode cX7_marks 100 = .ok (.iastore, 1) := by decide +kernel
theorem dX7_marks_101 : decode cX7_marks 101 = .ok (.iinc 4 1, 3) := by decide +kernel
theorem dX7_marks_104 : decode cX7_marks 104 = .ok (.iinc 6 1, 3) := by decide +kernel
theorem dX7_marks_107 : decode cX7_marks 107 = .ok (.goto (-75), 3) := by decide +kernel
theorem dX7_marks_110 : decode cX7_marks 110 = .ok (.iinc 5 1, 3) := by decide +kernel
theorem dX7_marks_113 : decode cX7_marks 113 = .ok (.goto (-95), 3) := by decide +kernel
theorem dX7_marks_116 : decode cX7_marks 116 = .ok (.return_, 1) := by decide +kernel
theorem dX7_lays_0 : decode cX7_lays 0 = .ok (.aload_n 0, 1) := by decide +kernel
theorem dX7_lays_1 : decode cX7_lays 1 = .ok (.getfield 32, 3) := by decide +kernel
theorem dX7_lays_4 : decode cX7_lays 4 = .ok (.iload_n 1, 1) := by decide +kernel
theorem dX7_lays_5 : decode cX7_lays 5 = .ok (.iload_n 2, 1) := by decide +kernel
theorem dX7_lays_6 : decode cX7_lays 6 = .ok (.iastore, 1) := by decide +kernel
theorem dX7_lays_7 : decode cX7_lays 7 = .ok (.aload_n 0, 1) := by decide +kernel
theorem dX7_lays_8 : decode cX7_lays 8 = .ok (.getfield 35, 3) := by decide +kernel
theorem dX7_lays_11 : decode cX7_lays 11 = .ok (.iload_n 1, 1) := by decide +kernel
theorem dX7_lays_12 : decode cX7_lays 12 = .ok (.aload_n 0, 1) := by decide +kernel
theorem dX7_lays_13 : decode cX7_lays 13 = .ok (.getfield 107, 3) := by decide +kernel
theorem dX7_lays_16 : decode cX7_lays 16 = .ok (.iastore, 1) := by decide +kernel
theorem dX7_lays_17 : decode cX7_lays 17 = .ok (.aload_n 0, 1) := by decide +kernel
theorem dX7_lays_18 : decode cX7_lays 18 = .ok (.getfield 38, 3) := by decide +kernel
theorem dX7_lays_21 : decode cX7_lays 21 = .ok (.iload_n 1, 1) := by decide +kernel
theorem dX7_lays_22 : decode cX7_lays 22 = .ok (.aload_n 0, 1) := by decide +kernel
theorem dX7_lays_23 : decode cX7_lays 23 = .ok (.getfield 114, 3) := by decide +kernel
theorem dX7_lays_26 : decode cX7_lays 26 = .ok (.iastore, 1) := by decide +kernel
theorem dX7_lays_27 : decode cX7_lays 27 = .ok (.aload_n 0, 1) := by decide +kernel
theorem dX7_lays_28 : decode cX7_lays 28 = .ok (.getfield 41, 3) := by decide +kernel
theorem dX7_lays_31 : decode cX7_lays 31 = .ok (.iload_n 1, 1) := by decide +kernel
theorem dX7_lays_32 : decode cX7_lays 32 = .ok (.iload_n 3, 1) := by decide +kernel
theorem dX7_lays_33 : decode cX7_lays 33 = .ok (.iastore, 1) := by decide +kernel
theorem dX7_lays_34 : decode cX7_lays 34 = .ok (.aload_n 0, 1) := by decide +kernel
theorem dX7_lays_35 : decode cX7_lays 35 = .ok (.iload_n 1, 1) := by decide +kernel
theorem dX7_lays_36 : decode cX7_lays 36 = .ok (.iload_n 1, 1) := by decide +kernel
theorem dX7_lays_37 : decode cX7_lays 37 = .ok (.invokevirtual 117, 3) := by decide +kernel
theorem dX7_lays_40 : decode cX7_lays 40 = .ok (.return_, 1) := by decide +kernel
theorem dX7_books_0 : decode cX7_books 0 = .ok (.aload_n 0, 1) := by decide +kernel
theorem dX7_books_1 : decode cX7_books 1 = .ok (.aload_n 0, 1) := by decide +kernel
theorem dX7_books_2 : decode cX7_books 2 = .ok (.getfield 70, 3) := by decide +kernel
theorem dX7_books_5 : decode cX7_books 5 = .ok (.iload_n 1, 1) := by decide +kernel
theorem dX7_books_6 : decode cX7_books 6 = .ok (.iload_n 2, 1) := by decide +kernel
theorem dX7_books_7 : decode cX7_books 7 = .ok (.invokevirtual 121, 3) := by decide +kernel
theorem dX7_books_10 : decode cX7_books 10 = .ok (.aload_n 0, 1) := by decide +kernel
theorem dX7_books_11 : decode cX7_books 11 = .ok (.getfield 28, 3) := by decide +kernel
theorem dX7_books_14 : decode cX7_books 14 = .ok (.iload_n 1, 1) := by decide +kernel
theorem dX7_books_15 : decode cX7_books 15 = .ok (.iconst 1, 1) := by decide +kernel
theorem dX7_books_16 : decode cX7_books 16 = .ok (.bastore, 1) := by decide +kernel
theorem dX7_books_17 : decode cX7_books 17 = .ok (.aload_n 0, 1) := by decide +kernel
theorem dX7_books_18 : decode cX7_books 18 = .ok (.dup, 1) := by decide +kernel
theorem dX7_books_19 : decode cX7_books 19 = .ok (.getfield 70, 3) := by decide +kernel
theorem dX7_books_22 : decode cX7_books 22 = .ok (.iconst 1, 1) := by decide +kernel
theorem dX7_books_23 : decode cX7_books 23 = .ok (.iadd, 1) := by decide +kernel
theorem dX7_books_24 : decode cX7_books 24 = .ok (.putfield 70, 3) := by decide +kernel
theorem dX7_books_27 : decode cX7_books 27 = .ok (.aload_n 0, 1) := by decide +kernel
theorem dX7_books_28 : decode cX7_books 28 = .ok (.getfield 70, 3) := by decide +kernel
theorem dX7_books_31 : decode cX7_books 31 = .ok (.iconst 1, 1) := by decide +kernel
theorem dX7_books_32 : decode cX7_books 32 = .ok (.isub, 1) := by decide +kernel
theorem dX7_books_33 : decode cX7_books 33 = .ok (.ireturn, 1) := by decide +kernel
theorem dX7_book_0 : decode cX7_book 0 = .ok (.aload_n 0, 1) := by decide +kernel
theorem dX7_book_1 : decode cX7_book 1 = .ok (.iload_n 1, 1) := by decide +kernel
theorem dX7_book_2 : decode cX7_book 2 = .ok (.invokevirtual 84, 3) := by decide +kernel
theorem dX7_book_5 : decode cX7_book 5 = .ok (.ifCond .eq 10, 3) := by decide +kernel
theorem dX7_book_8 : decode cX7_book 8 = .ok (.iload_n 2, 1) := by decide +kernel
theorem dX7_book_9 : decode cX7_book 9 = .ok (.invokestatic 124, 3) := by decide +kernel
theorem dX7_book_12 : decode cX7_book 12 = .ok (.ifCond .ne 7, 3) := by decide +kernel
theorem dX7_book_15 : decode cX7_book 15 = .ok (.iconst 1, 1) := by decide +kernel
theorem dX7_book_16 : decode cX7_book 16 = .ok (.goto 17, 3) := by decide +kernel
theorem dX7_book_19 : decode cX7_book 19 = .ok (.aload_n 0, 1) := by decide +kernel
theorem dX7_book_20 : decode cX7_book 20 = .ok (.getfield 70, 3) := by decide +kernel
theorem dX7_book_23 : decode cX7_book 23 = .ok (.bipush 30, 2) := by decide +kernel
theorem dX7_book_25 : decode cX7_book 25 = .ok (.if_icmp .ne 7, 3) := by decide +kernel
theorem dX7_book_28 : decode cX7_book 28 = .ok (.iconst 2, 1) := by decide +kernel
theorem dX7_book_29 : decode cX7_book 29 = .ok (.goto 4, 3) := by decide +kernel
theorem dX7_book_32 : decode cX7_book 32 = .ok (.iconst 0, 1) := by decide +kernel
theorem dX7_book_33 : decode cX7_book 33 = .ok (.istore_n 3, 1) := by decide +kernel
theorem dX7_book_34 : decode cX7_book 34 = .ok (.iload_n 3, 1) := by decide +kernel
theorem dX7_book_35 : decode cX7_book 35 = .ok (.ifCond .ne 13, 3) := by decide +kernel
theorem dX7_book_38 : decode cX7_book 38 = .ok (.aload_n 0, 1) := by decide +kernel
theorem dX7_book_39 : decode cX7_book 39 = .ok (.iload_n 1, 1) := by decide +kernel
theorem dX7_book_40 : decode cX7_book 40 = .ok (.iload_n 2, 1) := by decide +kernel
theorem dX7_book_41 : decode cX7_book 41 = .ok (.iconst (-1), 1) := by decide +kernel
theorem dX7_book_42 : decode cX7_book 42 = .ok (.invokevirtual 127, 3) := by decide +kernel
theorem dX7_book_45 : decode cX7_book 45 = .ok (.goto 4, 3) := by decide +kernel
theorem dX7_book_48 : decode cX7_book 48 = .ok (.iconst (-1), 1) := by decide +kernel
theorem dX7_book_49 : decode cX7_book 49 = .ok (.istore 4, 2) := by decide +kernel
theorem dX7_book_51 : decode cX7_book 51 = .ok (.aload_n 0, 1) := by decide +kernel
theorem dX7_book_52 : decode cX7_book 52 = .ok (.iload_n 3, 1) := by decide +kernel
theorem dX7_book_53 : decode cX7_book 53 = .ok (.ifCond .ne 13, 3) := by decide +kernel
theorem dX7_book_56 : decode cX7_book 56 = .ok (.iload 4, 2) := by decide +kernel
theorem dX7_book_58 : decode cX7_book 58 = .ok (.iconst (-1), 1) := by decide +kernel
theorem dX7_book_59 : decode cX7_book 59 = .ok (.if_icmp .ne 7, 3) := by decide +kernel
theorem dX7_book_62 : decode cX7_book 62 = .ok (.iconst 3, 1) := by decide +kernel
theorem dX7_book_63 : decode cX7_book 63 = .ok (.goto 4, 3) := by decide +kernel
theorem dX7_book_66 : decode cX7_book 66 = .ok (.iload_n 3, 1) := by decide +kernel
theorem dX7_book_67 : decode cX7_book 67 = .ok (.invokevirtual 77, 3) := by decide +kernel
theorem dX7_book_70 : decode cX7_book 70 = .ok (.ifCond .ne 5, 3) := by decide +kernel
theorem dX7_book_73 : decode cX7_book 73 = .ok (.iconst 0, 1) := by decide +kernel
theorem dX7_book_74 : decode cX7_book 74 = .ok (.ireturn, 1) := by decide +kernel
theorem dX7_book_75 : decode cX7_book 75 = .ok (.aload_n 0, 1) := by decide +kernel
theorem dX7_book_76 : decode cX7_book 76 = .ok (.iload_n 1, 1) := by decide +kernel
theorem dX7_book_77 : decode cX7_book 77 = .ok (.iload 4, 2) := by decide +kernel
theorem dX7_book_79 : decode cX7_book 79 = .ok (.invokevirtual 130, 3) := by decide +kernel
theorem dX7_book_82 : decode cX7_book 82 = .ok (.ireturn, 1) := by decide +kernel
theorem dX7_bookWith_0 : decode cX7_bookWith 0 = .ok (.aload_n 0, 1) := by decide +kernel
theorem dX7_bookWith_1 : decode cX7_bookWith 1 = .ok (.iload_n 1, 1) := by decide +kernel
theorem dX7_bookWith_2 : decode cX7_bookWith 2 = .ok (.invokevirtual 84, 3) := by decide +kernel
theorem dX7_bookWith_5 : decode cX7_bookWith 5 = .ok (.ifCond .eq 18, 3) := by decide +kernel
theorem dX7_bookWith_8 : decode cX7_bookWith 8 = .ok (.aload_n 0, 1) := by decide +kernel
theorem dX7_bookWith_9 : decode cX7_bookWith 9 = .ok (.iload_n 2, 1) := by decide +kernel
theorem dX7_bookWith_10 : decode cX7_bookWith 10 = .ok (.invokevirtual 133, 3) := by decide +kernel
theorem dX7_bookWith_13 : decode cX7_bookWith 13 = .ok (.ifCond .eq 10, 3) := by decide +kernel
theorem dX7_bookWith_16 : decode cX7_bookWith 16 = .ok (.iload_n 3, 1) := by decide +kernel
theorem dX7_bookWith_17 : decode cX7_bookWith 17 = .ok (.invokestatic 124, 3) := by decide +kernel
theorem dX7_bookWith_20 : decode cX7_bookWith 20 = .ok (.ifCond .ne 7, 3) := by decide +kernel
theorem dX7_bookWith_23 : decode cX7_bookWith 23 = .ok (.iconst 1, 1) := by decide +kernel
theorem dX7_bookWith_24 : decode cX7_bookWith 24 = .ok (.goto 17, 3) := by decide +kernel
theorem dX7_bookWith_27 : decode cX7_bookWith 27 = .ok (.aload_n 0, 1) := by decide +kernel
theorem dX7_bookWith_28 : decode cX7_bookWith 28 = .ok (.getfield 70, 3) := by decide +kernel
theorem dX7_bookWith_31 : decode cX7_bookWith 31 = .ok (.bipush 30, 2) := by decide +kernel
theorem dX7_bookWith_33 : decode cX7_bookWith 33 = .ok (.if_icmp .ne 7, 3) := by decide +kernel
theorem dX7_bookWith_36 : decode cX7_bookWith 36 = .ok (.iconst 2, 1) := by decide +kernel
theorem dX7_bookWith_37 : decode cX7_bookWith 37 = .ok (.goto 4, 3) := by decide +kernel
theorem dX7_bookWith_40 : decode cX7_bookWith 40 = .ok (.iconst 0, 1) := by decide +kernel
theorem dX7_bookWith_41 : decode cX7_bookWith 41 = .ok (.istore 4, 2) := by decide +kernel
theorem dX7_bookWith_43 : decode cX7_bookWith 43 = .ok (.iload 4, 2) := by decide +kernel
theorem dX7_bookWith_45 : decode cX7_bookWith 45 = .ok (.ifCond .ne 13, 3) := by decide +kernel
theorem dX7_bookWith_48 : decode cX7_bookWith 48 = .ok (.aload_n 0, 1) := by decide +kernel
theorem dX7_bookWith_49 : decode cX7_bookWith 49 = .ok (.iload_n 1, 1) := by decide +kernel
theorem dX7_bookWith_50 : decode cX7_bookWith 50 = .ok (.iload_n 3, 1) := by decide +kernel
theorem dX7_bookWith_51 : decode cX7_bookWith 51 = .ok (.iload_n 2, 1) := by decide +kernel
theorem dX7_bookWith_52 : decode cX7_bookWith 52 = .ok (.invokevirtual 127, 3) := by decide +kernel
theorem dX7_bookWith_55 : decode cX7_bookWith 55 = .ok (.goto 4, 3) := by decide +kernel
theorem dX7_bookWith_58 : decode cX7_bookWith 58 = .ok (.iconst (-1), 1) := by decide +kernel
theorem dX7_bookWith_59 : decode cX7_bookWith 59 = .ok (.istore 5, 2) := by decide +kernel
theorem dX7_bookWith_61 : decode cX7_bookWith 61 = .ok (.aload_n 0, 1) := by decide +kernel
theorem dX7_bookWith_62 : decode cX7_bookWith 62 = .ok (.iload 4, 2) := by decide +kernel
theorem dX7_bookWith_64 : decode cX7_bookWith 64 = .ok (.ifCond .ne 13, 3) := by decide +kernel
theorem dX7_bookWith_67 : decode cX7_bookWith 67 = .ok (.iload 5, 2) := by decide +kernel
theorem dX7_bookWith_69 : decode cX7_bookWith 69 = .ok (.iconst (-1), 1) := by decide +kernel
theorem dX7_bookWith_70 : decode cX7_bookWith 70 = .ok (.if_icmp .ne 7, 3) := by decide +kernel
theorem dX7_bookWith_73 : decode cX7_bookWith 73 = .ok (.iconst 3, 1) := by decide +kernel
theorem dX7_bookWith_74 : decode cX7_bookWith 74 = .ok (.goto 5, 3) := by decide +kernel
theorem dX7_bookWith_77 : decode cX7_bookWith 77 = .ok (.iload 4, 2) := by decide +kernel
theorem dX7_bookWith_79 : decode cX7_bookWith 79 = .ok (.invokevirtual 77, 3) := by decide +kernel
theorem dX7_bookWith_82 : decode cX7_bookWith 82 = .ok (.ifCond .ne 5, 3) := by decide +kernel
theorem dX7_bookWith_85 : decode cX7_bookWith 85 = .ok (.iconst 0, 1) := by decide +kernel
theorem dX7_bookWith_86 : decode cX7_bookWith 86 = .ok (.ireturn, 1) := by decide +kernel
theorem dX7_bookWith_87 : decode cX7_bookWith 87 = .ok (.aload_n 0, 1) := by decide +kernel
theorem dX7_bookWith_88 : decode cX7_bookWith 88 = .ok (.iload_n 1, 1) := by decide +kernel
theorem dX7_bookWith_89 : decode cX7_bookWith 89 = .ok (.iload 5, 2) := by decide +kernel
theorem dX7_bookWith_91 : decode cX7_bookWith 91 = .ok (.invokevirtual 130, 3) := by decide +kernel
theorem dX7_bookWith_94 : decode cX7_bookWith 94 = .ok (.ireturn, 1) := by decide +kernel
theorem dX7_serves_0 : decode cX7_serves 0 = .ok (.iconst 0, 1) := by decide +kernel
theorem dX7_serves_1 : decode cX7_serves 1 = .ok (.istore_n 1, 1) := by decide +kernel
theorem dX7_serves_2 : decode cX7_serves 2 = .ok (.iconst 0, 1) := by decide +kernel
theorem dX7_serves_3 : decode cX7_serves 3 = .ok (.istore_n 2, 1) := by decide +kernel
theorem dX7_serves_4 : decode cX7_serves 4 = .ok (.aload_n 0, 1) := by decide +kernel
theorem dX7_serves_5 : decode cX7_serves 5 = .ok (.getfield 136, 3) := by decide +kernel
theorem dX7_serves_8 : decode cX7_serves 8 = .ok (.istore_n 3, 1) := by decide +kernel
theorem dX7_serves_9 : decode cX7_serves 9 = .ok (.iconst 0, 1) := by decide +kernel
theorem dX7_serves_10 : decode cX7_serves 10 = .ok (.istore 4, 2) := by decide +kernel
theorem dX7_serves_12 : decode cX7_serves 12 = .ok (.iload 4, 2) := by decide +kernel
theorem dX7_serves_14 : decode cX7_serves 14 = .ok (.iload_n 3, 1) := by decide +kernel
theorem dX7_serves_15 : decode cX7_serves 15 = .ok (.if_icmp .ge 104, 3) := by decide +kernel
theorem dX7_serves_18 : decode cX7_serves 18 = .ok (.aload_n 0, 1) := by decide +kernel
theorem dX7_serves_19 : decode cX7_serves 19 = .ok (.getfield 70, 3) := by decide +kernel
theorem dX7_serves_22 : decode cX7_serves 22 = .ok (.bipush 30, 2) := by decide +kernel
theorem dX7_serves_24 : decode cX7_serves 24 = .ok (.if_icmp .ne 7, 3) := by decide +kernel
theorem dX7_serves_27 : decode cX7_serves 27 = .ok (.iconst (-1), 1) := by decide +kernel
theorem dX7_serves_28 : decode cX7_serves 28 = .ok (.goto 16, 3) := by decide +kernel
theorem dX7_serves_31 : decode cX7_serves 31 = .ok (.aload_n 0, 1) := by decide +kernel
theorem dX7_serves_32 : decode cX7_serves 32 = .ok (.aload_n 0, 1) := by decide +kernel
theorem dX7_serves_33 : decode cX7_serves 33 = .ok (.getfield 50, 3) := by decide +kernel
theorem dX7_serves_36 : decode cX7_serves 36 = .ok (.iload 4, 2) := by decide +kernel
theorem dX7_serves_38 : decode cX7_serves 38 = .ok (.iaload, 1) := by decide +kernel
theorem dX7_serves_39 : decode cX7_serves 39 = .ok (.iconst 0, 1) := by decide +kernel
theorem dX7_serves_40 : decode cX7_serves 40 = .ok (.iconst (-1), 1) := by decide +kernel
theorem dX7_serves_41 : decode cX7_serves 41 = .ok (.invokevirtual 127, 3) := by decide +kernel
theorem dX7_serves_44 : decode cX7_serves 44 = .ok (.istore 5, 2) := by decide +kernel
theorem dX7_serves_46 : decode cX7_serves 46 = .ok (.iload 5, 2) := by decide +kernel
theorem dX7_serves_48 : decode cX7_serves 48 = .ok (.iconst (-1), 1) := by decide +kernel
theorem dX7_serves_49 : decode cX7_serves 49 = .ok (.if_icmp .eq 35, 3) := by decide +kernel
theorem dX7_serves_52 : decode cX7_serves 52 = .ok (.iload 5, 2) := by decide +kernel
theorem dX7_serves_54 : decode cX7_serves 54 = .ok (.aload_n 0, 1) := by decide +kernel
theorem dX7_serves_55 : decode cX7_serves 55 = .ok (.getfield 53, 3) := by decide +kernel
theorem dX7_serves_58 : decode cX7_serves 58 = .ok (.iload 4, 2) := by decide +kernel
theorem dX7_serves_60 : decode cX7_serves 60 = .ok (.iaload, 1) := by decide +kernel
theorem dX7_serves_61 : decode cX7_serves 61 = .ok (.if_icmp .gt 23, 3) := by decide +kernel
theorem dX7_serves_64 : decode cX7_serves 64 = .ok (.aload_n 0, 1) := by decide +kernel
theorem dX7_serves_65 : decode cX7_serves 65 = .ok (.aload_n 0, 1) := by decide +kernel
theorem dX7_serves_66 : decode cX7_serves 66 = .ok (.getfield 50, 3) := by decide +kernel
theorem dX7_serves_69 : decode cX7_serves 69 = .ok (.iload 4, 2) := by decide +kernel
theorem dX7_serves_71 : decode cX7_serves 71 = .ok (.iaload, 1) := by decide +kernel
theorem dX7_serves_72 : decode cX7_serves 72 = .ok (.iload 5, 2) := by decide +kernel
theorem dX7_serves_74 : decode cX7_serves 74 = .ok (.invokevirtual 130, 3) := by decide +kernel
theorem dX7_serves_77 : decode cX7_serves 77 = .ok (.pop, 1) := by decide +kernel
theorem dX7_serves_78 : decode cX7_serves 78 = .ok (.iinc 2 1, 3) := by decide +kernel
theorem dX7_serves_81 : decode cX7_serves 81 = .ok (.goto 32, 3) := by decide +kernel
theorem dX7_serves_84 : decode cX7_serves 84 = .ok (.aload_n 0, 1) := by decide +kernel
theorem dX7_serves_85 : decode cX7_serves 85 = .ok (.getfield 50, 3) := by decide +kernel
theorem dX7_serves_88 : decode cX7_serves 88 = .ok (.iload_n 1, 1) := by decide +kernel
theorem dX7_serves_89 : decode cX7_serves 89 = .ok (.aload_n 0, 1) := by decide +kernel
theorem dX7_serves_90 : decode cX7_serves 90 = .ok (.getfield 50, 3) := by decide +kernel
theorem dX7_serves_93 : decode cX7_serves 93 = .ok (.iload 4, 2) := by decide +kernel
theorem dX7_serves_95 : decode cX7_serves 95 = .ok (.iaload, 1) := by decide +kernel
theorem dX7_serves_96 : decode cX7_serves 96 = .ok (.iastore, 1) := by decide +kernel
theorem dX7_serves_97 : decode cX7_serves 97 = .ok (.aload_n 0, 1) := by decide +kernel
theorem dX7_serves_98 : decode cX7_serves 98 = .ok (.getfield 53, 3) := by decide +kernel
theorem dX7_serves_101 : decode cX7_serves 101 = .ok (.iload_n 1, 1) := by decide +kernel
theorem dX7_serves_102 : decode cX7_serves 102 = .ok (.aload_n 0, 1) := by decide +kernel
theorem dX7_serves_103 : decode cX7_serves 103 = .ok (.getfield 53, 3) := by decide +kernel
theorem dX7_serves_106 : decode cX7_serves 106 = .ok (.iload 4, 2) := by decide +kernel
theorem dX7_serves_108 : decode cX7_serves 108 = .ok (.iaload, 1) := by decide +kernel
theorem dX7_serves_109 : decode cX7_serves 109 = .ok (.iastore, 1) := by decide +kernel
theorem dX7_serves_110 : decode cX7_serves 110 = .ok (.iinc 1 1, 3) := by decide +kernel
theorem dX7_serves_113 : decode cX7_serves 113 = .ok (.iinc 4 1, 3) := by decide +kernel
theorem dX7_serves_116 : decode cX7_serves 116 = .ok (.goto (-104), 3) := by decide +kernel
theorem dX7_serves_119 : decode cX7_serves 119 = .ok (.aload_n 0, 1) := by decide +kernel
theorem dX7_serves_120 : decode cX7_serves 120 = .ok (.iload_n 1, 1) := by decide +kernel
theorem dX7_serves_121 : decode cX7_serves 121 = .ok (.putfield 136, 3) := by decide +kernel
theorem dX7_serves_124 : decode cX7_serves 124 = .ok (.iload_n 2, 1) := by decide +kernel
theorem dX7_serves_125 : decode cX7_serves 125 = .ok (.ireturn, 1) := by decide +kernel
theorem dX7_move_0 : decode cX7_move 0 = .ok (.aload_n 0, 1) := by decide +kernel
theorem dX7_move_1 : decode cX7_move 1 = .ok (.aload_n 0, 1) := by decide +kernel
theorem dX7_move_2 : decode cX7_move 2 = .ok (.iload_n 1, 1) := by decide +kernel
theorem dX7_move_3 : decode cX7_move 3 = .ok (.invokevirtual 139, 3) := by decide +kernel
theorem dX7_move_6 : decode cX7_move 6 = .ok (.ifCond .eq 14, 3) := by decide +kernel
theorem dX7_move_9 : decode cX7_move 9 = .ok (.iload_n 2, 1) := by decide +kernel
theorem dX7_move_10 : decode cX7_move 10 = .ok (.invokestatic 124, 3) := by decide +kernel
theorem dX7_move_13 : decode cX7_move 13 = .ok (.ifCond .eq 7, 3) := by decide +kernel
theorem dX7_move_16 : decode cX7_move 16 = .ok (.iconst 0, 1) := by decide +kernel
theorem dX7_move_17 : decode cX7_move 17 = .ok (.goto 4, 3) := by decide +kernel
theorem dX7_move_20 : decode cX7_move 20 = .ok (.iconst 1, 1) := by decide +kernel
theorem dX7_move_21 : decode cX7_move 21 = .ok (.invokevirtual 77, 3) := by decide +kernel
theorem dX7_move_24 : decode cX7_move 24 = .ok (.ifCond .ne 5, 3) := by decide +kernel
theorem dX7_move_27 : decode cX7_move 27 = .ok (.iconst 0, 1) := by decide +kernel
theorem dX7_move_28 : decode cX7_move 28 = .ok (.ireturn, 1) := by decide +kernel
theorem dX7_move_29 : decode cX7_move 29 = .ok (.aload_n 0, 1) := by decide +kernel
theorem dX7_move_30 : decode cX7_move 30 = .ok (.getfield 41, 3) := by decide +kernel
theorem dX7_move_33 : decode cX7_move 33 = .ok (.iload_n 1, 1) := by decide +kernel
theorem dX7_move_34 : decode cX7_move 34 = .ok (.iaload, 1) := by decide +kernel
theorem dX7_move_35 : decode cX7_move 35 = .ok (.istore_n 3, 1) := by decide +kernel
theorem dX7_move_36 : decode cX7_move 36 = .ok (.aload_n 0, 1) := by decide +kernel
theorem dX7_move_37 : decode cX7_move 37 = .ok (.iload_n 1, 1) := by decide +kernel
theorem dX7_move_38 : decode cX7_move 38 = .ok (.iconst (-1), 1) := by decide +kernel
theorem dX7_move_39 : decode cX7_move 39 = .ok (.invokevirtual 117, 3) := by decide +kernel
theorem dX7_move_42 : decode cX7_move 42 = .ok (.aload_n 0, 1) := by decide +kernel
theorem dX7_move_43 : decode cX7_move 43 = .ok (.getfield 41, 3) := by decide +kernel
theorem dX7_move_46 : decode cX7_move 46 = .ok (.iload_n 1, 1) := by decide +kernel
theorem dX7_move_47 : decode cX7_move 47 = .ok (.iconst (-1), 1) := by decide +kernel
theorem dX7_move_48 : decode cX7_move 48 = .ok (.iastore, 1) := by decide +kernel
theorem dX7_move_49 : decode cX7_move 49 = .ok (.aload_n 0, 1) := by decide +kernel
theorem dX7_move_50 : decode cX7_move 50 = .ok (.aload_n 0, 1) := by decide +kernel
theorem dX7_move_51 : decode cX7_move 51 = .ok (.getfield 32, 3) := by decide +kernel
theorem dX7_move_54 : decode cX7_move 54 = .ok (.iload_n 1, 1) := by decide +kernel
theorem dX7_move_55 : decode cX7_move 55 = .ok (.iaload, 1) := by decide +kernel
theorem dX7_move_56 : decode cX7_move 56 = .ok (.iload_n 2, 1) := by decide +kernel
theorem dX7_move_57 : decode cX7_move 57 = .ok (.iconst (-1), 1) := by decide +kernel
theorem dX7_move_58 : decode cX7_move 58 = .ok (.invokevirtual 127, 3) := by decide +kernel
theorem dX7_move_61 : decode cX7_move 61 = .ok (.istore 4, 2) := by decide +kernel
theorem dX7_move_63 : decode cX7_move 63 = .ok (.aload_n 0, 1) := by decide +kernel
theorem dX7_move_64 : decode cX7_move 64 = .ok (.iload 4, 2) := by decide +kernel
theorem dX7_move_66 : decode cX7_move 66 = .ok (.iconst (-1), 1) := by decide +kernel
theorem dX7_move_67 : decode cX7_move 67 = .ok (.if_icmp .ne 7, 3) := by decide +kernel
theorem dX7_move_70 : decode cX7_move 70 = .ok (.iconst 2, 1) := by decide +kernel
theorem dX7_move_71 : decode cX7_move 71 = .ok (.goto 4, 3) := by decide +kernel
theorem dX7_move_74 : decode cX7_move 74 = .ok (.iconst 0, 1) := by decide +kernel
theorem dX7_move_75 : decode cX7_move 75 = .ok (.invokevirtual 77, 3) := by decide +kernel
theorem dX7_move_78 : decode cX7_move 78 = .ok (.ifCond .ne 18, 3) := by decide +kernel
theorem dX7_move_81 : decode cX7_move 81 = .ok (.aload_n 0, 1) := by decide +kernel
theorem dX7_move_82 : decode cX7_move 82 = .ok (.getfield 41, 3) := by decide +kernel
theorem dX7_move_85 : decode cX7_move 85 = .ok (.iload_n 1, 1) := by decide +kernel
theorem dX7_move_86 : decode cX7_move 86 = .ok (.iload_n 3, 1) := by decide +kernel
theorem dX7_move_87 : decode cX7_move 87 = .ok (.iastore, 1) := by decide +kernel
theorem dX7_move_88 : decode cX7_move 88 = .ok (.aload_n 0, 1) := by decide +kernel
theorem dX7_move_89 : decode cX7_move 89 = .ok (.iload_n 1, 1) := by decide +kernel
theorem dX7_move_90 : decode cX7_move 90 = .ok (.iload_n 1, 1) := by decide +kernel
theorem dX7_move_91 : decode cX7_move 91 = .ok (.invokevirtual 117, 3) := by decide +kernel
theorem dX7_move_94 : decode cX7_move 94 = .ok (.iconst 0, 1) := by decide +kernel
theorem dX7_move_95 : decode cX7_move 95 = .ok (.ireturn, 1) := by decide +kernel
theorem dX7_move_96 : decode cX7_move 96 = .ok (.aload_n 0, 1) := by decide +kernel
theorem dX7_move_97 : decode cX7_move 97 = .ok (.iload_n 1, 1) := by decide +kernel
theorem dX7_move_98 : decode cX7_move 98 = .ok (.aload_n 0, 1) := by decide +kernel
theorem dX7_move_99 : decode cX7_move 99 = .ok (.getfield 32, 3) := by decide +kernel
theorem dX7_move_102 : decode cX7_move 102 = .ok (.iload_n 1, 1) := by decide +kernel
theorem dX7_move_103 : decode cX7_move 103 = .ok (.iaload, 1) := by decide +kernel
theorem dX7_move_104 : decode cX7_move 104 = .ok (.iload 4, 2) := by decide +kernel
theorem dX7_move_106 : decode cX7_move 106 = .ok (.invokevirtual 121, 3) := by decide +kernel
theorem dX7_move_109 : decode cX7_move 109 = .ok (.aload_n 0, 1) := by decide +kernel
theorem dX7_move_110 : decode cX7_move 110 = .ok (.invokevirtual 142, 3) := by decide +kernel
theorem dX7_move_113 : decode cX7_move 113 = .ok (.pop, 1) := by decide +kernel
theorem dX7_move_114 : decode cX7_move 114 = .ok (.aload_n 0, 1) := by decide +kernel
theorem dX7_move_115 : decode cX7_move 115 = .ok (.getfield 41, 3) := by decide +kernel
theorem dX7_move_118 : decode cX7_move 118 = .ok (.iload_n 1, 1) := by decide +kernel
theorem dX7_move_119 : decode cX7_move 119 = .ok (.iaload, 1) := by decide +kernel
theorem dX7_move_120 : decode cX7_move 120 = .ok (.ireturn, 1) := by decide +kernel
theorem dX7_drop_0 : decode cX7_drop 0 = .ok (.aload_n 0, 1) := by decide +kernel
theorem dX7_drop_1 : decode cX7_drop 1 = .ok (.aload_n 0, 1) := by decide +kernel
theorem dX7_drop_2 : decode cX7_drop 2 = .ok (.iload_n 1, 1) := by decide +kernel
theorem dX7_drop_3 : decode cX7_drop 3 = .ok (.invokevirtual 139, 3) := by decide +kernel
theorem dX7_drop_6 : decode cX7_drop 6 = .ok (.ifCond .eq 7, 3) := by decide +kernel
theorem dX7_drop_9 : decode cX7_drop 9 = .ok (.iconst 0, 1) := by decide +kernel
theorem dX7_drop_10 : decode cX7_drop 10 = .ok (.goto 4, 3) := by decide +kernel
theorem dX7_drop_13 : decode cX7_drop 13 = .ok (.iconst 1, 1) := by decide +kernel
theorem dX7_drop_14 : decode cX7_drop 14 = .ok (.invokevirtual 77, 3) := by decide +kernel
theorem dX7_drop_17 : decode cX7_drop 17 = .ok (.ifCond .ne 5, 3) := by decide +kernel
theorem dX7_drop_20 : decode cX7_drop 20 = .ok (.iconst 0, 1) := by decide +kernel
theorem dX7_drop_21 : decode cX7_drop 21 = .ok (.ireturn, 1) := by decide +kernel
theorem dX7_drop_22 : decode cX7_drop 22 = .ok (.aload_n 0, 1) := by decide +kernel
theorem dX7_drop_23 : decode cX7_drop 23 = .ok (.iload_n 1, 1) := by decide +kernel
theorem dX7_drop_24 : decode cX7_drop 24 = .ok (.iconst (-1), 1) := by decide +kernel
theorem dX7_drop_25 : decode cX7_drop 25 = .ok (.invokevirtual 117, 3) := by decide +kernel
theorem dX7_drop_28 : decode cX7_drop 28 = .ok (.aload_n 0, 1) := by decide +kernel
theorem dX7_drop_29 : decode cX7_drop 29 = .ok (.getfield 41, 3) := by decide +kernel
theorem dX7_drop_32 : decode cX7_drop 32 = .ok (.iload_n 1, 1) := by decide +kernel
theorem dX7_drop_33 : decode cX7_drop 33 = .ok (.iconst (-1), 1) := by decide +kernel
theorem dX7_drop_34 : decode cX7_drop 34 = .ok (.iastore, 1) := by decide +kernel
theorem dX7_drop_35 : decode cX7_drop 35 = .ok (.aload_n 0, 1) := by decide +kernel
theorem dX7_drop_36 : decode cX7_drop 36 = .ok (.invokevirtual 142, 3) := by decide +kernel
theorem dX7_drop_39 : decode cX7_drop 39 = .ok (.ireturn, 1) := by decide +kernel
theorem dX7_request_0 : decode cX7_request 0 = .ok (.aload_n 0, 1) := by decide +kernel
theorem dX7_request_1 : decode cX7_request 1 = .ok (.aload_n 0, 1) := by decide +kernel
theorem dX7_request_2 : decode cX7_request 2 = .ok (.iload_n 1, 1) := by decide +kernel
theorem dX7_request_3 : decode cX7_request 3 = .ok (.invokevirtual 84, 3) := by decide +kernel
theorem dX7_request_6 : decode cX7_request 6 = .ok (.ifCond .eq 10, 3) := by decide +kernel
theorem dX7_request_9 : decode cX7_request 9 = .ok (.iload_n 2, 1) := by decide +kernel
theorem dX7_request_10 : decode cX7_request 10 = .ok (.invokestatic 124, 3) := by decide +kernel
theorem dX7_request_13 : decode cX7_request 13 = .ok (.ifCond .ne 7, 3) := by decide +kernel
theorem dX7_request_16 : decode cX7_request 16 = .ok (.iconst 1, 1) := by decide +kernel
theorem dX7_request_17 : decode cX7_request 17 = .ok (.goto 17, 3) := by decide +kernel
theorem dX7_request_20 : decode cX7_request 20 = .ok (.aload_n 0, 1) := by decide +kernel
theorem dX7_request_21 : decode cX7_request 21 = .ok (.getfield 136, 3) := by decide +kernel
theorem dX7_request_24 : decode cX7_request 24 = .ok (.bipush 6, 2) := by decide +kernel
theorem dX7_request_26 : decode cX7_request 26 = .ok (.if_icmp .ne 7, 3) := by decide +kernel
theorem dX7_request_29 : decode cX7_request 29 = .ok (.iconst 2, 1) := by decide +kernel
theorem dX7_request_30 : decode cX7_request 30 = .ok (.goto 4, 3) := by decide +kernel
theorem dX7_request_33 : decode cX7_request 33 = .ok (.iconst 0, 1) := by decide +kernel
theorem dX7_request_34 : decode cX7_request 34 = .ok (.invokevirtual 77, 3) := by decide +kernel
theorem dX7_request_37 : decode cX7_request 37 = .ok (.ifCond .ne 5, 3) := by decide +kernel
theorem dX7_request_40 : decode cX7_request 40 = .ok (.iconst 0, 1) := by decide +kernel
theorem dX7_request_41 : decode cX7_request 41 = .ok (.ireturn, 1) := by decide +kernel
theorem dX7_request_42 : decode cX7_request 42 = .ok (.aload_n 0, 1) := by decide +kernel
theorem dX7_request_43 : decode cX7_request 43 = .ok (.getfield 50, 3) := by decide +kernel
theorem dX7_request_46 : decode cX7_request 46 = .ok (.aload_n 0, 1) := by decide +kernel
theorem dX7_request_47 : decode cX7_request 47 = .ok (.getfield 136, 3) := by decide +kernel
theorem dX7_request_50 : decode cX7_request 50 = .ok (.iload_n 1, 1) := by decide +kernel
theorem dX7_request_51 : decode cX7_request 51 = .ok (.iastore, 1) := by decide +kernel
theorem dX7_request_52 : decode cX7_request 52 = .ok (.aload_n 0, 1) := by decide +kernel
theorem dX7_request_53 : decode cX7_request 53 = .ok (.getfield 53, 3) := by decide +kernel
theorem dX7_request_56 : decode cX7_request 56 = .ok (.aload_n 0, 1) := by decide +kernel
theorem dX7_request_57 : decode cX7_request 57 = .ok (.getfield 136, 3) := by decide +kernel
theorem dX7_request_60 : decode cX7_request 60 = .ok (.iload_n 2, 1) := by decide +kernel
theorem dX7_request_61 : decode cX7_request 61 = .ok (.iastore, 1) := by decide +kernel
theorem dX7_request_62 : decode cX7_request 62 = .ok (.aload_n 0, 1) := by decide +kernel
theorem dX7_request_63 : decode cX7_request 63 = .ok (.getfield 28, 3) := by decide +kernel
theorem dX7_request_66 : decode cX7_request 66 = .ok (.iload_n 1, 1) := by decide +kernel
theorem dX7_request_67 : decode cX7_request 67 = .ok (.iconst 1, 1) := by decide +kernel
theorem dX7_request_68 : decode cX7_request 68 = .ok (.bastore, 1) := by decide +kernel
theorem dX7_request_69 : decode cX7_request 69 = .ok (.aload_n 0, 1) := by decide +kernel
theorem dX7_request_70 : decode cX7_request 70 = .ok (.dup, 1) := by decide +kernel
theorem dX7_request_71 : decode cX7_request 71 = .ok (.getfield 136, 3) := by decide +kernel
theorem dX7_request_74 : decode cX7_request 74 = .ok (.iconst 1, 1) := by decide +kernel
theorem dX7_request_75 : decode cX7_request 75 = .ok (.iadd, 1) := by decide +kernel
theorem dX7_request_76 : decode cX7_request 76 = .ok (.putfield 136, 3) := by decide +kernel
theorem dX7_request_79 : decode cX7_request 79 = .ok (.aload_n 0, 1) := by decide +kernel
theorem dX7_request_80 : decode cX7_request 80 = .ok (.getfield 136, 3) := by decide +kernel
theorem dX7_request_83 : decode cX7_request 83 = .ok (.ireturn, 1) := by decide +kernel
theorem dX7_requests_0 : decode cX7_requests 0 = .ok (.aload_n 0, 1) := by decide +kernel
theorem dX7_requests_1 : decode cX7_requests 1 = .ok (.iconst 0, 1) := by decide +kernel
theorem dX7_requests_2 : decode cX7_requests 2 = .ok (.putfield 56, 3) := by decide +kernel
theorem dX7_requests_5 : decode cX7_requests 5 = .ok (.aload_n 0, 1) := by decide +kernel
theorem dX7_requests_6 : decode cX7_requests 6 = .ok (.getfield 136, 3) := by decide +kernel
theorem dX7_requests_9 : decode cX7_requests 9 = .ok (.ireturn, 1) := by decide +kernel
theorem dX7_requestAt_0 : decode cX7_requestAt 0 = .ok (.aload_n 0, 1) := by decide +kernel
theorem dX7_requestAt_1 : decode cX7_requestAt 1 = .ok (.iload_n 1, 1) := by decide +kernel
theorem dX7_requestAt_2 : decode cX7_requestAt 2 = .ok (.iconst 0, 1) := by decide +kernel
theorem dX7_requestAt_3 : decode cX7_requestAt 3 = .ok (.aload_n 0, 1) := by decide +kernel
theorem dX7_requestAt_4 : decode cX7_requestAt 4 = .ok (.getfield 136, 3) := by decide +kernel
theorem dX7_requestAt_7 : decode cX7_requestAt 7 = .ok (.iconst 1, 1) := by decide +kernel
theorem dX7_requestAt_8 : decode cX7_requestAt 8 = .ok (.isub, 1) := by decide +kernel
theorem dX7_requestAt_9 : decode cX7_requestAt 9 = .ok (.invokestatic 63, 3) := by decide +kernel
theorem dX7_requestAt_12 : decode cX7_requestAt 12 = .ok (.ifCond .eq 7, 3) := by decide +kernel
theorem dX7_requestAt_15 : decode cX7_requestAt 15 = .ok (.iconst 0, 1) := by decide +kernel
theorem dX7_requestAt_16 : decode cX7_requestAt 16 = .ok (.goto 4, 3) := by decide +kernel
theorem dX7_requestAt_19 : decode cX7_requestAt 19 = .ok (.iconst 1, 1) := by decide +kernel
theorem dX7_requestAt_20 : decode cX7_requestAt 20 = .ok (.invokevirtual 77, 3) := by decide +kernel
theorem dX7_requestAt_23 : decode cX7_requestAt 23 = .ok (.ifCond .eq 12, 3) := by decide +kernel
theorem dX7_requestAt_26 : decode cX7_requestAt 26 = .ok (.aload_n 0, 1) := by decide +kernel
theorem dX7_requestAt_27 : decode cX7_requestAt 27 = .ok (.getfield 50, 3) := by decide +kernel
theorem dX7_requestAt_30 : decode cX7_requestAt 30 = .ok (.iload_n 1, 1) := by decide +kernel
theorem dX7_requestAt_31 : decode cX7_requestAt 31 = .ok (.iaload, 1) := by decide +kernel
theorem dX7_requestAt_32 : decode cX7_requestAt 32 = .ok (.goto 4, 3) := by decide +kernel
theorem dX7_requestAt_35 : decode cX7_requestAt 35 = .ok (.iconst 0, 1) := by decide +kernel
theorem dX7_requestAt_36 : decode cX7_requestAt 36 = .ok (.ireturn, 1) := by decide +kernel
theorem dX7_lengthOf_0 : decode cX7_lengthOf 0 = .ok (.aload_n 0, 1) := by decide +kernel
theorem dX7_lengthOf_1 : decode cX7_lengthOf 1 = .ok (.aload_n 0, 1) := by decide +kernel
theorem dX7_lengthOf_2 : decode cX7_lengthOf 2 = .ok (.iload_n 1, 1) := by decide +kernel
theorem dX7_lengthOf_3 : decode cX7_lengthOf 3 = .ok (.invokevirtual 84, 3) := by decide +kernel
theorem dX7_lengthOf_6 : decode cX7_lengthOf 6 = .ok (.ifCond .eq 7, 3) := by decide +kernel
theorem dX7_lengthOf_9 : decode cX7_lengthOf 9 = .ok (.iconst 0, 1) := by decide +kernel
theorem dX7_lengthOf_10 : decode cX7_lengthOf 10 = .ok (.goto 4, 3) := by decide +kernel
theorem dX7_lengthOf_13 : decode cX7_lengthOf 13 = .ok (.iconst 1, 1) := by decide +kernel
theorem dX7_lengthOf_14 : decode cX7_lengthOf 14 = .ok (.invokevirtual 77, 3) := by decide +kernel
theorem dX7_lengthOf_17 : decode cX7_lengthOf 17 = .ok (.ifCond .eq 11, 3) := by decide +kernel
theorem dX7_lengthOf_20 : decode cX7_lengthOf 20 = .ok (.aload_n 0, 1) := by decide +kernel
theorem dX7_lengthOf_21 : decode cX7_lengthOf 21 = .ok (.iload_n 1, 1) := by decide +kernel
theorem dX7_lengthOf_22 : decode cX7_lengthOf 22 = .ok (.invokevirtual 87, 3) := by decide +kernel
theorem dX7_lengthOf_25 : decode cX7_lengthOf 25 = .ok (.goto 4, 3) := by decide +kernel
theorem dX7_lengthOf_28 : decode cX7_lengthOf 28 = .ok (.iconst 0, 1) := by decide +kernel
theorem dX7_lengthOf_29 : decode cX7_lengthOf 29 = .ok (.ireturn, 1) := by decide +kernel
theorem dX7_workOf_0 : decode cX7_workOf 0 = .ok (.aload_n 0, 1) := by decide +kernel
theorem dX7_workOf_1 : decode cX7_workOf 1 = .ok (.aload_n 0, 1) := by decide +kernel
theorem dX7_workOf_2 : decode cX7_workOf 2 = .ok (.iload_n 1, 1) := by decide +kernel
theorem dX7_workOf_3 : decode cX7_workOf 3 = .ok (.invokevirtual 84, 3) := by decide +kernel
theorem dX7_workOf_6 : decode cX7_workOf 6 = .ok (.ifCond .eq 7, 3) := by decide +kernel
theorem dX7_workOf_9 : decode cX7_workOf 9 = .ok (.iconst 0, 1) := by decide +kernel
theorem dX7_workOf_10 : decode cX7_workOf 10 = .ok (.goto 4, 3) := by decide +kernel
theorem dX7_workOf_13 : decode cX7_workOf 13 = .ok (.iconst 1, 1) := by decide +kernel
theorem dX7_workOf_14 : decode cX7_workOf 14 = .ok (.invokevirtual 77, 3) := by decide +kernel
theorem dX7_workOf_17 : decode cX7_workOf 17 = .ok (.ifCond .eq 11, 3) := by decide +kernel
theorem dX7_workOf_20 : decode cX7_workOf 20 = .ok (.aload_n 0, 1) := by decide +kernel
theorem dX7_workOf_21 : decode cX7_workOf 21 = .ok (.iload_n 1, 1) := by decide +kernel
theorem dX7_workOf_22 : decode cX7_workOf 22 = .ok (.invokevirtual 94, 3) := by decide +kernel
theorem dX7_workOf_25 : decode cX7_workOf 25 = .ok (.goto 4, 3) := by decide +kernel
theorem dX7_workOf_28 : decode cX7_workOf 28 = .ok (.iconst 0, 1) := by decide +kernel
theorem dX7_workOf_29 : decode cX7_workOf 29 = .ok (.ireturn, 1) := by decide +kernel
theorem dX7_skillsOf_0 : decode cX7_skillsOf 0 = .ok (.aload_n 0, 1) := by decide +kernel
theorem dX7_skillsOf_1 : decode cX7_skillsOf 1 = .ok (.aload_n 0, 1) := by decide +kernel
theorem dX7_skillsOf_2 : decode cX7_skillsOf 2 = .ok (.iload_n 1, 1) := by decide +kernel
theorem dX7_skillsOf_3 : decode cX7_skillsOf 3 = .ok (.invokevirtual 84, 3) := by decide +kernel
theorem dX7_skillsOf_6 : decode cX7_skillsOf 6 = .ok (.ifCond .eq 7, 3) := by decide +kernel
theorem dX7_skillsOf_9 : decode cX7_skillsOf 9 = .ok (.iconst 0, 1) := by decide +kernel
theorem dX7_skillsOf_10 : decode cX7_skillsOf 10 = .ok (.goto 4, 3) := by decide +kernel
theorem dX7_skillsOf_13 : decode cX7_skillsOf 13 = .ok (.iconst 1, 1) := by decide +kernel
theorem dX7_skillsOf_14 : decode cX7_skillsOf 14 = .ok (.invokevirtual 77, 3) := by decide +kernel
theorem dX7_skillsOf_17 : decode cX7_skillsOf 17 = .ok (.ifCond .eq 11, 3) := by decide +kernel
theorem dX7_skillsOf_20 : decode cX7_skillsOf 20 = .ok (.aload_n 0, 1) := by decide +kernel
theorem dX7_skillsOf_21 : decode cX7_skillsOf 21 = .ok (.iload_n 1, 1) := by decide +kernel
theorem dX7_skillsOf_22 : decode cX7_skillsOf 22 = .ok (.invokevirtual 91, 3) := by decide +kernel
theorem dX7_skillsOf_25 : decode cX7_skillsOf 25 = .ok (.goto 4, 3) := by decide +kernel
theorem dX7_skillsOf_28 : decode cX7_skillsOf 28 = .ok (.iconst 0, 1) := by decide +kernel
theorem dX7_skillsOf_29 : decode cX7_skillsOf 29 = .ok (.ireturn, 1) := by decide +kernel
theorem dX7_visits_0 : decode cX7_visits 0 = .ok (.aload_n 0, 1) := by decide +kernel
theorem dX7_visits_1 : decode cX7_visits 1 = .ok (.iconst 0, 1) := by decide +kernel
theorem dX7_visits_2 : decode cX7_visits 2 = .ok (.putfield 56, 3) := by decide +kernel
theorem dX7_visits_5 : decode cX7_visits 5 = .ok (.aload_n 0, 1) := by decide +kernel
theorem dX7_visits_6 : decode cX7_visits 6 = .ok (.getfield 70, 3) := by decide +kernel
theorem dX7_visits_9 : decode cX7_visits 9 = .ok (.ireturn, 1) := by decide +kernel
theorem dX7_startOf_0 : decode cX7_startOf 0 = .ok (.aload_n 0, 1) := by decide +kernel
theorem dX7_startOf_1 : decode cX7_startOf 1 = .ok (.aload_n 0, 1) := by decide +kernel
theorem dX7_startOf_2 : decode cX7_startOf 2 = .ok (.iload_n 1, 1) := by decide +kernel
theorem dX7_startOf_3 : decode cX7_startOf 3 = .ok (.invokevirtual 73, 3) := by decide +kernel
theorem dX7_startOf_6 : decode cX7_startOf 6 = .ok (.ifCond .eq 7, 3) := by decide +kernel
theorem dX7_startOf_9 : decode cX7_startOf 9 = .ok (.iconst 0, 1) := by decide +kernel
theorem dX7_startOf_10 : decode cX7_startOf 10 = .ok (.goto 4, 3) := by decide +kernel
theorem dX7_startOf_13 : decode cX7_startOf 13 = .ok (.iconst 1, 1) := by decide +kernel
theorem dX7_startOf_14 : decode cX7_startOf 14 = .ok (.invokevirtual 77, 3) := by decide +kernel
theorem dX7_startOf_17 : decode cX7_startOf 17 = .ok (.ifCond .eq 12, 3) := by decide +kernel
theorem dX7_startOf_20 : decode cX7_startOf 20 = .ok (.aload_n 0, 1) := by decide +kernel
theorem dX7_startOf_21 : decode cX7_startOf 21 = .ok (.getfield 41, 3) := by decide +kernel
theorem dX7_startOf_24 : decode cX7_startOf 24 = .ok (.iload_n 1, 1) := by decide +kernel
theorem dX7_startOf_25 : decode cX7_startOf 25 = .ok (.iaload, 1) := by decide +kernel
theorem dX7_startOf_26 : decode cX7_startOf 26 = .ok (.goto 4, 3) := by decide +kernel
theorem dX7_startOf_29 : decode cX7_startOf 29 = .ok (.iconst 0, 1) := by decide +kernel
theorem dX7_startOf_30 : decode cX7_startOf 30 = .ok (.ireturn, 1) := by decide +kernel
theorem dX7_staffOf_0 : decode cX7_staffOf 0 = .ok (.aload_n 0, 1) := by decide +kernel
theorem dX7_staffOf_1 : decode cX7_staffOf 1 = .ok (.aload_n 0, 1) := by decide +kernel
theorem dX7_staffOf_2 : decode cX7_staffOf 2 = .ok (.iload_n 1, 1) := by decide +kernel
theorem dX7_staffOf_3 : decode cX7_staffOf 3 = .ok (.invokevirtual 73, 3) := by decide +kernel
theorem dX7_staffOf_6 : decode cX7_staffOf 6 = .ok (.ifCond .eq 7, 3) := by decide +kernel
theorem dX7_staffOf_9 : decode cX7_staffOf 9 = .ok (.iconst 0, 1) := by decide +kernel
theorem dX7_staffOf_10 : decode cX7_staffOf 10 = .ok (.goto 4, 3) := by decide +kernel
theorem dX7_staffOf_13 : decode cX7_staffOf 13 = .ok (.iconst 1, 1) := by decide +kernel
theorem dX7_staffOf_14 : decode cX7_staffOf 14 = .ok (.invokevirtual 77, 3) := by decide +kernel
theorem dX7_staffOf_17 : decode cX7_staffOf 17 = .ok (.ifCond .ne 7, 3) := by decide +kernel
theorem dX7_staffOf_20 : decode cX7_staffOf 20 = .ok (.iconst 0, 1) := by decide +kernel
theorem dX7_staffOf_21 : decode cX7_staffOf 21 = .ok (.goto 23, 3) := by decide +kernel
theorem dX7_staffOf_24 : decode cX7_staffOf 24 = .ok (.aload_n 0, 1) := by decide +kernel
theorem dX7_staffOf_25 : decode cX7_staffOf 25 = .ok (.getfield 41, 3) := by decide +kernel
theorem dX7_staffOf_28 : decode cX7_staffOf 28 = .ok (.iload_n 1, 1) := by decide +kernel
theorem dX7_staffOf_29 : decode cX7_staffOf 29 = .ok (.iaload, 1) := by decide +kernel
theorem dX7_staffOf_30 : decode cX7_staffOf 30 = .ok (.iconst (-1), 1) := by decide +kernel
theorem dX7_staffOf_31 : decode cX7_staffOf 31 = .ok (.if_icmp .ne 7, 3) := by decide +kernel
theorem dX7_staffOf_34 : decode cX7_staffOf 34 = .ok (.iconst (-1), 1) := by decide +kernel
theorem dX7_staffOf_35 : decode cX7_staffOf 35 = .ok (.goto 9, 3) := by decide +kernel
theorem dX7_staffOf_38 : decode cX7_staffOf 38 = .ok (.aload_n 0, 1) := by decide +kernel
theorem dX7_staffOf_39 : decode cX7_staffOf 39 = .ok (.getfield 35, 3) := by decide +kernel
theorem dX7_staffOf_42 : decode cX7_staffOf 42 = .ok (.iload_n 1, 1) := by decide +kernel
theorem dX7_staffOf_43 : decode cX7_staffOf 43 = .ok (.iaload, 1) := by decide +kernel
theorem dX7_staffOf_44 : decode cX7_staffOf 44 = .ok (.ireturn, 1) := by decide +kernel
theorem dX7_chairOf_0 : decode cX7_chairOf 0 = .ok (.aload_n 0, 1) := by decide +kernel
theorem dX7_chairOf_1 : decode cX7_chairOf 1 = .ok (.aload_n 0, 1) := by decide +kernel
theorem dX7_chairOf_2 : decode cX7_chairOf 2 = .ok (.iload_n 1, 1) := by decide +kernel
theorem dX7_chairOf_3 : decode cX7_chairOf 3 = .ok (.invokevirtual 73, 3) := by decide +kernel
theorem dX7_chairOf_6 : decode cX7_chairOf 6 = .ok (.ifCond .eq 7, 3) := by decide +kernel
theorem dX7_chairOf_9 : decode cX7_chairOf 9 = .ok (.iconst 0, 1) := by decide +kernel
theorem dX7_chairOf_10 : decode cX7_chairOf 10 = .ok (.goto 4, 3) := by decide +kernel
theorem dX7_chairOf_13 : decode cX7_chairOf 13 = .ok (.iconst 1, 1) := by decide +kernel
theorem dX7_chairOf_14 : decode cX7_chairOf 14 = .ok (.invokevirtual 77, 3) := by decide +kernel
theorem dX7_chairOf_17 : decode cX7_chairOf 17 = .ok (.ifCond .ne 7, 3) := by decide +kernel
theorem dX7_chairOf_20 : decode cX7_chairOf 20 = .ok (.iconst 0, 1) := by decide +kernel
theorem dX7_chairOf_21 : decode cX7_chairOf 21 = .ok (.goto 23, 3) := by decide +kernel
theorem dX7_chairOf_24 : decode cX7_chairOf 24 = .ok (.aload_n 0, 1) := by decide +kernel
theorem dX7_chairOf_25 : decode cX7_chairOf 25 = .ok (.getfield 41, 3) := by decide +kernel
theorem dX7_chairOf_28 : decode cX7_chairOf 28 = .ok (.iload_n 1, 1) := by decide +kernel
theorem dX7_chairOf_29 : decode cX7_chairOf 29 = .ok (.iaload, 1) := by decide +kernel
theorem dX7_chairOf_30 : decode cX7_chairOf 30 = .ok (.iconst (-1), 1) := by decide +kernel
theorem dX7_chairOf_31 : decode cX7_chairOf 31 = .ok (.if_icmp .ne 7, 3) := by decide +kernel
theorem dX7_chairOf_34 : decode cX7_chairOf 34 = .ok (.iconst (-1), 1) := by decide +kernel
theorem dX7_chairOf_35 : decode cX7_chairOf 35 = .ok (.goto 9, 3) := by decide +kernel
theorem dX7_chairOf_38 : decode cX7_chairOf 38 = .ok (.aload_n 0, 1) := by decide +kernel
theorem dX7_chairOf_39 : decode cX7_chairOf 39 = .ok (.getfield 38, 3) := by decide +kernel
theorem dX7_chairOf_42 : decode cX7_chairOf 42 = .ok (.iload_n 1, 1) := by decide +kernel
theorem dX7_chairOf_43 : decode cX7_chairOf 43 = .ok (.iaload, 1) := by decide +kernel
theorem dX7_chairOf_44 : decode cX7_chairOf 44 = .ok (.ireturn, 1) := by decide +kernel
theorem dX7_serviceOf_0 : decode cX7_serviceOf 0 = .ok (.aload_n 0, 1) := by decide +kernel
theorem dX7_serviceOf_1 : decode cX7_serviceOf 1 = .ok (.aload_n 0, 1) := by decide +kernel
theorem dX7_serviceOf_2 : decode cX7_serviceOf 2 = .ok (.iload_n 1, 1) := by decide +kernel
theorem dX7_serviceOf_3 : decode cX7_serviceOf 3 = .ok (.invokevirtual 73, 3) := by decide +kernel
theorem dX7_serviceOf_6 : decode cX7_serviceOf 6 = .ok (.ifCond .eq 7, 3) := by decide +kernel
theorem dX7_serviceOf_9 : decode cX7_serviceOf 9 = .ok (.iconst 0, 1) := by decide +kernel
theorem dX7_serviceOf_10 : decode cX7_serviceOf 10 = .ok (.goto 4, 3) := by decide +kernel
theorem dX7_serviceOf_13 : decode cX7_serviceOf 13 = .ok (.iconst 1, 1) := by decide +kernel
theorem dX7_serviceOf_14 : decode cX7_serviceOf 14 = .ok (.invokevirtual 77, 3) := by decide +kernel
theorem dX7_serviceOf_17 : decode cX7_serviceOf 17 = .ok (.ifCond .eq 12, 3) := by decide +kernel
theorem dX7_serviceOf_20 : decode cX7_serviceOf 20 = .ok (.aload_n 0, 1) := by decide +kernel
theorem dX7_serviceOf_21 : decode cX7_serviceOf 21 = .ok (.getfield 32, 3) := by decide +kernel
theorem dX7_serviceOf_24 : decode cX7_serviceOf 24 = .ok (.iload_n 1, 1) := by decide +kernel
theorem dX7_serviceOf_25 : decode cX7_serviceOf 25 = .ok (.iaload, 1) := by decide +kernel
theorem dX7_serviceOf_26 : decode cX7_serviceOf 26 = .ok (.goto 4, 3) := by decide +kernel
theorem dX7_serviceOf_29 : decode cX7_serviceOf 29 = .ok (.iconst 0, 1) := by decide +kernel
theorem dX7_serviceOf_30 : decode cX7_serviceOf 30 = .ok (.ireturn, 1) := by decide +kernel
theorem dX7_loadOf_0 : decode cX7_loadOf 0 = .ok (.aload_n 0, 1) := by decide +kernel
theorem dX7_loadOf_1 : decode cX7_loadOf 1 = .ok (.aload_n 0, 1) := by decide +kernel
theorem dX7_loadOf_2 : decode cX7_loadOf 2 = .ok (.iload_n 1, 1) := by decide +kernel
theorem dX7_loadOf_3 : decode cX7_loadOf 3 = .ok (.invokevirtual 133, 3) := by decide +kernel
theorem dX7_loadOf_6 : decode cX7_loadOf 6 = .ok (.ifCond .eq 7, 3) := by decide +kernel
theorem dX7_loadOf_9 : decode cX7_loadOf 9 = .ok (.iconst 0, 1) := by decide +kernel
theorem dX7_loadOf_10 : decode cX7_loadOf 10 = .ok (.goto 4, 3) := by decide +kernel
theorem dX7_loadOf_13 : decode cX7_loadOf 13 = .ok (.iconst 1, 1) := by decide +kernel
theorem dX7_loadOf_14 : decode cX7_loadOf 14 = .ok (.invokevirtual 77, 3) := by decide +kernel
theorem dX7_loadOf_17 : decode cX7_loadOf 17 = .ok (.ifCond .eq 11, 3) := by decide +kernel
theorem dX7_loadOf_20 : decode cX7_loadOf 20 = .ok (.aload_n 0, 1) := by decide +kernel
theorem dX7_loadOf_21 : decode cX7_loadOf 21 = .ok (.iload_n 1, 1) := by decide +kernel
theorem dX7_loadOf_22 : decode cX7_loadOf 22 = .ok (.invokevirtual 100, 3) := by decide +kernel
theorem dX7_loadOf_25 : decode cX7_loadOf 25 = .ok (.goto 4, 3) := by decide +kernel
theorem dX7_loadOf_28 : decode cX7_loadOf 28 = .ok (.iconst 0, 1) := by decide +kernel
theorem dX7_loadOf_29 : decode cX7_loadOf 29 = .ok (.ireturn, 1) := by decide +kernel
theorem dX7_staffAt_0 : decode cX7_staffAt 0 = .ok (.aload_n 0, 1) := by decide +kernel
theorem dX7_staffAt_1 : decode cX7_staffAt 1 = .ok (.aload_n 0, 1) := by decide +kernel
theorem dX7_staffAt_2 : decode cX7_staffAt 2 = .ok (.iload_n 1, 1) := by decide +kernel
theorem dX7_staffAt_3 : decode cX7_staffAt 3 = .ok (.invokevirtual 133, 3) := by decide +kernel
theorem dX7_staffAt_6 : decode cX7_staffAt 6 = .ok (.ifCond .eq 14, 3) := by decide +kernel
theorem dX7_staffAt_9 : decode cX7_staffAt 9 = .ok (.iload_n 2, 1) := by decide +kernel
theorem dX7_staffAt_10 : decode cX7_staffAt 10 = .ok (.invokestatic 124, 3) := by decide +kernel
theorem dX7_staffAt_13 : decode cX7_staffAt 13 = .ok (.ifCond .eq 7, 3) := by decide +kernel
theorem dX7_staffAt_16 : decode cX7_staffAt 16 = .ok (.iconst 0, 1) := by decide +kernel
theorem dX7_staffAt_17 : decode cX7_staffAt 17 = .ok (.goto 4, 3) := by decide +kernel
theorem dX7_staffAt_20 : decode cX7_staffAt 20 = .ok (.iconst 1, 1) := by decide +kernel
theorem dX7_staffAt_21 : decode cX7_staffAt 21 = .ok (.invokevirtual 77, 3) := by decide +kernel
theorem dX7_staffAt_24 : decode cX7_staffAt 24 = .ok (.ifCond .eq 18, 3) := by decide +kernel
theorem dX7_staffAt_27 : decode cX7_staffAt 27 = .ok (.aload_n 0, 1) := by decide +kernel
theorem dX7_staffAt_28 : decode cX7_staffAt 28 = .ok (.getfield 44, 3) := by decide +kernel
theorem dX7_staffAt_31 : decode cX7_staffAt 31 = .ok (.sipush 600, 3) := by decide +kernel
theorem dX7_staffAt_34 : decode cX7_staffAt 34 = .ok (.iload_n 1, 1) := by decide +kernel
theorem dX7_staffAt_35 : decode cX7_staffAt 35 = .ok (.imul, 1) := by decide +kernel
theorem dX7_staffAt_36 : decode cX7_staffAt 36 = .ok (.iload_n 2, 1) := by decide +kernel
theorem dX7_staffAt_37 : decode cX7_staffAt 37 = .ok (.iadd, 1) := by decide +kernel
theorem dX7_staffAt_38 : decode cX7_staffAt 38 = .ok (.iaload, 1) := by decide +kernel
theorem dX7_staffAt_39 : decode cX7_staffAt 39 = .ok (.goto 4, 3) := by decide +kernel
theorem dX7_staffAt_42 : decode cX7_staffAt 42 = .ok (.iconst 0, 1) := by decide +kernel
theorem dX7_staffAt_43 : decode cX7_staffAt 43 = .ok (.ireturn, 1) := by decide +kernel
theorem dX7_chairAt_0 : decode cX7_chairAt 0 = .ok (.aload_n 0, 1) := by decide +kernel
theorem dX7_chairAt_1 : decode cX7_chairAt 1 = .ok (.iload_n 1, 1) := by decide +kernel
theorem dX7_chairAt_2 : decode cX7_chairAt 2 = .ok (.iconst 0, 1) := by decide +kernel
theorem dX7_chairAt_3 : decode cX7_chairAt 3 = .ok (.iconst 3, 1) := by decide +kernel
theorem dX7_chairAt_4 : decode cX7_chairAt 4 = .ok (.invokestatic 63, 3) := by decide +kernel
theorem dX7_chairAt_7 : decode cX7_chairAt 7 = .ok (.ifCond .eq 14, 3) := by decide +kernel
theorem dX7_chairAt_10 : decode cX7_chairAt 10 = .ok (.iload_n 2, 1) := by decide +kernel
theorem dX7_chairAt_11 : decode cX7_chairAt 11 = .ok (.invokestatic 124, 3) := by decide +kernel
theorem dX7_chairAt_14 : decode cX7_chairAt 14 = .ok (.ifCond .eq 7, 3) := by decide +kernel
theorem dX7_chairAt_17 : decode cX7_chairAt 17 = .ok (.iconst 0, 1) := by decide +kernel
theorem dX7_chairAt_18 : decode cX7_chairAt 18 = .ok (.goto 4, 3) := by decide +kernel
theorem dX7_chairAt_21 : decode cX7_chairAt 21 = .ok (.iconst 1, 1) := by decide +kernel
theorem dX7_chairAt_22 : decode cX7_chairAt 22 = .ok (.invokevirtual 77, 3) := by decide +kernel
theorem dX7_chairAt_25 : decode cX7_chairAt 25 = .ok (.ifCond .eq 18, 3) := by decide +kernel
theorem dX7_chairAt_28 : decode cX7_chairAt 28 = .ok (.aload_n 0, 1) := by decide +kernel
theorem dX7_chairAt_29 : decode cX7_chairAt 29 = .ok (.getfield 47, 3) := by decide +kernel
theorem dX7_chairAt_32 : decode cX7_chairAt 32 = .ok (.sipush 600, 3) := by decide +kernel
theorem dX7_chairAt_35 : decode cX7_chairAt 35 = .ok (.iload_n 1, 1) := by decide +kernel
theorem dX7_chairAt_36 : decode cX7_chairAt 36 = .ok (.imul, 1) := by decide +kernel
theorem dX7_chairAt_37 : decode cX7_chairAt 37 = .ok (.iload_n 2, 1) := by decide +kernel
theorem dX7_chairAt_38 : decode cX7_chairAt 38 = .ok (.iadd, 1) := by decide +kernel
theorem dX7_chairAt_39 : decode cX7_chairAt 39 = .ok (.iaload, 1) := by decide +kernel
theorem dX7_chairAt_40 : decode cX7_chairAt 40 = .ok (.goto 4, 3) := by decide +kernel
theorem dX7_chairAt_43 : decode cX7_chairAt 43 = .ok (.iconst 0, 1) := by decide +kernel
theorem dX7_chairAt_44 : decode cX7_chairAt 44 = .ok (.ireturn, 1) := by decide +kernel
theorem dX7_earliest_0 : decode cX7_earliest 0 = .ok (.aload_n 0, 1) := by decide +kernel
theorem dX7_earliest_1 : decode cX7_earliest 1 = .ok (.aload_n 0, 1) := by decide +kernel
theorem dX7_earliest_2 : decode cX7_earliest 2 = .ok (.iload_n 1, 1) := by decide +kernel
theorem dX7_earliest_3 : decode cX7_earliest 3 = .ok (.invokevirtual 84, 3) := by decide +kernel
theorem dX7_earliest_6 : decode cX7_earliest 6 = .ok (.ifCond .eq 14, 3) := by decide +kernel
theorem dX7_earliest_9 : decode cX7_earliest 9 = .ok (.iload_n 2, 1) := by decide +kernel
theorem dX7_earliest_10 : decode cX7_earliest 10 = .ok (.invokestatic 124, 3) := by decide +kernel
theorem dX7_earliest_13 : decode cX7_earliest 13 = .ok (.ifCond .eq 7, 3) := by decide +kernel
theorem dX7_earliest_16 : decode cX7_earliest 16 = .ok (.iconst 0, 1) := by decide +kernel
theorem dX7_earliest_17 : decode cX7_earliest 17 = .ok (.goto 4, 3) := by decide +kernel
theorem dX7_earliest_20 : decode cX7_earliest 20 = .ok (.iconst 1, 1) := by decide +kernel
theorem dX7_earliest_21 : decode cX7_earliest 21 = .ok (.invokevirtual 77, 3) := by decide +kernel
theorem dX7_earliest_24 : decode cX7_earliest 24 = .ok (.ifCond .eq 13, 3) := by decide +kernel
theorem dX7_earliest_27 : decode cX7_earliest 27 = .ok (.aload_n 0, 1) := by decide +kernel
theorem dX7_earliest_28 : decode cX7_earliest 28 = .ok (.iload_n 1, 1) := by decide +kernel
theorem dX7_earliest_29 : decode cX7_earliest 29 = .ok (.iload_n 2, 1) := by decide +kernel
theorem dX7_earliest_30 : decode cX7_earliest 30 = .ok (.iconst (-1), 1) := by decide +kernel
theorem dX7_earliest_31 : decode cX7_earliest 31 = .ok (.invokevirtual 127, 3) := by decide +kernel
theorem dX7_earliest_34 : decode cX7_earliest 34 = .ok (.goto 4, 3) := by decide +kernel
theorem dX7_earliest_37 : decode cX7_earliest 37 = .ok (.iconst 0, 1) := by decide +kernel
theorem dX7_earliest_38 : decode cX7_earliest 38 = .ok (.ireturn, 1) := by decide +kernel
theorem dX7_earliestByScan_0 : decode cX7_earliestByScan 0 = .ok (.aload_n 0, 1) := by decide +kernel
theorem dX7_earliestByScan_1 : decode cX7_earliestByScan 1 = .ok (.iload_n 1, 1) := by decide +kernel
theorem dX7_earliestByScan_2 : decode cX7_earliestByScan 2 = .ok (.iload_n 2, 1) := by decide +kernel
theorem dX7_earliestByScan_3 : decode cX7_earliestByScan 3 = .ok (.invokevirtual 146, 3) := by decide +kernel
theorem dX7_earliestByScan_6 : decode cX7_earliestByScan 6 = .ok (.ireturn, 1) := by decide +kernel
theorem dX7_staffFor_0 : decode cX7_staffFor 0 = .ok (.aload_n 0, 1) := by decide +kernel
theorem dX7_staffFor_1 : decode cX7_staffFor 1 = .ok (.aload_n 0, 1) := by decide +kernel
theorem dX7_staffFor_2 : decode cX7_staffFor 2 = .ok (.iload_n 1, 1) := by decide +kernel
theorem dX7_staffFor_3 : decode cX7_staffFor 3 = .ok (.invokevirtual 84, 3) := by decide +kernel
theorem dX7_staffFor_6 : decode cX7_staffFor 6 = .ok (.ifCond .eq 14, 3) := by decide +kernel
theorem dX7_staffFor_9 : decode cX7_staffFor 9 = .ok (.iload_n 2, 1) := by decide +kernel
theorem dX7_staffFor_10 : decode cX7_staffFor 10 = .ok (.invokestatic 124, 3) := by decide +kernel
theorem dX7_staffFor_13 : decode cX7_staffFor 13 = .ok (.ifCond .eq 7, 3) := by decide +kernel
theorem dX7_staffFor_16 : decode cX7_staffFor 16 = .ok (.iconst 0, 1) := by decide +kernel
theorem dX7_staffFor_17 : decode cX7_staffFor 17 = .ok (.goto 4, 3) := by decide +kernel
theorem dX7_staffFor_20 : decode cX7_staffFor 20 = .ok (.iconst 1, 1) := by decide +kernel
theorem dX7_staffFor_21 : decode cX7_staffFor 21 = .ok (.invokevirtual 77, 3) := by decide +kernel
theorem dX7_staffFor_24 : decode cX7_staffFor 24 = .ok (.ifCond .ne 5, 3) := by decide +kernel
theorem dX7_staffFor_27 : decode cX7_staffFor 27 = .ok (.iconst 0, 1) := by decide +kernel
theorem dX7_staffFor_28 : decode cX7_staffFor 28 = .ok (.ireturn, 1) := by decide +kernel
theorem dX7_staffFor_29 : decode cX7_staffFor 29 = .ok (.aload_n 0, 1) := by decide +kernel
theorem dX7_staffFor_30 : decode cX7_staffFor 30 = .ok (.iload_n 1, 1) := by decide +kernel
theorem dX7_staffFor_31 : decode cX7_staffFor 31 = .ok (.iload_n 2, 1) := by decide +kernel
theorem dX7_staffFor_32 : decode cX7_staffFor 32 = .ok (.iconst (-1), 1) := by decide +kernel
theorem dX7_staffFor_33 : decode cX7_staffFor 33 = .ok (.invokevirtual 127, 3) := by decide +kernel
theorem dX7_staffFor_36 : decode cX7_staffFor 36 = .ok (.iconst (-1), 1) := by decide +kernel
theorem dX7_staffFor_37 : decode cX7_staffFor 37 = .ok (.if_icmp .ne 7, 3) := by decide +kernel
theorem dX7_staffFor_40 : decode cX7_staffFor 40 = .ok (.iconst (-1), 1) := by decide +kernel
theorem dX7_staffFor_41 : decode cX7_staffFor 41 = .ok (.goto 7, 3) := by decide +kernel
theorem dX7_staffFor_44 : decode cX7_staffFor 44 = .ok (.aload_n 0, 1) := by decide +kernel
theorem dX7_staffFor_45 : decode cX7_staffFor 45 = .ok (.getfield 107, 3) := by decide +kernel
theorem dX7_staffFor_48 : decode cX7_staffFor 48 = .ok (.ireturn, 1) := by decide +kernel
theorem dX7_inRest_0 : decode cX7_inRest 0 = .ok (.aload_n 0, 1) := by decide +kernel
theorem dX7_inRest_1 : decode cX7_inRest 1 = .ok (.aload_n 0, 1) := by decide +kernel
theorem dX7_inRest_2 : decode cX7_inRest 2 = .ok (.iload_n 1, 1) := by decide +kernel
theorem dX7_inRest_3 : decode cX7_inRest 3 = .ok (.invokevirtual 139, 3) := by decide +kernel
theorem dX7_inRest_6 : decode cX7_inRest 6 = .ok (.ifCond .eq 15, 3) := by decide +kernel
theorem dX7_inRest_9 : decode cX7_inRest 9 = .ok (.aload_n 0, 1) := by decide +kernel
theorem dX7_inRest_10 : decode cX7_inRest 10 = .ok (.iload_n 2, 1) := by decide +kernel
theorem dX7_inRest_11 : decode cX7_inRest 11 = .ok (.invokevirtual 84, 3) := by decide +kernel
theorem dX7_inRest_14 : decode cX7_inRest 14 = .ok (.ifCond .eq 7, 3) := by decide +kernel
theorem dX7_inRest_17 : decode cX7_inRest 17 = .ok (.iconst 0, 1) := by decide +kernel
theorem dX7_inRest_18 : decode cX7_inRest 18 = .ok (.goto 4, 3) := by decide +kernel
theorem dX7_inRest_21 : decode cX7_inRest 21 = .ok (.iconst 1, 1) := by decide +kernel
theorem dX7_inRest_22 : decode cX7_inRest 22 = .ok (.invokevirtual 77, 3) := by decide +kernel
theorem dX7_inRest_25 : decode cX7_inRest 25 = .ok (.ifCond .ne 5, 3) := by decide +kernel
theorem dX7_inRest_28 : decode cX7_inRest 28 = .ok (.iconst 0, 1) := by decide +kernel
theorem dX7_inRest_29 : decode cX7_inRest 29 = .ok (.ireturn, 1) := by decide +kernel
theorem dX7_inRest_30 : decode cX7_inRest 30 = .ok (.aload_n 0, 1) := by decide +kernel
theorem dX7_inRest_31 : decode cX7_inRest 31 = .ok (.getfield 32, 3) := by decide +kernel
theorem dX7_inRest_34 : decode cX7_inRest 34 = .ok (.iload_n 1, 1) := by decide +kernel
theorem dX7_inRest_35 : decode cX7_inRest 35 = .ok (.iaload, 1) := by decide +kernel
theorem dX7_inRest_36 : decode cX7_inRest 36 = .ok (.istore_n 3, 1) := by decide +kernel
theorem dX7_inRest_37 : decode cX7_inRest 37 = .ok (.aload_n 0, 1) := by decide +kernel
theorem dX7_inRest_38 : decode cX7_inRest 38 = .ok (.getfield 41, 3) := by decide +kernel
theorem dX7_inRest_41 : decode cX7_inRest 41 = .ok (.iload_n 1, 1) := by decide +kernel
theorem dX7_inRest_42 : decode cX7_inRest 42 = .ok (.iaload, 1) := by decide +kernel
theorem dX7_inRest_43 : decode cX7_inRest 43 = .ok (.istore 4, 2) := by decide +kernel
theorem dX7_inRest_45 : decode cX7_inRest 45 = .ok (.iconst 0, 1) := by decide +kernel
theorem dX7_inRest_46 : decode cX7_inRest 46 = .ok (.istore 5, 2) := by decide +kernel
theorem dX7_inRest_48 : decode cX7_inRest 48 = .ok (.iload 5, 2) := by decide +kernel
theorem dX7_inRest_50 : decode cX7_inRest 50 = .ok (.aload_n 0, 1) := by decide +kernel
theorem dX7_inRest_51 : decode cX7_inRest 51 = .ok (.getfield 25, 3) := by decide +kernel
theorem dX7_inRest_54 : decode cX7_inRest 54 = .ok (.iload_n 3, 1) := by decide +kernel
theorem dX7_inRest_55 : decode cX7_inRest 55 = .ok (.iaload, 1) := by decide +kernel
theorem dX7_inRest_56 : decode cX7_inRest 56 = .ok (.if_icmp .ge 97, 3) := by decide +kernel
theorem dX7_inRest_59 : decode cX7_inRest 59 = .ok (.iload 4, 2) := by decide +kernel
theorem dX7_inRest_61 : decode cX7_inRest 61 = .ok (.aload_n 0, 1) := by decide +kernel
theorem dX7_inRest_62 : decode cX7_inRest 62 = .ok (.getfield 22, 3) := by decide +kernel
theorem dX7_inRest_65 : decode cX7_inRest 65 = .ok (.iconst 5, 1) := by decide +kernel
theorem dX7_inRest_66 : decode cX7_inRest 66 = .ok (.iload_n 3, 1) := by decide +kernel
theorem dX7_inRest_67 : decode cX7_inRest 67 = .ok (.imul, 1) := by decide +kernel
theorem dX7_inRest_68 : decode cX7_inRest 68 = .ok (.iload 5, 2) := by decide +kernel
theorem dX7_inRest_70 : decode cX7_inRest 70 = .ok (.iadd, 1) := by decide +kernel
theorem dX7_inRest_71 : decode cX7_inRest 71 = .ok (.iaload, 1) := by decide +kernel
theorem dX7_inRest_72 : decode cX7_inRest 72 = .ok (.iadd, 1) := by decide +kernel
theorem dX7_inRest_73 : decode cX7_inRest 73 = .ok (.istore 6, 2) := by decide +kernel
theorem dX7_inRest_75 : decode cX7_inRest 75 = .ok (.aload_n 0, 1) := by decide +kernel
theorem dX7_inRest_76 : decode cX7_inRest 76 = .ok (.getfield 19, 3) := by decide +kernel
theorem dX7_inRest_79 : decode cX7_inRest 79 = .ok (.iconst 5, 1) := by decide +kernel
theorem dX7_inRest_80 : decode cX7_inRest 80 = .ok (.iload_n 3, 1) := by decide +kernel
theorem dX7_inRest_81 : decode cX7_inRest 81 = .ok (.imul, 1) := by decide +kernel
theorem dX7_inRest_82 : decode cX7_inRest 82 = .ok (.iload 5, 2) := by decide +kernel
theorem dX7_inRest_84 : decode cX7_inRest 84 = .ok (.iadd, 1) := by decide +kernel
theorem dX7_inRest_85 : decode cX7_inRest 85 = .ok (.iaload, 1) := by decide +kernel
theorem dX7_inRest_86 : decode cX7_inRest 86 = .ok (.iconst (-1), 1) := by decide +kernel
theorem dX7_inRest_87 : decode cX7_inRest 87 = .ok (.if_icmp .ne 56, 3) := by decide +kernel
theorem dX7_inRest_90 : decode cX7_inRest 90 = .ok (.iload 4, 2) := by decide +kernel
theorem dX7_inRest_92 : decode cX7_inRest 92 = .ok (.istore 7, 2) := by decide +kernel
theorem dX7_inRest_94 : decode cX7_inRest 94 = .ok (.iload 7, 2) := by decide +kernel
theorem dX7_inRest_96 : decode cX7_inRest 96 = .ok (.aload_n 0, 1) := by decide +kernel
theorem dX7_inRest_97 : decode cX7_inRest 97 = .ok (.iload_n 2, 1) := by decide +kernel
theorem dX7_inRest_98 : decode cX7_inRest 98 = .ok (.invokevirtual 87, 3) := by decide +kernel
theorem dX7_inRest_101 : decode cX7_inRest 101 = .ok (.iadd, 1) := by decide +kernel
theorem dX7_inRest_102 : decode cX7_inRest 102 = .ok (.iload 6, 2) := by decide +kernel
theorem dX7_inRest_104 : decode cX7_inRest 104 = .ok (.if_icmp .gt 39, 3) := by decide +kernel
theorem dX7_inRest_107 : decode cX7_inRest 107 = .ok (.aload_n 0, 1) := by decide +kernel
theorem dX7_inRest_108 : decode cX7_inRest 108 = .ok (.aload_n 0, 1) := by decide +kernel
theorem dX7_inRest_109 : decode cX7_inRest 109 = .ok (.getfield 35, 3) := by decide +kernel
theorem dX7_inRest_112 : decode cX7_inRest 112 = .ok (.iload_n 1, 1) := by decide +kernel
theorem dX7_inRest_113 : decode cX7_inRest 113 = .ok (.iaload, 1) := by decide +kernel
theorem dX7_inRest_114 : decode cX7_inRest 114 = .ok (.iload_n 2, 1) := by decide +kernel
theorem dX7_inRest_115 : decode cX7_inRest 115 = .ok (.iload 7, 2) := by decide +kernel
theorem dX7_inRest_117 : decode cX7_inRest 117 = .ok (.invokevirtual 97, 3) := by decide +kernel
theorem dX7_inRest_120 : decode cX7_inRest 120 = .ok (.ifCond .eq 17, 3) := by decide +kernel
theorem dX7_inRest_123 : decode cX7_inRest 123 = .ok (.aload_n 0, 1) := by decide +kernel
theorem dX7_inRest_124 : decode cX7_inRest 124 = .ok (.iload_n 2, 1) := by decide +kernel
theorem dX7_inRest_125 : decode cX7_inRest 125 = .ok (.iload 7, 2) := by decide +kernel
theorem dX7_inRest_127 : decode cX7_inRest 127 = .ok (.invokevirtual 110, 3) := by decide +kernel
theorem dX7_inRest_130 : decode cX7_inRest 130 = .ok (.iconst (-1), 1) := by decide +kernel
theorem dX7_inRest_131 : decode cX7_inRest 131 = .ok (.if_icmp .eq 6, 3) := by decide +kernel
theorem dX7_inRest_134 : decode cX7_inRest 134 = .ok (.iload 7, 2) := by decide +kernel
theorem dX7_inRest_136 : decode cX7_inRest 136 = .ok (.ireturn, 1) := by decide +kernel
theorem dX7_inRest_137 : decode cX7_inRest 137 = .ok (.iinc 7 1, 3) := by decide +kernel
theorem dX7_inRest_140 : decode cX7_inRest 140 = .ok (.goto (-46), 3) := by decide +kernel
theorem dX7_inRest_143 : decode cX7_inRest 143 = .ok (.iload 6, 2) := by decide +kernel
theorem dX7_inRest_145 : decode cX7_inRest 145 = .ok (.istore 4, 2) := by decide +kernel
theorem dX7_inRest_147 : decode cX7_inRest 147 = .ok (.iinc 5 1, 3) := by decide +kernel
theorem dX7_inRest_150 : decode cX7_inRest 150 = .ok (.goto (-102), 3) := by decide +kernel
theorem dX7_inRest_153 : decode cX7_inRest 153 = .ok (.iconst (-1), 1) := by decide +kernel
theorem dX7_inRest_154 : decode cX7_inRest 154 = .ok (.ireturn, 1) := by decide +kernel
theorem dX7_fill_0 : decode cX7_fill 0 = .ok (.aload_n 0, 1) := by decide +kernel
theorem dX7_fill_1 : decode cX7_fill 1 = .ok (.iload_n 1, 1) := by decide +kernel
theorem dX7_fill_2 : decode cX7_fill 2 = .ok (.iconst 0, 1) := by decide +kernel
theorem dX7_fill_3 : decode cX7_fill 3 = .ok (.sipush 600, 3) := by decide +kernel
theorem dX7_fill_6 : decode cX7_fill 6 = .ok (.invokestatic 63, 3) := by decide +kernel
theorem dX7_fill_9 : decode cX7_fill 9 = .ok (.ifCond .eq 7, 3) := by decide +kernel
theorem dX7_fill_12 : decode cX7_fill 12 = .ok (.iconst 0, 1) := by decide +kernel
theorem dX7_fill_13 : decode cX7_fill 13 = .ok (.goto 4, 3) := by decide +kernel
theorem dX7_fill_16 : decode cX7_fill 16 = .ok (.iconst 1, 1) := by decide +kernel
theorem dX7_fill_17 : decode cX7_fill 17 = .ok (.invokevirtual 77, 3) := by decide +kernel
theorem dX7_fill_20 : decode cX7_fill 20 = .ok (.ifCond .ne 5, 3) := by decide +kernel
theorem dX7_fill_23 : decode cX7_fill 23 = .ok (.iconst 0, 1) := by decide +kernel
theorem dX7_fill_24 : decode cX7_fill 24 = .ok (.ireturn, 1) := by decide +kernel
theorem dX7_fill_25 : decode cX7_fill 25 = .ok (.iconst 0, 1) := by decide +kernel
theorem dX7_fill_26 : decode cX7_fill 26 = .ok (.istore_n 2, 1) := by decide +kernel
theorem dX7_fill_27 : decode cX7_fill 27 = .ok (.iconst 0, 1) := by decide +kernel
theorem dX7_fill_28 : decode cX7_fill 28 = .ok (.istore_n 3, 1) := by decide +kernel
theorem dX7_fill_29 : decode cX7_fill 29 = .ok (.iconst 0, 1) := by decide +kernel
theorem dX7_fill_30 : decode cX7_fill 30 = .ok (.istore 4, 2) := by decide +kernel
theorem dX7_fill_32 : decode cX7_fill 32 = .ok (.iload 4, 2) := by decide +kernel
theorem dX7_fill_34 : decode cX7_fill 34 = .ok (.iconst 1, 1) := by decide +kernel
theorem dX7_fill_35 : decode cX7_fill 35 = .ok (.aload_n 0, 1) := by decide +kernel
theorem dX7_fill_36 : decode cX7_fill 36 = .ok (.getfield 60, 3) := by decide +kernel
theorem dX7_fill_39 : decode cX7_fill 39 = .ok (.ishl, 1) := by decide +kernel
theorem dX7_fill_40 : decode cX7_fill 40 = .ok (.if_icmp .ge 74, 3) := by decide +kernel
theorem dX7_fill_43 : decode cX7_fill 43 = .ok (.iconst 0, 1) := by decide +kernel
theorem dX7_fill_44 : decode cX7_fill 44 = .ok (.istore 5, 2) := by decide +kernel
theorem dX7_fill_46 : decode cX7_fill 46 = .ok (.iconst 0, 1) := by decide +kernel
theorem dX7_fill_47 : decode cX7_fill 47 = .ok (.istore 6, 2) := by decide +kernel
theorem dX7_fill_49 : decode cX7_fill 49 = .ok (.iload 6, 2) := by decide +kernel
theorem dX7_fill_51 : decode cX7_fill 51 = .ok (.aload_n 0, 1) := by decide +kernel
theorem dX7_fill_52 : decode cX7_fill 52 = .ok (.getfield 60, 3) := by decide +kernel
theorem dX7_fill_55 : decode cX7_fill 55 = .ok (.if_icmp .ge 35, 3) := by decide +kernel
theorem dX7_fill_58 : decode cX7_fill 58 = .ok (.iload 5, 2) := by decide +kernel
theorem dX7_fill_60 : decode cX7_fill 60 = .ok (.iload 4, 2) := by decide +kernel
theorem dX7_fill_62 : decode cX7_fill 62 = .ok (.iload 6, 2) := by decide +kernel
theorem dX7_fill_64 : decode cX7_fill 64 = .ok (.ishr, 1) := by decide +kernel
theorem dX7_fill_65 : decode cX7_fill 65 = .ok (.iconst 1, 1) := by decide +kernel
theorem dX7_fill_66 : decode cX7_fill 66 = .ok (.iand, 1) := by decide +kernel
theorem dX7_fill_67 : decode cX7_fill 67 = .ok (.iconst 1, 1) := by decide +kernel
theorem dX7_fill_68 : decode cX7_fill 68 = .ok (.if_icmp .ne 12, 3) := by decide +kernel
theorem dX7_fill_71 : decode cX7_fill 71 = .ok (.aload_n 0, 1) := by decide +kernel
theorem dX7_fill_72 : decode cX7_fill 72 = .ok (.iload 6, 2) := by decide +kernel
theorem dX7_fill_74 : decode cX7_fill 74 = .ok (.invokevirtual 87, 3) := by decide +kernel
theorem dX7_fill_77 : decode cX7_fill 77 = .ok (.goto 4, 3) := by decide +kernel
theorem dX7_fill_80 : decode cX7_fill 80 = .ok (.iconst 0, 1) := by decide +kernel
theorem dX7_fill_81 : decode cX7_fill 81 = .ok (.iadd, 1) := by decide +kernel
theorem dX7_fill_82 : decode cX7_fill 82 = .ok (.istore 5, 2) := by decide +kernel
theorem dX7_fill_84 : decode cX7_fill 84 = .ok (.iinc 6 1, 3) := by decide +kernel
theorem dX7_fill_87 : decode cX7_fill 87 = .ok (.goto (-38), 3) := by decide +kernel
theorem dX7_fill_90 : decode cX7_fill 90 = .ok (.iload 5, 2) := by decide +kernel
theorem dX7_fill_92 : decode cX7_fill 92 = .ok (.iload_n 1, 1) := by decide +kernel
theorem dX7_fill_93 : decode cX7_fill 93 = .ok (.if_icmp .gt 15, 3) := by decide +kernel
theorem dX7_fill_96 : decode cX7_fill 96 = .ok (.iload 5, 2) := by decide +kernel
theorem dX7_fill_98 : decode cX7_fill 98 = .ok (.iload_n 3, 1) := by decide +kernel
theorem dX7_fill_99 : decode cX7_fill 99 = .ok (.if_icmp .le 9, 3) := by decide +kernel
theorem dX7_fill_102 : decode cX7_fill 102 = .ok (.iload 4, 2) := by decide +kernel
theorem dX7_fill_104 : decode cX7_fill 104 = .ok (.istore_n 2, 1) := by decide +kernel
theorem dX7_fill_105 : decode cX7_fill 105 = .ok (.iload 5, 2) := by decide +kernel
theorem dX7_fill_107 : decode cX7_fill 107 = .ok (.istore_n 3, 1) := by decide +kernel
theorem dX7_fill_108 : decode cX7_fill 108 = .ok (.iinc 4 1, 3) := by decide +kernel
theorem dX7_fill_111 : decode cX7_fill 111 = .ok (.goto (-79), 3) := by decide +kernel
theorem dX7_fill_114 : decode cX7_fill 114 = .ok (.iload_n 2, 1) := by decide +kernel
theorem dX7_fill_115 : decode cX7_fill 115 = .ok (.ireturn, 1) := by decide +kernel
theorem dX7_peak_0 : decode cX7_peak 0 = .ok (.aload_n 0, 1) := by decide +kernel
theorem dX7_peak_1 : decode cX7_peak 1 = .ok (.iconst 0, 1) := by decide +kernel
theorem dX7_peak_2 : decode cX7_peak 2 = .ok (.putfield 56, 3) := by decide +kernel
theorem dX7_peak_5 : decode cX7_peak 5 = .ok (.iconst 0, 1) := by decide +kernel
theorem dX7_peak_6 : decode cX7_peak 6 = .ok (.istore_n 1, 1) := by decide +kernel
theorem dX7_peak_7 : decode cX7_peak 7 = .ok (.iconst 0, 1) := by decide +kernel
theorem dX7_peak_8 : decode cX7_peak 8 = .ok (.istore_n 2, 1) := by decide +kernel
theorem dX7_peak_9 : decode cX7_peak 9 = .ok (.iconst 0, 1) := by decide +kernel
theorem dX7_peak_10 : decode cX7_peak 10 = .ok (.istore_n 3, 1) := by decide +kernel
theorem dX7_peak_11 : decode cX7_peak 11 = .ok (.iload_n 3, 1) := by decide +kernel
theorem dX7_peak_12 : decode cX7_peak 12 = .ok (.sipush 600, 3) := by decide +kernel
theorem dX7_peak_15 : decode cX7_peak 15 = .ok (.if_icmp .ge 65, 3) := by decide +kernel
theorem dX7_peak_18 : decode cX7_peak 18 = .ok (.iconst 0, 1) := by decide +kernel
theorem dX7_peak_19 : decode cX7_peak 19 = .ok (.istore 4, 2) := by decide +kernel
theorem dX7_peak_21 : decode cX7_peak 21 = .ok (.iconst 0, 1) := by decide +kernel
theorem dX7_peak_22 : decode cX7_peak 22 = .ok (.istore 5, 2) := by decide +kernel
theorem dX7_peak_24 : decode cX7_peak 24 = .ok (.iload 5, 2) := by decide +kernel
theorem dX7_peak_26 : decode cX7_peak 26 = .ok (.iconst 4, 1) := by decide +kernel
theorem dX7_peak_27 : decode cX7_peak 27 = .ok (.if_icmp .ge 36, 3) := by decide +kernel
theorem dX7_peak_30 : decode cX7_peak 30 = .ok (.iload 4, 2) := by decide +kernel
theorem dX7_peak_32 : decode cX7_peak 32 = .ok (.aload_n 0, 1) := by decide +kernel
theorem dX7_peak_33 : decode cX7_peak 33 = .ok (.getfield 47, 3) := by decide +kernel
theorem dX7_peak_36 : decode cX7_peak 36 = .ok (.sipush 600, 3) := by decide +kernel
theorem dX7_peak_39 : decode cX7_peak 39 = .ok (.iload 5, 2) := by decide +kernel
theorem dX7_peak_41 : decode cX7_peak 41 = .ok (.imul, 1) := by decide +kernel
theorem dX7_peak_42 : decode cX7_peak 42 = .ok (.iload_n 3, 1) := by decide +kernel
theorem dX7_peak_43 : decode cX7_peak 43 = .ok (.iadd, 1) := by decide +kernel
theorem dX7_peak_44 : decode cX7_peak 44 = .ok (.iaload, 1) := by decide +kernel
theorem dX7_peak_45 : decode cX7_peak 45 = .ok (.iconst (-1), 1) := by decide +kernel
theorem dX7_peak_46 : decode cX7_peak 46 = .ok (.if_icmp .ne 7, 3) := by decide +kernel
theorem dX7_peak_49 : decode cX7_peak 49 = .ok (.iconst 0, 1) := by decide +kernel
theorem dX7_peak_50 : decode cX7_peak 50 = .ok (.goto 4, 3) := by decide +kernel
theorem dX7_peak_53 : decode cX7_peak 53 = .ok (.iconst 1, 1) := by decide +kernel
theorem dX7_peak_54 : decode cX7_peak 54 = .ok (.iadd, 1) := by decide +kernel
theorem dX7_peak_55 : decode cX7_peak 55 = .ok (.istore 4, 2) := by decide +kernel
theorem dX7_peak_57 : decode cX7_peak 57 = .ok (.iinc 5 1, 3) := by decide +kernel
theorem dX7_peak_60 : decode cX7_peak 60 = .ok (.goto (-36), 3) := by decide +kernel
theorem dX7_peak_63 : decode cX7_peak 63 = .ok (.iload 4, 2) := by decide +kernel
theorem dX7_peak_65 : decode cX7_peak 65 = .ok (.iload_n 2, 1) := by decide +kernel
theorem dX7_peak_66 : decode cX7_peak 66 = .ok (.if_icmp .le 8, 3) := by decide +kernel
theorem dX7_peak_69 : decode cX7_peak 69 = .ok (.iload_n 3, 1) := by decide +kernel
theorem dX7_peak_70 : decode cX7_peak 70 = .ok (.istore_n 1, 1) := by decide +kernel
theorem dX7_peak_71 : decode cX7_peak 71 = .ok (.iload 4, 2) := by decide +kernel
theorem dX7_peak_73 : decode cX7_peak 73 = .ok (.istore_n 2, 1) := by decide +kernel
theorem dX7_peak_74 : decode cX7_peak 74 = .ok (.iinc 3 1, 3) := by decide +kernel
theorem dX7_peak_77 : decode cX7_peak 77 = .ok (.goto (-66), 3) := by decide +kernel
theorem dX7_peak_80 : decode cX7_peak 80 = .ok (.iload_n 1, 1) := by decide +kernel
theorem dX7_peak_81 : decode cX7_peak 81 = .ok (.ireturn, 1) := by decide +kernel
theorem dJ9_max_7cf53_0 : decode cJ9_max_7cf53 0 = .ok (.iload_n 0, 1) := by decide +kernel
theorem dJ9_max_7cf53_1 : decode cJ9_max_7cf53 1 = .ok (.iload_n 1, 1) := by decide +kernel
theorem dJ9_max_7cf53_2 : decode cJ9_max_7cf53 2 = .ok (.if_icmp .lt 7, 3) := by decide +kernel
theorem dJ9_max_7cf53_5 : decode cJ9_max_7cf53 5 = .ok (.iload_n 0, 1) := by decide +kernel
theorem dJ9_max_7cf53_6 : decode cJ9_max_7cf53 6 = .ok (.goto 4, 3) := by decide +kernel
theorem dJ9_max_7cf53_9 : decode cJ9_max_7cf53 9 = .ok (.iload_n 1, 1) := by decide +kernel
theorem dJ9_max_7cf53_10 : decode cJ9_max_7cf53 10 = .ok (.ireturn, 1) := by decide +kernel
theorem dJ9_min_7cf53_0 : decode cJ9_min_7cf53 0 = .ok (.iload_n 0, 1) := by decide +kernel
theorem dJ9_min_7cf53_1 : decode cJ9_min_7cf53 1 = .ok (.iload_n 1, 1) := by decide +kernel
theorem dJ9_min_7cf53_2 : decode cJ9_min_7cf53 2 = .ok (.if_icmp .gt 7, 3) := by decide +kernel
theorem dJ9_min_7cf53_5 : decode cJ9_min_7cf53 5 = .ok (.iload_n 0, 1) := by decide +kernel
theorem dJ9_min_7cf53_6 : decode cJ9_min_7cf53 6 = .ok (.goto 4, 3) := by decide +kernel
theorem dJ9_min_7cf53_9 : decode cJ9_min_7cf53 9 = .ok (.iload_n 1, 1) := by decide +kernel
theorem dJ9_min_7cf53_10 : decode cJ9_min_7cf53 10 = .ok (.ireturn, 1) := by decide +kernel
theorem dJxa1e45_init_da8c8_0 : decode cJxa1e45_init_da8c8 0 = .ok (.aload_n 0, 1) := by decide +kernel
theorem dJxa1e45_init_da8c8_1 : decode cJxa1e45_init_da8c8 1 = .ok (.invokespecial 1, 3) := by decide +kernel
theorem dJxa1e45_init_da8c8_4 : decode cJxa1e45_init_da8c8 4 = .ok (.return_, 1) := by decide +kernel
theorem dJxc12de_init_da8c8_0 : decode cJxc12de_init_da8c8 0 = .ok (.aload_n 0, 1) := by decide +kernel
theorem dJxc12de_init_da8c8_1 : decode cJxc12de_init_da8c8 1 = .ok (.invokespecial 1, 3) := by decide +kernel
theorem dJxc12de_init_da8c8_4 : decode cJxc12de_init_da8c8 4 = .ok (.aload_n 0, 1) := by decide +kernel
theorem dJxc12de_init_da8c8_5 : decode cJxc12de_init_da8c8 5 = .ok (.iconst 0, 1) := by decide +kernel
theorem dJxc12de_init_da8c8_6 : decode cJxc12de_init_da8c8 6 = .ok (.putfield 7, 3) := by decide +kernel
theorem dJxc12de_init_da8c8_9 : decode cJxc12de_init_da8c8 9 = .ok (.return_, 1) := by decide +kernel
theorem dJx4a65c_init_da8c8_0 : decode cJx4a65c_init_da8c8 0 = .ok (.aload_n 0, 1) := by decide +kernel
theorem dJx4a65c_init_da8c8_1 : decode cJx4a65c_init_da8c8 1 = .ok (.invokespecial 1, 3) := by decide +kernel
theorem dJx4a65c_init_da8c8_4 : decode cJx4a65c_init_da8c8 4 = .ok (.aload_n 0, 1) := by decide +kernel
theorem dJx4a65c_init_da8c8_5 : decode cJx4a65c_init_da8c8 5 = .ok (.getstatic 39, 3) := by decide +kernel
theorem dJx4a65c_init_da8c8_8 : decode cJx4a65c_init_da8c8 8 = .ok (.putfield 9, 3) := by decide +kernel
theorem dJx4a65c_init_da8c8_11 : decode cJx4a65c_init_da8c8 11 = .ok (.return_, 1) := by decide +kernel
theorem dJx4a65c_grow_92f84_0 : decode cJx4a65c_grow_92f84 0 = .ok (.aload_n 0, 1) := by decide +kernel
theorem dJx4a65c_grow_92f84_1 : decode cJx4a65c_grow_92f84 1 = .ok (.getfield 9, 3) := by decide +kernel
theorem dJx4a65c_grow_92f84_4 : decode cJx4a65c_grow_92f84 4 = .ok (.arraylength, 1) := by decide +kernel
theorem dJx4a65c_grow_92f84_5 : decode cJx4a65c_grow_92f84 5 = .ok (.istore_n 2, 1) := by decide +kernel
theorem dJx4a65c_grow_92f84_6 : decode cJx4a65c_grow_92f84 6 = .ok (.iload_n 2, 1) := by decide +kernel
theorem dJx4a65c_grow_92f84_7 : decode cJx4a65c_grow_92f84 7 = .ok (.ifCond .gt 13, 3) := by decide +kernel
theorem dJx4a65c_grow_92f84_10 : decode cJx4a65c_grow_92f84 10 = .ok (.aload_n 0, 1) := by decide +kernel
theorem dJx4a65c_grow_92f84_11 : decode cJx4a65c_grow_92f84 11 = .ok (.getfield 9, 3) := by decide +kernel
theorem dJx4a65c_grow_92f84_14 : decode cJx4a65c_grow_92f84 14 = .ok (.getstatic 39, 3) := by decide +kernel
theorem dJx4a65c_grow_92f84_17 : decode cJx4a65c_grow_92f84 17 = .ok (.if_acmp .eq 28, 3) := by decide +kernel
theorem dJx4a65c_grow_92f84_20 : decode cJx4a65c_grow_92f84 20 = .ok (.iload_n 2, 1) := by decide +kernel
theorem dJx4a65c_grow_92f84_21 : decode cJx4a65c_grow_92f84 21 = .ok (.iload_n 1, 1) := by decide +kernel
theorem dJx4a65c_grow_92f84_22 : decode cJx4a65c_grow_92f84 22 = .ok (.iload_n 2, 1) := by decide +kernel
theorem dJx4a65c_grow_92f84_23 : decode cJx4a65c_grow_92f84 23 = .ok (.isub, 1) := by decide +kernel
theorem dJx4a65c_grow_92f84_24 : decode cJx4a65c_grow_92f84 24 = .ok (.iload_n 2, 1) := by decide +kernel
theorem dJx4a65c_grow_92f84_25 : decode cJx4a65c_grow_92f84 25 = .ok (.iconst 1, 1) := by decide +kernel
theorem dJx4a65c_grow_92f84_26 : decode cJx4a65c_grow_92f84 26 = .ok (.ishr, 1) := by decide +kernel
theorem dJx4a65c_grow_92f84_27 : decode cJx4a65c_grow_92f84 27 = .ok (.invokestatic 73, 3) := by decide +kernel
theorem dJx4a65c_grow_92f84_30 : decode cJx4a65c_grow_92f84 30 = .ok (.istore_n 3, 1) := by decide +kernel
theorem dJx4a65c_grow_92f84_31 : decode cJx4a65c_grow_92f84 31 = .ok (.aload_n 0, 1) := by decide +kernel
theorem dJx4a65c_grow_92f84_32 : decode cJx4a65c_grow_92f84 32 = .ok (.aload_n 0, 1) := by decide +kernel
theorem dJx4a65c_grow_92f84_33 : decode cJx4a65c_grow_92f84 33 = .ok (.getfield 9, 3) := by decide +kernel
theorem dJx4a65c_grow_92f84_36 : decode cJx4a65c_grow_92f84 36 = .ok (.iload_n 3, 1) := by decide +kernel
theorem dJx4a65c_grow_92f84_37 : decode cJx4a65c_grow_92f84 37 = .ok (.invokestatic 66, 3) := by decide +kernel
theorem dJx4a65c_grow_92f84_40 : decode cJx4a65c_grow_92f84 40 = .ok (.dup_x1, 1) := by decide +kernel
theorem dJx4a65c_grow_92f84_41 : decode cJx4a65c_grow_92f84 41 = .ok (.putfield 9, 3) := by decide +kernel
theorem dJx4a65c_grow_92f84_44 : decode cJx4a65c_grow_92f84 44 = .ok (.areturn, 1) := by decide +kernel
theorem dJx4a65c_grow_92f84_45 : decode cJx4a65c_grow_92f84 45 = .ok (.aload_n 0, 1) := by decide +kernel
theorem dJx4a65c_grow_92f84_46 : decode cJx4a65c_grow_92f84 46 = .ok (.bipush 10, 2) := by decide +kernel
theorem dJx4a65c_grow_92f84_48 : decode cJx4a65c_grow_92f84 48 = .ok (.iload_n 1, 1) := by decide +kernel
theorem dJx4a65c_grow_92f84_49 : decode cJx4a65c_grow_92f84 49 = .ok (.invokestatic 79, 3) := by decide +kernel
theorem dJx4a65c_grow_92f84_52 : decode cJx4a65c_grow_92f84 52 = .ok (.anewarray 7, 3) := by decide +kernel
theorem dJx4a65c_grow_92f84_55 : decode cJx4a65c_grow_92f84 55 = .ok (.dup_x1, 1) := by decide +kernel
theorem dJx4a65c_grow_92f84_56 : decode cJx4a65c_grow_92f84 56 = .ok (.putfield 9, 3) := by decide +kernel
theorem dJx4a65c_grow_92f84_59 : decode cJx4a65c_grow_92f84 59 = .ok (.areturn, 1) := by decide +kernel
theorem dJx4a65c_grow_d5877_0 : decode cJx4a65c_grow_d5877 0 = .ok (.aload_n 0, 1) := by decide +kernel
theorem dJx4a65c_grow_d5877_1 : decode cJx4a65c_grow_d5877 1 = .ok (.aload_n 0, 1) := by decide +kernel
theorem dJx4a65c_grow_d5877_2 : decode cJx4a65c_grow_d5877 2 = .ok (.getfield 48, 3) := by decide +kernel
theorem dJx4a65c_grow_d5877_5 : decode cJx4a65c_grow_d5877 5 = .ok (.iconst 1, 1) := by decide +kernel
theorem dJx4a65c_grow_d5877_6 : decode cJx4a65c_grow_d5877 6 = .ok (.iadd, 1) := by decide +kernel
theorem dJx4a65c_grow_d5877_7 : decode cJx4a65c_grow_d5877 7 = .ok (.invokevirtual 69, 3) := by decide +kernel
theorem dJx4a65c_grow_d5877_10 : decode cJx4a65c_grow_d5877 10 = .ok (.areturn, 1) := by decide +kernel
theorem dJx4a65c_size_8abf5_0 : decode cJx4a65c_size_8abf5 0 = .ok (.aload_n 0, 1) := by decide +kernel
theorem dJx4a65c_size_8abf5_1 : decode cJx4a65c_size_8abf5 1 = .ok (.getfield 48, 3) := by decide +kernel
theorem dJx4a65c_size_8abf5_4 : decode cJx4a65c_size_8abf5 4 = .ok (.ireturn, 1) := by decide +kernel
theorem dJx4a65c_elementData_915e3_0 : decode cJx4a65c_elementData_915e3 0 = .ok (.aload_n 0, 1) := by decide +kernel
theorem dJx4a65c_elementData_915e3_1 : decode cJx4a65c_elementData_915e3 1 = .ok (.getfield 9, 3) := by decide +kernel
theorem dJx4a65c_elementData_915e3_4 : decode cJx4a65c_elementData_915e3 4 = .ok (.iload_n 1, 1) := by decide +kernel
theorem dJx4a65c_elementData_915e3_5 : decode cJx4a65c_elementData_915e3 5 = .ok (.aaload, 1) := by decide +kernel
theorem dJx4a65c_elementData_915e3_6 : decode cJx4a65c_elementData_915e3 6 = .ok (.areturn, 1) := by decide +kernel
theorem dJx4a65c_get_915e3_0 : decode cJx4a65c_get_915e3 0 = .ok (.iload_n 1, 1) := by decide +kernel
theorem dJx4a65c_get_915e3_1 : decode cJx4a65c_get_915e3 1 = .ok (.aload_n 0, 1) := by decide +kernel
theorem dJx4a65c_get_915e3_2 : decode cJx4a65c_get_915e3 2 = .ok (.getfield 48, 3) := by decide +kernel
theorem dJx4a65c_get_915e3_5 : decode cJx4a65c_get_915e3 5 = .ok (.invokestatic 118, 3) := by decide +kernel
theorem dJx4a65c_get_915e3_8 : decode cJx4a65c_get_915e3 8 = .ok (.pop, 1) := by decide +kernel
theorem dJx4a65c_get_915e3_9 : decode cJx4a65c_get_915e3 9 = .ok (.aload_n 0, 1) := by decide +kernel
theorem dJx4a65c_get_915e3_10 : decode cJx4a65c_get_915e3 10 = .ok (.iload_n 1, 1) := by decide +kernel
theorem dJx4a65c_get_915e3_11 : decode cJx4a65c_get_915e3 11 = .ok (.invokevirtual 123, 3) := by decide +kernel
theorem dJx4a65c_get_915e3_14 : decode cJx4a65c_get_915e3 14 = .ok (.areturn, 1) := by decide +kernel
theorem dJx4a65c_add_72be8_0 : decode cJx4a65c_add_72be8 0 = .ok (.iload_n 3, 1) := by decide +kernel
theorem dJx4a65c_add_72be8_1 : decode cJx4a65c_add_72be8 1 = .ok (.aload_n 2, 1) := by decide +kernel
theorem dJx4a65c_add_72be8_2 : decode cJx4a65c_add_72be8 2 = .ok (.arraylength, 1) := by decide +kernel
theorem dJx4a65c_add_72be8_3 : decode cJx4a65c_add_72be8 3 = .ok (.if_icmp .ne 8, 3) := by decide +kernel
theorem dJx4a65c_add_72be8_6 : decode cJx4a65c_add_72be8 6 = .ok (.aload_n 0, 1) := by decide +kernel
theorem dJx4a65c_add_72be8_7 : decode cJx4a65c_add_72be8 7 = .ok (.invokevirtual 129, 3) := by decide +kernel
theorem dJx4a65c_add_72be8_10 : decode cJx4a65c_add_72be8 10 = .ok (.astore_n 2, 1) := by decide +kernel
theorem dJx4a65c_add_72be8_11 : decode cJx4a65c_add_72be8 11 = .ok (.aload_n 2, 1) := by decide +kernel
theorem dJx4a65c_add_72be8_12 : decode cJx4a65c_add_72be8 12 = .ok (.iload_n 3, 1) := by decide +kernel
theorem dJx4a65c_add_72be8_13 : decode cJx4a65c_add_72be8 13 = .ok (.aload_n 1, 1) := by decide +kernel
theorem dJx4a65c_add_72be8_14 : decode cJx4a65c_add_72be8 14 = .ok (.aastore, 1) := by decide +kernel
theorem dJx4a65c_add_72be8_15 : decode cJx4a65c_add_72be8 15 = .ok (.aload_n 0, 1) := by decide +kernel
theorem dJx4a65c_add_72be8_16 : decode cJx4a65c_add_72be8 16 = .ok (.iload_n 3, 1) := by decide +kernel
theorem dJx4a65c_add_72be8_17 : decode cJx4a65c_add_72be8 17 = .ok (.iconst 1, 1) := by decide +kernel
theorem dJx4a65c_add_72be8_18 : decode cJx4a65c_add_72be8 18 = .ok (.iadd, 1) := by decide +kernel
theorem dJx4a65c_add_72be8_19 : decode cJx4a65c_add_72be8 19 = .ok (.putfield 48, 3) := by decide +kernel
theorem dJx4a65c_add_72be8_22 : decode cJx4a65c_add_72be8 22 = .ok (.return_, 1) := by decide +kernel
theorem dJx4a65c_add_9ea2d_0 : decode cJx4a65c_add_9ea2d 0 = .ok (.aload_n 0, 1) := by decide +kernel
theorem dJx4a65c_add_9ea2d_1 : decode cJx4a65c_add_9ea2d 1 = .ok (.dup, 1) := by decide +kernel
theorem dJx4a65c_add_9ea2d_2 : decode cJx4a65c_add_9ea2d 2 = .ok (.getfield 63, 3) := by decide +kernel
theorem dJx4a65c_add_9ea2d_5 : decode cJx4a65c_add_9ea2d 5 = .ok (.iconst 1, 1) := by decide +kernel
theorem dJx4a65c_add_9ea2d_6 : decode cJx4a65c_add_9ea2d 6 = .ok (.iadd, 1) := by decide +kernel
theorem dJx4a65c_add_9ea2d_7 : decode cJx4a65c_add_9ea2d 7 = .ok (.putfield 63, 3) := by decide +kernel
theorem dJx4a65c_add_9ea2d_10 : decode cJx4a65c_add_9ea2d 10 = .ok (.aload_n 0, 1) := by decide +kernel
theorem dJx4a65c_add_9ea2d_11 : decode cJx4a65c_add_9ea2d 11 = .ok (.aload_n 1, 1) := by decide +kernel
theorem dJx4a65c_add_9ea2d_12 : decode cJx4a65c_add_9ea2d 12 = .ok (.aload_n 0, 1) := by decide +kernel
theorem dJx4a65c_add_9ea2d_13 : decode cJx4a65c_add_9ea2d 13 = .ok (.getfield 9, 3) := by decide +kernel
theorem dJx4a65c_add_9ea2d_16 : decode cJx4a65c_add_9ea2d 16 = .ok (.aload_n 0, 1) := by decide +kernel
theorem dJx4a65c_add_9ea2d_17 : decode cJx4a65c_add_9ea2d 17 = .ok (.getfield 48, 3) := by decide +kernel
theorem dJx4a65c_add_9ea2d_20 : decode cJx4a65c_add_9ea2d 20 = .ok (.invokevirtual 131, 3) := by decide +kernel
theorem dJx4a65c_add_9ea2d_23 : decode cJx4a65c_add_9ea2d 23 = .ok (.iconst 1, 1) := by decide +kernel
theorem dJx4a65c_add_9ea2d_24 : decode cJx4a65c_add_9ea2d 24 = .ok (.ireturn, 1) := by decide +kernel
theorem dJx4a65c_remove_915e3_0 : decode cJx4a65c_remove_915e3 0 = .ok (.iload_n 1, 1) := by decide +kernel
theorem dJx4a65c_remove_915e3_1 : decode cJx4a65c_remove_915e3 1 = .ok (.aload_n 0, 1) := by decide +kernel
theorem dJx4a65c_remove_915e3_2 : decode cJx4a65c_remove_915e3 2 = .ok (.getfield 48, 3) := by decide +kernel
theorem dJx4a65c_remove_915e3_5 : decode cJx4a65c_remove_915e3 5 = .ok (.invokestatic 118, 3) := by decide +kernel
theorem dJx4a65c_remove_915e3_8 : decode cJx4a65c_remove_915e3 8 = .ok (.pop, 1) := by decide +kernel
theorem dJx4a65c_remove_915e3_9 : decode cJx4a65c_remove_915e3 9 = .ok (.aload_n 0, 1) := by decide +kernel
theorem dJx4a65c_remove_915e3_10 : decode cJx4a65c_remove_915e3 10 = .ok (.getfield 9, 3) := by decide +kernel
theorem dJx4a65c_remove_915e3_13 : decode cJx4a65c_remove_915e3 13 = .ok (.astore_n 2, 1) := by decide +kernel
theorem dJx4a65c_remove_915e3_14 : decode cJx4a65c_remove_915e3 14 = .ok (.aload_n 2, 1) := by decide +kernel
theorem dJx4a65c_remove_915e3_15 : decode cJx4a65c_remove_915e3 15 = .ok (.iload_n 1, 1) := by decide +kernel
theorem dJx4a65c_remove_915e3_16 : decode cJx4a65c_remove_915e3 16 = .ok (.aaload, 1) := by decide +kernel
theorem dJx4a65c_remove_915e3_17 : decode cJx4a65c_remove_915e3 17 = .ok (.astore_n 3, 1) := by decide +kernel
theorem dJx4a65c_remove_915e3_18 : decode cJx4a65c_remove_915e3 18 = .ok (.aload_n 0, 1) := by decide +kernel
theorem dJx4a65c_remove_915e3_19 : decode cJx4a65c_remove_915e3 19 = .ok (.aload_n 2, 1) := by decide +kernel
theorem dJx4a65c_remove_915e3_20 : decode cJx4a65c_remove_915e3 20 = .ok (.iload_n 1, 1) := by decide +kernel
theorem dJx4a65c_remove_915e3_21 : decode cJx4a65c_remove_915e3 21 = .ok (.invokevirtual 144, 3) := by decide +kernel
theorem dJx4a65c_remove_915e3_24 : decode cJx4a65c_remove_915e3 24 = .ok (.aload_n 3, 1) := by decide +kernel
theorem dJx4a65c_remove_915e3_25 : decode cJx4a65c_remove_915e3 25 = .ok (.areturn, 1) := by decide +kernel
theorem dJx4a65c_fastRemove_b59b0_0 : decode cJx4a65c_fastRemove_b59b0 0 = .ok (.aload_n 0, 1) := by decide +kernel
theorem dJx4a65c_fastRemove_b59b0_1 : decode cJx4a65c_fastRemove_b59b0 1 = .ok (.dup, 1) := by decide +kernel
theorem dJx4a65c_fastRemove_b59b0_2 : decode cJx4a65c_fastRemove_b59b0 2 = .ok (.getfield 63, 3) := by decide +kernel
theorem dJx4a65c_fastRemove_b59b0_5 : decode cJx4a65c_fastRemove_b59b0 5 = .ok (.iconst 1, 1) := by decide +kernel
theorem dJx4a65c_fastRemove_b59b0_6 : decode cJx4a65c_fastRemove_b59b0 6 = .ok (.iadd, 1) := by decide +kernel
theorem dJx4a65c_fastRemove_b59b0_7 : decode cJx4a65c_fastRemove_b59b0 7 = .ok (.putfield 63, 3) := by decide +kernel
theorem dJx4a65c_fastRemove_b59b0_10 : decode cJx4a65c_fastRemove_b59b0 10 = .ok (.aload_n 0, 1) := by decide +kernel
theorem dJx4a65c_fastRemove_b59b0_11 : decode cJx4a65c_fastRemove_b59b0 11 = .ok (.getfield 48, 3) := by decide +kernel
theorem dJx4a65c_fastRemove_b59b0_14 : decode cJx4a65c_fastRemove_b59b0 14 = .ok (.iconst 1, 1) := by decide +kernel
theorem dJx4a65c_fastRemove_b59b0_15 : decode cJx4a65c_fastRemove_b59b0 15 = .ok (.isub, 1) := by decide +kernel
theorem dJx4a65c_fastRemove_b59b0_16 : decode cJx4a65c_fastRemove_b59b0 16 = .ok (.dup, 1) := by decide +kernel
theorem dJx4a65c_fastRemove_b59b0_17 : decode cJx4a65c_fastRemove_b59b0 17 = .ok (.istore_n 3, 1) := by decide +kernel
theorem dJx4a65c_fastRemove_b59b0_18 : decode cJx4a65c_fastRemove_b59b0 18 = .ok (.iload_n 2, 1) := by decide +kernel
theorem dJx4a65c_fastRemove_b59b0_19 : decode cJx4a65c_fastRemove_b59b0 19 = .ok (.if_icmp .le 15, 3) := by decide +kernel
theorem dJx4a65c_fastRemove_b59b0_22 : decode cJx4a65c_fastRemove_b59b0 22 = .ok (.aload_n 1, 1) := by decide +kernel
theorem dJx4a65c_fastRemove_b59b0_23 : decode cJx4a65c_fastRemove_b59b0 23 = .ok (.iload_n 2, 1) := by decide +kernel
theorem dJx4a65c_fastRemove_b59b0_24 : decode cJx4a65c_fastRemove_b59b0 24 = .ok (.iconst 1, 1) := by decide +kernel
theorem dJx4a65c_fastRemove_b59b0_25 : decode cJx4a65c_fastRemove_b59b0 25 = .ok (.iadd, 1) := by decide +kernel
theorem dJx4a65c_fastRemove_b59b0_26 : decode cJx4a65c_fastRemove_b59b0 26 = .ok (.aload_n 1, 1) := by decide +kernel
theorem dJx4a65c_fastRemove_b59b0_27 : decode cJx4a65c_fastRemove_b59b0 27 = .ok (.iload_n 2, 1) := by decide +kernel
theorem dJx4a65c_fastRemove_b59b0_28 : decode cJx4a65c_fastRemove_b59b0 28 = .ok (.iload_n 3, 1) := by decide +kernel
theorem dJx4a65c_fastRemove_b59b0_29 : decode cJx4a65c_fastRemove_b59b0 29 = .ok (.iload_n 2, 1) := by decide +kernel
theorem dJx4a65c_fastRemove_b59b0_30 : decode cJx4a65c_fastRemove_b59b0 30 = .ok (.isub, 1) := by decide +kernel
theorem dJx4a65c_fastRemove_b59b0_31 : decode cJx4a65c_fastRemove_b59b0 31 = .ok (.invokestatic 112, 3) := by decide +kernel
theorem dJx4a65c_fastRemove_b59b0_34 : decode cJx4a65c_fastRemove_b59b0 34 = .ok (.aload_n 1, 1) := by decide +kernel
theorem dJx4a65c_fastRemove_b59b0_35 : decode cJx4a65c_fastRemove_b59b0 35 = .ok (.aload_n 0, 1) := by decide +kernel
theorem dJx4a65c_fastRemove_b59b0_36 : decode cJx4a65c_fastRemove_b59b0 36 = .ok (.iload_n 3, 1) := by decide +kernel
theorem dJx4a65c_fastRemove_b59b0_37 : decode cJx4a65c_fastRemove_b59b0 37 = .ok (.dup_x1, 1) := by decide +kernel
theorem dJx4a65c_fastRemove_b59b0_38 : decode cJx4a65c_fastRemove_b59b0 38 = .ok (.putfield 48, 3) := by decide +kernel
theorem dJx4a65c_fastRemove_b59b0_41 : decode cJx4a65c_fastRemove_b59b0 41 = .ok (.aconst_null, 1) := by decide +kernel
theorem dJx4a65c_fastRemove_b59b0_42 : decode cJx4a65c_fastRemove_b59b0 42 = .ok (.aastore, 1) := by decide +kernel
theorem dJx4a65c_fastRemove_b59b0_43 : decode cJx4a65c_fastRemove_b59b0 43 = .ok (.return_, 1) := by decide +kernel
theorem dJ7_copyOf_1904c_0 : decode cJ7_copyOf_1904c 0 = .ok (.aload_n 0, 1) := by decide +kernel
theorem dJ7_copyOf_1904c_1 : decode cJ7_copyOf_1904c 1 = .ok (.iload_n 1, 1) := by decide +kernel
theorem dJ7_copyOf_1904c_2 : decode cJ7_copyOf_1904c 2 = .ok (.aload_n 0, 1) := by decide +kernel
theorem dJ7_copyOf_1904c_3 : decode cJ7_copyOf_1904c 3 = .ok (.invokevirtual 86, 3) := by decide +kernel
theorem dJ7_copyOf_1904c_6 : decode cJ7_copyOf_1904c 6 = .ok (.invokestatic 300, 3) := by decide +kernel
theorem dJ7_copyOf_1904c_9 : decode cJ7_copyOf_1904c 9 = .ok (.areturn, 1) := by decide +kernel
theorem dJ7_copyOf_6403c_0 : decode cJ7_copyOf_6403c 0 = .ok (.aload_n 2, 1) := by decide +kernel
theorem dJ7_copyOf_6403c_1 : decode cJ7_copyOf_6403c 1 = .ok (.ldc 110, 2) := by decide +kernel
theorem dJ7_copyOf_6403c_3 : decode cJ7_copyOf_6403c 3 = .ok (.if_acmp .ne 10, 3) := by decide +kernel
theorem dJ7_copyOf_6403c_6 : decode cJ7_copyOf_6403c 6 = .ok (.iload_n 1, 1) := by decide +kernel
theorem dJ7_copyOf_6403c_7 : decode cJ7_copyOf_6403c 7 = .ok (.anewarray 2, 3) := by decide +kernel
theorem dJ7_copyOf_6403c_10 : decode cJ7_copyOf_6403c 10 = .ok (.goto 14, 3) := by decide +kernel
theorem dJ7_copyOf_6403c_13 : decode cJ7_copyOf_6403c 13 = .ok (.aload_n 2, 1) := by decide +kernel
theorem dJ7_copyOf_6403c_14 : decode cJ7_copyOf_6403c 14 = .ok (.invokevirtual 90, 3) := by decide +kernel
theorem dJ7_copyOf_6403c_17 : decode cJ7_copyOf_6403c 17 = .ok (.iload_n 1, 1) := by decide +kernel
theorem dJ7_copyOf_6403c_18 : decode cJ7_copyOf_6403c 18 = .ok (.invokestatic 95, 3) := by decide +kernel
theorem dJ7_copyOf_6403c_21 : decode cJ7_copyOf_6403c 21 = .ok (.checkcast 110, 3) := by decide +kernel
theorem dJ7_copyOf_6403c_24 : decode cJ7_copyOf_6403c 24 = .ok (.astore_n 3, 1) := by decide +kernel
theorem dJ7_copyOf_6403c_25 : decode cJ7_copyOf_6403c 25 = .ok (.aload_n 0, 1) := by decide +kernel
theorem dJ7_copyOf_6403c_26 : decode cJ7_copyOf_6403c 26 = .ok (.iconst 0, 1) := by decide +kernel
theorem dJ7_copyOf_6403c_27 : decode cJ7_copyOf_6403c 27 = .ok (.aload_n 3, 1) := by decide +kernel
theorem dJ7_copyOf_6403c_28 : decode cJ7_copyOf_6403c 28 = .ok (.iconst 0, 1) := by decide +kernel
theorem dJ7_copyOf_6403c_29 : decode cJ7_copyOf_6403c 29 = .ok (.aload_n 0, 1) := by decide +kernel
theorem dJ7_copyOf_6403c_30 : decode cJ7_copyOf_6403c 30 = .ok (.arraylength, 1) := by decide +kernel
theorem dJ7_copyOf_6403c_31 : decode cJ7_copyOf_6403c 31 = .ok (.iload_n 1, 1) := by decide +kernel
theorem dJ7_copyOf_6403c_32 : decode cJ7_copyOf_6403c 32 = .ok (.invokestatic 304, 3) := by decide +kernel
theorem dJ7_copyOf_6403c_35 : decode cJ7_copyOf_6403c 35 = .ok (.invokestatic 150, 3) := by decide +kernel
theorem dJ7_copyOf_6403c_38 : decode cJ7_copyOf_6403c 38 = .ok (.aload_n 3, 1) := by decide +kernel
theorem dJ7_copyOf_6403c_39 : decode cJ7_copyOf_6403c 39 = .ok (.areturn, 1) := by decide +kernel
theorem dJ15_checkIndex_7cf53_0 : decode cJ15_checkIndex_7cf53 0 = .ok (.iload_n 0, 1) := by decide +kernel
theorem dJ15_checkIndex_7cf53_1 : decode cJ15_checkIndex_7cf53 1 = .ok (.iload_n 1, 1) := by decide +kernel
theorem dJ15_checkIndex_7cf53_2 : decode cJ15_checkIndex_7cf53 2 = .ok (.aconst_null, 1) := by decide +kernel
theorem dJ15_checkIndex_7cf53_3 : decode cJ15_checkIndex_7cf53 3 = .ok (.invokestatic 105, 3) := by decide +kernel
theorem dJ15_checkIndex_7cf53_6 : decode cJ15_checkIndex_7cf53 6 = .ok (.ireturn, 1) := by decide +kernel
theorem dJ8_newLength_cabcc_0 : decode cJ8_newLength_cabcc 0 = .ok (.iload_n 0, 1) := by decide +kernel
theorem dJ8_newLength_cabcc_1 : decode cJ8_newLength_cabcc 1 = .ok (.iload_n 1, 1) := by decide +kernel
theorem dJ8_newLength_cabcc_2 : decode cJ8_newLength_cabcc 2 = .ok (.iload_n 2, 1) := by decide +kernel
theorem dJ8_newLength_cabcc_3 : decode cJ8_newLength_cabcc 3 = .ok (.invokestatic 194, 3) := by decide +kernel
theorem dJ8_newLength_cabcc_6 : decode cJ8_newLength_cabcc 6 = .ok (.iadd, 1) := by decide +kernel
theorem dJ8_newLength_cabcc_7 : decode cJ8_newLength_cabcc 7 = .ok (.istore_n 3, 1) := by decide +kernel
theorem dJ8_newLength_cabcc_8 : decode cJ8_newLength_cabcc 8 = .ok (.iconst 0, 1) := by decide +kernel
theorem dJ8_newLength_cabcc_9 : decode cJ8_newLength_cabcc 9 = .ok (.iload_n 3, 1) := by decide +kernel
theorem dJ8_newLength_cabcc_10 : decode cJ8_newLength_cabcc 10 = .ok (.if_icmp .ge 11, 3) := by decide +kernel
theorem dJ8_newLength_cabcc_13 : decode cJ8_newLength_cabcc 13 = .ok (.iload_n 3, 1) := by decide +kernel
theorem dJ8_newLength_cabcc_14 : decode cJ8_newLength_cabcc 14 = .ok (.ldc 200, 2) := by decide +kernel
theorem dJ8_newLength_cabcc_16 : decode cJ8_newLength_cabcc 16 = .ok (.if_icmp .gt 5, 3) := by decide +kernel
theorem dJ8_newLength_cabcc_19 : decode cJ8_newLength_cabcc 19 = .ok (.iload_n 3, 1) := by decide +kernel
theorem dJ8_newLength_cabcc_20 : decode cJ8_newLength_cabcc 20 = .ok (.ireturn, 1) := by decide +kernel
theorem dJ8_newLength_cabcc_21 : decode cJ8_newLength_cabcc 21 = .ok (.iload_n 0, 1) := by decide +kernel
theorem dJ8_newLength_cabcc_22 : decode cJ8_newLength_cabcc 22 = .ok (.iload_n 1, 1) := by decide +kernel
theorem dJ8_newLength_cabcc_23 : decode cJ8_newLength_cabcc 23 = .ok (.invokestatic 201, 3) := by decide +kernel
theorem dJ8_newLength_cabcc_26 : decode cJ8_newLength_cabcc 26 = .ok (.ireturn, 1) := by decide +kernel
theorem dJ8_hugeLength_7cf53_0 : decode cJ8_hugeLength_7cf53 0 = .ok (.iload_n 0, 1) := by decide +kernel
theorem dJ8_hugeLength_7cf53_1 : decode cJ8_hugeLength_7cf53 1 = .ok (.iload_n 1, 1) := by decide +kernel
theorem dJ8_hugeLength_7cf53_2 : decode cJ8_hugeLength_7cf53 2 = .ok (.iadd, 1) := by decide +kernel
theorem dJ8_hugeLength_7cf53_3 : decode cJ8_hugeLength_7cf53 3 = .ok (.istore_n 2, 1) := by decide +kernel
theorem dJ8_hugeLength_7cf53_4 : decode cJ8_hugeLength_7cf53 4 = .ok (.iload_n 2, 1) := by decide +kernel
theorem dJ8_hugeLength_7cf53_5 : decode cJ8_hugeLength_7cf53 5 = .ok (.ifCond .ge 44, 3) := by decide +kernel
theorem dJ8_hugeLength_7cf53_8 : decode cJ8_hugeLength_7cf53 8 = .ok (.new 204, 3) := by decide +kernel
theorem dJ8_hugeLength_7cf53_11 : decode cJ8_hugeLength_7cf53 11 = .ok (.dup, 1) := by decide +kernel
theorem dJ8_hugeLength_7cf53_12 : decode cJ8_hugeLength_7cf53 12 = .ok (.new 89, 3) := by decide +kernel
theorem dJ8_hugeLength_7cf53_15 : decode cJ8_hugeLength_7cf53 15 = .ok (.dup, 1) := by decide +kernel
theorem dJ8_hugeLength_7cf53_16 : decode cJ8_hugeLength_7cf53 16 = .ok (.invokespecial 91, 3) := by decide +kernel
theorem dJ8_hugeLength_7cf53_19 : decode cJ8_hugeLength_7cf53 19 = .ok (.ldc 206, 2) := by decide +kernel
theorem dJ8_hugeLength_7cf53_21 : decode cJ8_hugeLength_7cf53 21 = .ok (.invokevirtual 94, 3) := by decide +kernel
theorem dJ8_hugeLength_7cf53_24 : decode cJ8_hugeLength_7cf53 24 = .ok (.iload_n 0, 1) := by decide +kernel
theorem dJ8_hugeLength_7cf53_25 : decode cJ8_hugeLength_7cf53 25 = .ok (.invokevirtual 98, 3) := by decide +kernel
theorem dJ8_hugeLength_7cf53_28 : decode cJ8_hugeLength_7cf53 28 = .ok (.ldc 208, 2) := by decide +kernel
theorem dJ8_hugeLength_7cf53_30 : decode cJ8_hugeLength_7cf53 30 = .ok (.invokevirtual 94, 3) := by decide +kernel
theorem dJ8_hugeLength_7cf53_33 : decode cJ8_hugeLength_7cf53 33 = .ok (.iload_n 1, 1) := by decide +kernel
theorem dJ8_hugeLength_7cf53_34 : decode cJ8_hugeLength_7cf53 34 = .ok (.invokevirtual 98, 3) := by decide +kernel
theorem dJ8_hugeLength_7cf53_37 : decode cJ8_hugeLength_7cf53 37 = .ok (.ldc 210, 2) := by decide +kernel
theorem dJ8_hugeLength_7cf53_39 : decode cJ8_hugeLength_7cf53 39 = .ok (.invokevirtual 94, 3) := by decide +kernel
theorem dJ8_hugeLength_7cf53_42 : decode cJ8_hugeLength_7cf53 42 = .ok (.invokevirtual 101, 3) := by decide +kernel
theorem dJ8_hugeLength_7cf53_45 : decode cJ8_hugeLength_7cf53 45 = .ok (.invokespecial 212, 3) := by decide +kernel
theorem dJ8_hugeLength_7cf53_48 : decode cJ8_hugeLength_7cf53 48 = .ok (.athrow, 1) := by decide +kernel
theorem dJ8_hugeLength_7cf53_49 : decode cJ8_hugeLength_7cf53 49 = .ok (.iload_n 2, 1) := by decide +kernel
theorem dJ8_hugeLength_7cf53_50 : decode cJ8_hugeLength_7cf53 50 = .ok (.ldc 200, 2) := by decide +kernel
theorem dJ8_hugeLength_7cf53_52 : decode cJ8_hugeLength_7cf53 52 = .ok (.if_icmp .gt 6, 3) := by decide +kernel
theorem dJ8_hugeLength_7cf53_55 : decode cJ8_hugeLength_7cf53 55 = .ok (.ldc 200, 2) := by decide +kernel
theorem dJ8_hugeLength_7cf53_57 : decode cJ8_hugeLength_7cf53 57 = .ok (.ireturn, 1) := by decide +kernel
theorem dJ8_hugeLength_7cf53_58 : decode cJ8_hugeLength_7cf53 58 = .ok (.iload_n 2, 1) := by decide +kernel
theorem dJ8_hugeLength_7cf53_59 : decode cJ8_hugeLength_7cf53 59 = .ok (.ireturn, 1) := by decide +kernel
theorem dJ3_checkIndex_8e157_0 : decode cJ3_checkIndex_8e157 0 = .ok (.iload_n 0, 1) := by decide +kernel
theorem dJ3_checkIndex_8e157_1 : decode cJ3_checkIndex_8e157 1 = .ok (.ifCond .lt 8, 3) := by decide +kernel
theorem dJ3_checkIndex_8e157_4 : decode cJ3_checkIndex_8e157 4 = .ok (.iload_n 0, 1) := by decide +kernel
theorem dJ3_checkIndex_8e157_5 : decode cJ3_checkIndex_8e157 5 = .ok (.iload_n 1, 1) := by decide +kernel
theorem dJ3_checkIndex_8e157_6 : decode cJ3_checkIndex_8e157 6 = .ok (.if_icmp .lt 10, 3) := by decide +kernel
theorem dJ3_checkIndex_8e157_9 : decode cJ3_checkIndex_8e157 9 = .ok (.aload_n 2, 1) := by decide +kernel
theorem dJ3_checkIndex_8e157_10 : decode cJ3_checkIndex_8e157 10 = .ok (.iload_n 0, 1) := by decide +kernel
theorem dJ3_checkIndex_8e157_11 : decode cJ3_checkIndex_8e157 11 = .ok (.iload_n 1, 1) := by decide +kernel
theorem dJ3_checkIndex_8e157_12 : decode cJ3_checkIndex_8e157 12 = .ok (.invokestatic 95, 3) := by decide +kernel
theorem dJ3_checkIndex_8e157_15 : decode cJ3_checkIndex_8e157 15 = .ok (.athrow, 1) := by decide +kernel
theorem dJ3_checkIndex_8e157_16 : decode cJ3_checkIndex_8e157 16 = .ok (.iload_n 0, 1) := by decide +kernel
theorem dJ3_checkIndex_8e157_17 : decode cJ3_checkIndex_8e157 17 = .ok (.ireturn, 1) := by decide +kernel
theorem dL_hire_0 : decode cL_hire 0 = .ok (.aload 4, 2) := by decide +kernel
theorem dL_hire_2 : decode cL_hire 2 = .ok (.iconst 0, 1) := by decide +kernel
theorem dL_hire_3 : decode cL_hire 3 = .ok (.aload_n 0, 1) := by decide +kernel
theorem dL_hire_4 : decode cL_hire 4 = .ok (.iload_n 1, 1) := by decide +kernel
theorem dL_hire_5 : decode cL_hire 5 = .ok (.iload_n 2, 1) := by decide +kernel
theorem dL_hire_6 : decode cL_hire 6 = .ok (.iload_n 3, 1) := by decide +kernel
theorem dL_hire_7 : decode cL_hire 7 = .ok (.invokevirtual 7, 3) := by decide +kernel
theorem dL_hire_10 : decode cL_hire 10 = .ok (.i2l, 1) := by decide +kernel
theorem dL_hire_11 : decode cL_hire 11 = .ok (.lastore, 1) := by decide +kernel
theorem dL_hire_12 : decode cL_hire 12 = .ok (.goto 11, 3) := by decide +kernel
theorem dL_hire_15 : decode cL_hire 15 = .ok (.astore 5, 2) := by decide +kernel
theorem dL_hire_17 : decode cL_hire 17 = .ok (.iconst 1, 1) := by decide +kernel
theorem dL_hire_18 : decode cL_hire 18 = .ok (.ireturn, 1) := by decide +kernel
theorem dL_hire_19 : decode cL_hire 19 = .ok (.astore 5, 2) := by decide +kernel
theorem dL_hire_21 : decode cL_hire 21 = .ok (.iconst 2, 1) := by decide +kernel
theorem dL_hire_22 : decode cL_hire 22 = .ok (.ireturn, 1) := by decide +kernel
theorem dL_hire_23 : decode cL_hire 23 = .ok (.iconst 0, 1) := by decide +kernel
theorem dL_hire_24 : decode cL_hire 24 = .ok (.ireturn, 1) := by decide +kernel
theorem dL_addService_0 : decode cL_addService 0 = .ok (.aload_n 3, 1) := by decide +kernel
theorem dL_addService_1 : decode cL_addService 1 = .ok (.iconst 0, 1) := by decide +kernel
theorem dL_addService_2 : decode cL_addService 2 = .ok (.aload_n 0, 1) := by decide +kernel
theorem dL_addService_3 : decode cL_addService 3 = .ok (.iload_n 1, 1) := by decide +kernel
theorem dL_addService_4 : decode cL_addService 4 = .ok (.iload_n 2, 1) := by decide +kernel
theorem dL_addService_5 : decode cL_addService 5 = .ok (.invokevirtual 17, 3) := by decide +kernel
theorem dL_addService_8 : decode cL_addService 8 = .ok (.i2l, 1) := by decide +kernel
theorem dL_addService_9 : decode cL_addService 9 = .ok (.lastore, 1) := by decide +kernel
theorem dL_addService_10 : decode cL_addService 10 = .ok (.goto 11, 3) := by decide +kernel
theorem dL_addService_13 : decode cL_addService 13 = .ok (.astore 4, 2) := by decide +kernel
theorem dL_addService_15 : decode cL_addService 15 = .ok (.iconst 1, 1) := by decide +kernel
theorem dL_addService_16 : decode cL_addService 16 = .ok (.ireturn, 1) := by decide +kernel
theorem dL_addService_17 : decode cL_addService 17 = .ok (.astore 4, 2) := by decide +kernel
theorem dL_addService_19 : decode cL_addService 19 = .ok (.iconst 2, 1) := by decide +kernel
theorem dL_addService_20 : decode cL_addService 20 = .ok (.ireturn, 1) := by decide +kernel
theorem dL_addService_21 : decode cL_addService 21 = .ok (.iconst 0, 1) := by decide +kernel
theorem dL_addService_22 : decode cL_addService 22 = .ok (.ireturn, 1) := by decide +kernel
theorem dL_addStep_0 : decode cL_addStep 0 = .ok (.aload 4, 2) := by decide +kernel
theorem dL_addStep_2 : decode cL_addStep 2 = .ok (.iconst 0, 1) := by decide +kernel
theorem dL_addStep_3 : decode cL_addStep 3 = .ok (.aload_n 0, 1) := by decide +kernel
theorem dL_addStep_4 : decode cL_addStep 4 = .ok (.iload_n 1, 1) := by decide +kernel
theorem dL_addStep_5 : decode cL_addStep 5 = .ok (.iload_n 2, 1) := by decide +kernel
theorem dL_addStep_6 : decode cL_addStep 6 = .ok (.iload_n 3, 1) := by decide +kernel
theorem dL_addStep_7 : decode cL_addStep 7 = .ok (.invokevirtual 21, 3) := by decide +kernel
theorem dL_addStep_10 : decode cL_addStep 10 = .ok (.i2l, 1) := by decide +kernel
theorem dL_addStep_11 : decode cL_addStep 11 = .ok (.lastore, 1) := by decide +kernel
theorem dL_addStep_12 : decode cL_addStep 12 = .ok (.goto 15, 3) := by decide +kernel
theorem dL_addStep_15 : decode cL_addStep 15 = .ok (.astore 5, 2) := by decide +kernel
theorem dL_addStep_17 : decode cL_addStep 17 = .ok (.iconst 1, 1) := by decide +kernel
theorem dL_addStep_18 : decode cL_addStep 18 = .ok (.ireturn, 1) := by decide +kernel
theorem dL_addStep_19 : decode cL_addStep 19 = .ok (.astore 5, 2) := by decide +kernel
theorem dL_addStep_21 : decode cL_addStep 21 = .ok (.iconst 2, 1) := by decide +kernel
theorem dL_addStep_22 : decode cL_addStep 22 = .ok (.ireturn, 1) := by decide +kernel
theorem dL_addStep_23 : decode cL_addStep 23 = .ok (.astore 5, 2) := by decide +kernel
theorem dL_addStep_25 : decode cL_addStep 25 = .ok (.iconst 3, 1) := by decide +kernel
theorem dL_addStep_26 : decode cL_addStep 26 = .ok (.ireturn, 1) := by decide +kernel
theorem dL_addStep_27 : decode cL_addStep 27 = .ok (.iconst 0, 1) := by decide +kernel
theorem dL_addStep_28 : decode cL_addStep 28 = .ok (.ireturn, 1) := by decide +kernel
theorem dL_addUsual_0 : decode cL_addUsual 0 = .ok (.aload_n 2, 1) := by decide +kernel
theorem dL_addUsual_1 : decode cL_addUsual 1 = .ok (.iconst 0, 1) := by decide +kernel
theorem dL_addUsual_2 : decode cL_addUsual 2 = .ok (.aload_n 0, 1) := by decide +kernel
theorem dL_addUsual_3 : decode cL_addUsual 3 = .ok (.iload_n 1, 1) := by decide +kernel
theorem dL_addUsual_4 : decode cL_addUsual 4 = .ok (.invokevirtual 26, 3) := by decide +kernel
theorem dL_addUsual_7 : decode cL_addUsual 7 = .ok (.i2l, 1) := by decide +kernel
theorem dL_addUsual_8 : decode cL_addUsual 8 = .ok (.lastore, 1) := by decide +kernel
theorem dL_addUsual_9 : decode cL_addUsual 9 = .ok (.goto 9, 3) := by decide +kernel
theorem dL_addUsual_12 : decode cL_addUsual 12 = .ok (.astore_n 3, 1) := by decide +kernel
theorem dL_addUsual_13 : decode cL_addUsual 13 = .ok (.iconst 1, 1) := by decide +kernel
theorem dL_addUsual_14 : decode cL_addUsual 14 = .ok (.ireturn, 1) := by decide +kernel
theorem dL_addUsual_15 : decode cL_addUsual 15 = .ok (.astore_n 3, 1) := by decide +kernel
theorem dL_addUsual_16 : decode cL_addUsual 16 = .ok (.iconst 2, 1) := by decide +kernel
theorem dL_addUsual_17 : decode cL_addUsual 17 = .ok (.ireturn, 1) := by decide +kernel
theorem dL_addUsual_18 : decode cL_addUsual 18 = .ok (.iconst 0, 1) := by decide +kernel
theorem dL_addUsual_19 : decode cL_addUsual 19 = .ok (.ireturn, 1) := by decide +kernel
theorem dL_book_0 : decode cL_book 0 = .ok (.aload_n 3, 1) := by decide +kernel
theorem dL_book_1 : decode cL_book 1 = .ok (.iconst 0, 1) := by decide +kernel
theorem dL_book_2 : decode cL_book 2 = .ok (.aload_n 0, 1) := by decide +kernel
theorem dL_book_3 : decode cL_book 3 = .ok (.iload_n 1, 1) := by decide +kernel
theorem dL_book_4 : decode cL_book 4 = .ok (.iload_n 2, 1) := by decide +kernel
theorem dL_book_5 : decode cL_book 5 = .ok (.invokevirtual 30, 3) := by decide +kernel
theorem dL_book_8 : decode cL_book 8 = .ok (.i2l, 1) := by decide +kernel
theorem dL_book_9 : decode cL_book 9 = .ok (.lastore, 1) := by decide +kernel
theorem dL_book_10 : decode cL_book 10 = .ok (.goto 15, 3) := by decide +kernel
theorem dL_book_13 : decode cL_book 13 = .ok (.astore 4, 2) := by decide +kernel
theorem dL_book_15 : decode cL_book 15 = .ok (.iconst 1, 1) := by decide +kernel
theorem dL_book_16 : decode cL_book 16 = .ok (.ireturn, 1) := by decide +kernel
theorem dL_book_17 : decode cL_book 17 = .ok (.astore 4, 2) := by decide +kernel
theorem dL_book_19 : decode cL_book 19 = .ok (.iconst 2, 1) := by decide +kernel
theorem dL_book_20 : decode cL_book 20 = .ok (.ireturn, 1) := by decide +kernel
theorem dL_book_21 : decode cL_book 21 = .ok (.astore 4, 2) := by decide +kernel
theorem dL_book_23 : decode cL_book 23 = .ok (.iconst 3, 1) := by decide +kernel
theorem dL_book_24 : decode cL_book 24 = .ok (.ireturn, 1) := by decide +kernel
theorem dL_book_25 : decode cL_book 25 = .ok (.iconst 0, 1) := by decide +kernel
theorem dL_book_26 : decode cL_book 26 = .ok (.ireturn, 1) := by decide +kernel
theorem dL_bookWith_0 : decode cL_bookWith 0 = .ok (.aload 4, 2) := by decide +kernel
theorem dL_bookWith_2 : decode cL_bookWith 2 = .ok (.iconst 0, 1) := by decide +kernel
theorem dL_bookWith_3 : decode cL_bookWith 3 = .ok (.aload_n 0, 1) := by decide +kernel
theorem dL_bookWith_4 : decode cL_bookWith 4 = .ok (.iload_n 1, 1) := by decide +kernel
theorem dL_bookWith_5 : decode cL_bookWith 5 = .ok (.iload_n 2, 1) := by decide +kernel
theorem dL_bookWith_6 : decode cL_bookWith 6 = .ok (.iload_n 3, 1) := by decide +kernel
theorem dL_bookWith_7 : decode cL_bookWith 7 = .ok (.invokevirtual 35, 3) := by decide +kernel
theorem dL_bookWith_10 : decode cL_bookWith 10 = .ok (.i2l, 1) := by decide +kernel
theorem dL_bookWith_11 : decode cL_bookWith 11 = .ok (.lastore, 1) := by decide +kernel
theorem dL_bookWith_12 : decode cL_bookWith 12 = .ok (.goto 15, 3) := by decide +kernel
theorem dL_bookWith_15 : decode cL_bookWith 15 = .ok (.astore 5, 2) := by decide +kernel
theorem dL_bookWith_17 : decode cL_bookWith 17 = .ok (.iconst 1, 1) := by decide +kernel
theorem dL_bookWith_18 : decode cL_bookWith 18 = .ok (.ireturn, 1) := by decide +kernel
theorem dL_bookWith_19 : decode cL_bookWith 19 = .ok (.astore 5, 2) := by decide +kernel
theorem dL_bookWith_21 : decode cL_bookWith 21 = .ok (.iconst 2, 1) := by decide +kernel
theorem dL_bookWith_22 : decode cL_bookWith 22 = .ok (.ireturn, 1) := by decide +kernel
theorem dL_bookWith_23 : decode cL_bookWith 23 = .ok (.astore 5, 2) := by decide +kernel
theorem dL_bookWith_25 : decode cL_bookWith 25 = .ok (.iconst 3, 1) := by decide +kernel
theorem dL_bookWith_26 : decode cL_bookWith 26 = .ok (.ireturn, 1) := by decide +kernel
theorem dL_bookWith_27 : decode cL_bookWith 27 = .ok (.iconst 0, 1) := by decide +kernel
theorem dL_bookWith_28 : decode cL_bookWith 28 = .ok (.ireturn, 1) := by decide +kernel
theorem dL_move_0 : decode cL_move 0 = .ok (.aload_n 3, 1) := by decide +kernel
theorem dL_move_1 : decode cL_move 1 = .ok (.iconst 0, 1) := by decide +kernel
theorem dL_move_2 : decode cL_move 2 = .ok (.aload_n 0, 1) := by decide +kernel
theorem dL_move_3 : decode cL_move 3 = .ok (.iload_n 1, 1) := by decide +kernel
theorem dL_move_4 : decode cL_move 4 = .ok (.iload_n 2, 1) := by decide +kernel
theorem dL_move_5 : decode cL_move 5 = .ok (.invokevirtual 38, 3) := by decide +kernel
theorem dL_move_8 : decode cL_move 8 = .ok (.i2l, 1) := by decide +kernel
theorem dL_move_9 : decode cL_move 9 = .ok (.lastore, 1) := by decide +kernel
theorem dL_move_10 : decode cL_move 10 = .ok (.goto 11, 3) := by decide +kernel
theorem dL_move_13 : decode cL_move 13 = .ok (.astore 4, 2) := by decide +kernel
theorem dL_move_15 : decode cL_move 15 = .ok (.iconst 1, 1) := by decide +kernel
theorem dL_move_16 : decode cL_move 16 = .ok (.ireturn, 1) := by decide +kernel
theorem dL_move_17 : decode cL_move 17 = .ok (.astore 4, 2) := by decide +kernel
theorem dL_move_19 : decode cL_move 19 = .ok (.iconst 2, 1) := by decide +kernel
theorem dL_move_20 : decode cL_move 20 = .ok (.ireturn, 1) := by decide +kernel
theorem dL_move_21 : decode cL_move 21 = .ok (.iconst 0, 1) := by decide +kernel
theorem dL_move_22 : decode cL_move 22 = .ok (.ireturn, 1) := by decide +kernel
theorem dL_drop_0 : decode cL_drop 0 = .ok (.aload_n 2, 1) := by decide +kernel
theorem dL_drop_1 : decode cL_drop 1 = .ok (.iconst 0, 1) := by decide +kernel
theorem dL_drop_2 : decode cL_drop 2 = .ok (.aload_n 0, 1) := by decide +kernel
theorem dL_drop_3 : decode cL_drop 3 = .ok (.iload_n 1, 1) := by decide +kernel
theorem dL_drop_4 : decode cL_drop 4 = .ok (.invokevirtual 41, 3) := by decide +kernel
theorem dL_drop_7 : decode cL_drop 7 = .ok (.i2l, 1) := by decide +kernel
theorem dL_drop_8 : decode cL_drop 8 = .ok (.lastore, 1) := by decide +kernel
theorem dL_drop_9 : decode cL_drop 9 = .ok (.goto 6, 3) := by decide +kernel
theorem dL_drop_12 : decode cL_drop 12 = .ok (.astore_n 3, 1) := by decide +kernel
theorem dL_drop_13 : decode cL_drop 13 = .ok (.iconst 1, 1) := by decide +kernel
theorem dL_drop_14 : decode cL_drop 14 = .ok (.ireturn, 1) := by decide +kernel
theorem dL_drop_15 : decode cL_drop 15 = .ok (.iconst 0, 1) := by decide +kernel
theorem dL_drop_16 : decode cL_drop 16 = .ok (.ireturn, 1) := by decide +kernel
theorem dL_request_0 : decode cL_request 0 = .ok (.aload_n 3, 1) := by decide +kernel
theorem dL_request_1 : decode cL_request 1 = .ok (.iconst 0, 1) := by decide +kernel
theorem dL_request_2 : decode cL_request 2 = .ok (.aload_n 0, 1) := by decide +kernel
theorem dL_request_3 : decode cL_request 3 = .ok (.iload_n 1, 1) := by decide +kernel
theorem dL_request_4 : decode cL_request 4 = .ok (.iload_n 2, 1) := by decide +kernel
theorem dL_request_5 : decode cL_request 5 = .ok (.invokevirtual 44, 3) := by decide +kernel
theorem dL_request_8 : decode cL_request 8 = .ok (.i2l, 1) := by decide +kernel
theorem dL_request_9 : decode cL_request 9 = .ok (.lastore, 1) := by decide +kernel
theorem dL_request_10 : decode cL_request 10 = .ok (.goto 11, 3) := by decide +kernel
theorem dL_request_13 : decode cL_request 13 = .ok (.astore 4, 2) := by decide +kernel
theorem dL_request_15 : decode cL_request 15 = .ok (.iconst 1, 1) := by decide +kernel
theorem dL_request_16 : decode cL_request 16 = .ok (.ireturn, 1) := by decide +kernel
theorem dL_request_17 : decode cL_request 17 = .ok (.astore 4, 2) := by decide +kernel
theorem dL_request_19 : decode cL_request 19 = .ok (.iconst 2, 1) := by decide +kernel
theorem dL_request_20 : decode cL_request 20 = .ok (.ireturn, 1) := by decide +kernel
theorem dL_request_21 : decode cL_request 21 = .ok (.iconst 0, 1) := by decide +kernel
theorem dL_request_22 : decode cL_request 22 = .ok (.ireturn, 1) := by decide +kernel
theorem dL_requestAt_0 : decode cL_requestAt 0 = .ok (.aload_n 2, 1) := by decide +kernel
theorem dL_requestAt_1 : decode cL_requestAt 1 = .ok (.iconst 0, 1) := by decide +kernel
theorem dL_requestAt_2 : decode cL_requestAt 2 = .ok (.aload_n 0, 1) := by decide +kernel
theorem dL_requestAt_3 : decode cL_requestAt 3 = .ok (.iload_n 1, 1) := by decide +kernel
theorem dL_requestAt_4 : decode cL_requestAt 4 = .ok (.invokevirtual 47, 3) := by decide +kernel
theorem dL_requestAt_7 : decode cL_requestAt 7 = .ok (.i2l, 1) := by decide +kernel
theorem dL_requestAt_8 : decode cL_requestAt 8 = .ok (.lastore, 1) := by decide +kernel
theorem dL_requestAt_9 : decode cL_requestAt 9 = .ok (.goto 6, 3) := by decide +kernel
theorem dL_requestAt_12 : decode cL_requestAt 12 = .ok (.astore_n 3, 1) := by decide +kernel
theorem dL_requestAt_13 : decode cL_requestAt 13 = .ok (.iconst 1, 1) := by decide +kernel
theorem dL_requestAt_14 : decode cL_requestAt 14 = .ok (.ireturn, 1) := by decide +kernel
theorem dL_requestAt_15 : decode cL_requestAt 15 = .ok (.iconst 0, 1) := by decide +kernel
theorem dL_requestAt_16 : decode cL_requestAt 16 = .ok (.ireturn, 1) := by decide +kernel
theorem dL_lengthOf_0 : decode cL_lengthOf 0 = .ok (.aload_n 2, 1) := by decide +kernel
theorem dL_lengthOf_1 : decode cL_lengthOf 1 = .ok (.iconst 0, 1) := by decide +kernel
theorem dL_lengthOf_2 : decode cL_lengthOf 2 = .ok (.aload_n 0, 1) := by decide +kernel
theorem dL_lengthOf_3 : decode cL_lengthOf 3 = .ok (.iload_n 1, 1) := by decide +kernel
theorem dL_lengthOf_4 : decode cL_lengthOf 4 = .ok (.invokevirtual 50, 3) := by decide +kernel
theorem dL_lengthOf_7 : decode cL_lengthOf 7 = .ok (.i2l, 1) := by decide +kernel
theorem dL_lengthOf_8 : decode cL_lengthOf 8 = .ok (.lastore, 1) := by decide +kernel
theorem dL_lengthOf_9 : decode cL_lengthOf 9 = .ok (.goto 6, 3) := by decide +kernel
theorem dL_lengthOf_12 : decode cL_lengthOf 12 = .ok (.astore_n 3, 1) := by decide +kernel
theorem dL_lengthOf_13 : decode cL_lengthOf 13 = .ok (.iconst 1, 1) := by decide +kernel
theorem dL_lengthOf_14 : decode cL_lengthOf 14 = .ok (.ireturn, 1) := by decide +kernel
theorem dL_lengthOf_15 : decode cL_lengthOf 15 = .ok (.iconst 0, 1) := by decide +kernel
theorem dL_lengthOf_16 : decode cL_lengthOf 16 = .ok (.ireturn, 1) := by decide +kernel
theorem dL_workOf_0 : decode cL_workOf 0 = .ok (.aload_n 2, 1) := by decide +kernel
theorem dL_workOf_1 : decode cL_workOf 1 = .ok (.iconst 0, 1) := by decide +kernel
theorem dL_workOf_2 : decode cL_workOf 2 = .ok (.aload_n 0, 1) := by decide +kernel
theorem dL_workOf_3 : decode cL_workOf 3 = .ok (.iload_n 1, 1) := by decide +kernel
theorem dL_workOf_4 : decode cL_workOf 4 = .ok (.invokevirtual 53, 3) := by decide +kernel
theorem dL_workOf_7 : decode cL_workOf 7 = .ok (.i2l, 1) := by decide +kernel
theorem dL_workOf_8 : decode cL_workOf 8 = .ok (.lastore, 1) := by decide +kernel
theorem dL_workOf_9 : decode cL_workOf 9 = .ok (.goto 6, 3) := by decide +kernel
theorem dL_workOf_12 : decode cL_workOf 12 = .ok (.astore_n 3, 1) := by decide +kernel
theorem dL_workOf_13 : decode cL_workOf 13 = .ok (.iconst 1, 1) := by decide +kernel
theorem dL_workOf_14 : decode cL_workOf 14 = .ok (.ireturn, 1) := by decide +kernel
theorem dL_workOf_15 : decode cL_workOf 15 = .ok (.iconst 0, 1) := by decide +kernel
theorem dL_workOf_16 : decode cL_workOf 16 = .ok (.ireturn, 1) := by decide +kernel
theorem dL_skillsOf_0 : decode cL_skillsOf 0 = .ok (.aload_n 2, 1) := by decide +kernel
theorem dL_skillsOf_1 : decode cL_skillsOf 1 = .ok (.iconst 0, 1) := by decide +kernel
theorem dL_skillsOf_2 : decode cL_skillsOf 2 = .ok (.aload_n 0, 1) := by decide +kernel
theorem dL_skillsOf_3 : decode cL_skillsOf 3 = .ok (.iload_n 1, 1) := by decide +kernel
theorem dL_skillsOf_4 : decode cL_skillsOf 4 = .ok (.invokevirtual 56, 3) := by decide +kernel
theorem dL_skillsOf_7 : decode cL_skillsOf 7 = .ok (.i2l, 1) := by decide +kernel
theorem dL_skillsOf_8 : decode cL_skillsOf 8 = .ok (.lastore, 1) := by decide +kernel
theorem dL_skillsOf_9 : decode cL_skillsOf 9 = .ok (.goto 6, 3) := by decide +kernel
theorem dL_skillsOf_12 : decode cL_skillsOf 12 = .ok (.astore_n 3, 1) := by decide +kernel
theorem dL_skillsOf_13 : decode cL_skillsOf 13 = .ok (.iconst 1, 1) := by decide +kernel
theorem dL_skillsOf_14 : decode cL_skillsOf 14 = .ok (.ireturn, 1) := by decide +kernel
theorem dL_skillsOf_15 : decode cL_skillsOf 15 = .ok (.iconst 0, 1) := by decide +kernel
theorem dL_skillsOf_16 : decode cL_skillsOf 16 = .ok (.ireturn, 1) := by decide +kernel
theorem dL_startOf_0 : decode cL_startOf 0 = .ok (.aload_n 2, 1) := by decide +kernel
theorem dL_startOf_1 : decode cL_startOf 1 = .ok (.iconst 0, 1) := by decide +kernel
theorem dL_startOf_2 : decode cL_startOf 2 = .ok (.aload_n 0, 1) := by decide +kernel
theorem dL_startOf_3 : decode cL_startOf 3 = .ok (.iload_n 1, 1) := by decide +kernel
theorem dL_startOf_4 : decode cL_startOf 4 = .ok (.invokevirtual 59, 3) := by decide +kernel
theorem dL_startOf_7 : decode cL_startOf 7 = .ok (.i2l, 1) := by decide +kernel
theorem dL_startOf_8 : decode cL_startOf 8 = .ok (.lastore, 1) := by decide +kernel
theorem dL_startOf_9 : decode cL_startOf 9 = .ok (.goto 6, 3) := by decide +kernel
theorem dL_startOf_12 : decode cL_startOf 12 = .ok (.astore_n 3, 1) := by decide +kernel
theorem dL_startOf_13 : decode cL_startOf 13 = .ok (.iconst 1, 1) := by decide +kernel
theorem dL_startOf_14 : decode cL_startOf 14 = .ok (.ireturn, 1) := by decide +kernel
theorem dL_startOf_15 : decode cL_startOf 15 = .ok (.iconst 0, 1) := by decide +kernel
theorem dL_startOf_16 : decode cL_startOf 16 = .ok (.ireturn, 1) := by decide +kernel
theorem dL_staffOf_0 : decode cL_staffOf 0 = .ok (.aload_n 2, 1) := by decide +kernel
theorem dL_staffOf_1 : decode cL_staffOf 1 = .ok (.iconst 0, 1) := by decide +kernel
theorem dL_staffOf_2 : decode cL_staffOf 2 = .ok (.aload_n 0, 1) := by decide +kernel
theorem dL_staffOf_3 : decode cL_staffOf 3 = .ok (.iload_n 1, 1) := by decide +kernel
theorem dL_staffOf_4 : decode cL_staffOf 4 = .ok (.invokevirtual 62, 3) := by decide +kernel
theorem dL_staffOf_7 : decode cL_staffOf 7 = .ok (.i2l, 1) := by decide +kernel
theorem dL_staffOf_8 : decode cL_staffOf 8 = .ok (.lastore, 1) := by decide +kernel
theorem dL_staffOf_9 : decode cL_staffOf 9 = .ok (.goto 6, 3) := by decide +kernel
theorem dL_staffOf_12 : decode cL_staffOf 12 = .ok (.astore_n 3, 1) := by decide +kernel
theorem dL_staffOf_13 : decode cL_staffOf 13 = .ok (.iconst 1, 1) := by decide +kernel
theorem dL_staffOf_14 : decode cL_staffOf 14 = .ok (.ireturn, 1) := by decide +kernel
theorem dL_staffOf_15 : decode cL_staffOf 15 = .ok (.iconst 0, 1) := by decide +kernel
theorem dL_staffOf_16 : decode cL_staffOf 16 = .ok (.ireturn, 1) := by decide +kernel
theorem dL_chairOf_0 : decode cL_chairOf 0 = .ok (.aload_n 2, 1) := by decide +kernel
theorem dL_chairOf_1 : decode cL_chairOf 1 = .ok (.iconst 0, 1) := by decide +kernel
theorem dL_chairOf_2 : decode cL_chairOf 2 = .ok (.aload_n 0, 1) := by decide +kernel
theorem dL_chairOf_3 : decode cL_chairOf 3 = .ok (.iload_n 1, 1) := by decide +kernel
theorem dL_chairOf_4 : decode cL_chairOf 4 = .ok (.invokevirtual 65, 3) := by decide +kernel
theorem dL_chairOf_7 : decode cL_chairOf 7 = .ok (.i2l, 1) := by decide +kernel
theorem dL_chairOf_8 : decode cL_chairOf 8 = .ok (.lastore, 1) := by decide +kernel
theorem dL_chairOf_9 : decode cL_chairOf 9 = .ok (.goto 6, 3) := by decide +kernel
theorem dL_chairOf_12 : decode cL_chairOf 12 = .ok (.astore_n 3, 1) := by decide +kernel
theorem dL_chairOf_13 : decode cL_chairOf 13 = .ok (.iconst 1, 1) := by decide +kernel
theorem dL_chairOf_14 : decode cL_chairOf 14 = .ok (.ireturn, 1) := by decide +kernel
theorem dL_chairOf_15 : decode cL_chairOf 15 = .ok (.iconst 0, 1) := by decide +kernel
theorem dL_chairOf_16 : decode cL_chairOf 16 = .ok (.ireturn, 1) := by decide +kernel
theorem dL_serviceOf_0 : decode cL_serviceOf 0 = .ok (.aload_n 2, 1) := by decide +kernel
theorem dL_serviceOf_1 : decode cL_serviceOf 1 = .ok (.iconst 0, 1) := by decide +kernel
theorem dL_serviceOf_2 : decode cL_serviceOf 2 = .ok (.aload_n 0, 1) := by decide +kernel
theorem dL_serviceOf_3 : decode cL_serviceOf 3 = .ok (.iload_n 1, 1) := by decide +kernel
theorem dL_serviceOf_4 : decode cL_serviceOf 4 = .ok (.invokevirtual 68, 3) := by decide +kernel
theorem dL_serviceOf_7 : decode cL_serviceOf 7 = .ok (.i2l, 1) := by decide +kernel
theorem dL_serviceOf_8 : decode cL_serviceOf 8 = .ok (.lastore, 1) := by decide +kernel
theorem dL_serviceOf_9 : decode cL_serviceOf 9 = .ok (.goto 6, 3) := by decide +kernel
theorem dL_serviceOf_12 : decode cL_serviceOf 12 = .ok (.astore_n 3, 1) := by decide +kernel
theorem dL_serviceOf_13 : decode cL_serviceOf 13 = .ok (.iconst 1, 1) := by decide +kernel
theorem dL_serviceOf_14 : decode cL_serviceOf 14 = .ok (.ireturn, 1) := by decide +kernel
theorem dL_serviceOf_15 : decode cL_serviceOf 15 = .ok (.iconst 0, 1) := by decide +kernel
theorem dL_serviceOf_16 : decode cL_serviceOf 16 = .ok (.ireturn, 1) := by decide +kernel
theorem dL_loadOf_0 : decode cL_loadOf 0 = .ok (.aload_n 2, 1) := by decide +kernel
theorem dL_loadOf_1 : decode cL_loadOf 1 = .ok (.iconst 0, 1) := by decide +kernel
theorem dL_loadOf_2 : decode cL_loadOf 2 = .ok (.aload_n 0, 1) := by decide +kernel
theorem dL_loadOf_3 : decode cL_loadOf 3 = .ok (.iload_n 1, 1) := by decide +kernel
theorem dL_loadOf_4 : decode cL_loadOf 4 = .ok (.invokevirtual 71, 3) := by decide +kernel
theorem dL_loadOf_7 : decode cL_loadOf 7 = .ok (.i2l, 1) := by decide +kernel
theorem dL_loadOf_8 : decode cL_loadOf 8 = .ok (.lastore, 1) := by decide +kernel
theorem dL_loadOf_9 : decode cL_loadOf 9 = .ok (.goto 6, 3) := by decide +kernel
theorem dL_loadOf_12 : decode cL_loadOf 12 = .ok (.astore_n 3, 1) := by decide +kernel
theorem dL_loadOf_13 : decode cL_loadOf 13 = .ok (.iconst 1, 1) := by decide +kernel
theorem dL_loadOf_14 : decode cL_loadOf 14 = .ok (.ireturn, 1) := by decide +kernel
theorem dL_loadOf_15 : decode cL_loadOf 15 = .ok (.iconst 0, 1) := by decide +kernel
theorem dL_loadOf_16 : decode cL_loadOf 16 = .ok (.ireturn, 1) := by decide +kernel
theorem dL_staffAt_0 : decode cL_staffAt 0 = .ok (.aload_n 3, 1) := by decide +kernel
theorem dL_staffAt_1 : decode cL_staffAt 1 = .ok (.iconst 0, 1) := by decide +kernel
theorem dL_staffAt_2 : decode cL_staffAt 2 = .ok (.aload_n 0, 1) := by decide +kernel
theorem dL_staffAt_3 : decode cL_staffAt 3 = .ok (.iload_n 1, 1) := by decide +kernel
theorem dL_staffAt_4 : decode cL_staffAt 4 = .ok (.iload_n 2, 1) := by decide +kernel
theorem dL_staffAt_5 : decode cL_staffAt 5 = .ok (.invokevirtual 74, 3) := by decide +kernel
theorem dL_staffAt_8 : decode cL_staffAt 8 = .ok (.i2l, 1) := by decide +kernel
theorem dL_staffAt_9 : decode cL_staffAt 9 = .ok (.lastore, 1) := by decide +kernel
theorem dL_staffAt_10 : decode cL_staffAt 10 = .ok (.goto 7, 3) := by decide +kernel
theorem dL_staffAt_13 : decode cL_staffAt 13 = .ok (.astore 4, 2) := by decide +kernel
theorem dL_staffAt_15 : decode cL_staffAt 15 = .ok (.iconst 1, 1) := by decide +kernel
theorem dL_staffAt_16 : decode cL_staffAt 16 = .ok (.ireturn, 1) := by decide +kernel
theorem dL_staffAt_17 : decode cL_staffAt 17 = .ok (.iconst 0, 1) := by decide +kernel
theorem dL_staffAt_18 : decode cL_staffAt 18 = .ok (.ireturn, 1) := by decide +kernel
theorem dL_chairAt_0 : decode cL_chairAt 0 = .ok (.aload_n 3, 1) := by decide +kernel
theorem dL_chairAt_1 : decode cL_chairAt 1 = .ok (.iconst 0, 1) := by decide +kernel
theorem dL_chairAt_2 : decode cL_chairAt 2 = .ok (.aload_n 0, 1) := by decide +kernel
theorem dL_chairAt_3 : decode cL_chairAt 3 = .ok (.iload_n 1, 1) := by decide +kernel
theorem dL_chairAt_4 : decode cL_chairAt 4 = .ok (.iload_n 2, 1) := by decide +kernel
theorem dL_chairAt_5 : decode cL_chairAt 5 = .ok (.invokevirtual 77, 3) := by decide +kernel
theorem dL_chairAt_8 : decode cL_chairAt 8 = .ok (.i2l, 1) := by decide +kernel
theorem dL_chairAt_9 : decode cL_chairAt 9 = .ok (.lastore, 1) := by decide +kernel
theorem dL_chairAt_10 : decode cL_chairAt 10 = .ok (.goto 7, 3) := by decide +kernel
theorem dL_chairAt_13 : decode cL_chairAt 13 = .ok (.astore 4, 2) := by decide +kernel
theorem dL_chairAt_15 : decode cL_chairAt 15 = .ok (.iconst 1, 1) := by decide +kernel
theorem dL_chairAt_16 : decode cL_chairAt 16 = .ok (.ireturn, 1) := by decide +kernel
theorem dL_chairAt_17 : decode cL_chairAt 17 = .ok (.iconst 0, 1) := by decide +kernel
theorem dL_chairAt_18 : decode cL_chairAt 18 = .ok (.ireturn, 1) := by decide +kernel
theorem dL_earliest_0 : decode cL_earliest 0 = .ok (.aload_n 3, 1) := by decide +kernel
theorem dL_earliest_1 : decode cL_earliest 1 = .ok (.iconst 0, 1) := by decide +kernel
theorem dL_earliest_2 : decode cL_earliest 2 = .ok (.aload_n 0, 1) := by decide +kernel
theorem dL_earliest_3 : decode cL_earliest 3 = .ok (.iload_n 1, 1) := by decide +kernel
theorem dL_earliest_4 : decode cL_earliest 4 = .ok (.iload_n 2, 1) := by decide +kernel
theorem dL_earliest_5 : decode cL_earliest 5 = .ok (.invokevirtual 80, 3) := by decide +kernel
theorem dL_earliest_8 : decode cL_earliest 8 = .ok (.i2l, 1) := by decide +kernel
theorem dL_earliest_9 : decode cL_earliest 9 = .ok (.lastore, 1) := by decide +kernel
theorem dL_earliest_10 : decode cL_earliest 10 = .ok (.goto 7, 3) := by decide +kernel
theorem dL_earliest_13 : decode cL_earliest 13 = .ok (.astore 4, 2) := by decide +kernel
theorem dL_earliest_15 : decode cL_earliest 15 = .ok (.iconst 1, 1) := by decide +kernel
theorem dL_earliest_16 : decode cL_earliest 16 = .ok (.ireturn, 1) := by decide +kernel
theorem dL_earliest_17 : decode cL_earliest 17 = .ok (.iconst 0, 1) := by decide +kernel
theorem dL_earliest_18 : decode cL_earliest 18 = .ok (.ireturn, 1) := by decide +kernel
theorem dL_earliestByScan_0 : decode cL_earliestByScan 0 = .ok (.aload_n 3, 1) := by decide +kernel
theorem dL_earliestByScan_1 : decode cL_earliestByScan 1 = .ok (.iconst 0, 1) := by decide +kernel
theorem dL_earliestByScan_2 : decode cL_earliestByScan 2 = .ok (.aload_n 0, 1) := by decide +kernel
theorem dL_earliestByScan_3 : decode cL_earliestByScan 3 = .ok (.iload_n 1, 1) := by decide +kernel
theorem dL_earliestByScan_4 : decode cL_earliestByScan 4 = .ok (.iload_n 2, 1) := by decide +kernel
theorem dL_earliestByScan_5 : decode cL_earliestByScan 5 = .ok (.invokevirtual 83, 3) := by decide +kernel
theorem dL_earliestByScan_8 : decode cL_earliestByScan 8 = .ok (.i2l, 1) := by decide +kernel
theorem dL_earliestByScan_9 : decode cL_earliestByScan 9 = .ok (.lastore, 1) := by decide +kernel
theorem dL_earliestByScan_10 : decode cL_earliestByScan 10 = .ok (.goto 7, 3) := by decide +kernel
theorem dL_earliestByScan_13 : decode cL_earliestByScan 13 = .ok (.astore 4, 2) := by decide +kernel
theorem dL_earliestByScan_15 : decode cL_earliestByScan 15 = .ok (.iconst 1, 1) := by decide +kernel
theorem dL_earliestByScan_16 : decode cL_earliestByScan 16 = .ok (.ireturn, 1) := by decide +kernel
theorem dL_earliestByScan_17 : decode cL_earliestByScan 17 = .ok (.iconst 0, 1) := by decide +kernel
theorem dL_earliestByScan_18 : decode cL_earliestByScan 18 = .ok (.ireturn, 1) := by decide +kernel
theorem dL_staffFor_0 : decode cL_staffFor 0 = .ok (.aload_n 3, 1) := by decide +kernel
theorem dL_staffFor_1 : decode cL_staffFor 1 = .ok (.iconst 0, 1) := by decide +kernel
theorem dL_staffFor_2 : decode cL_staffFor 2 = .ok (.aload_n 0, 1) := by decide +kernel
theorem dL_staffFor_3 : decode cL_staffFor 3 = .ok (.iload_n 1, 1) := by decide +kernel
theorem dL_staffFor_4 : decode cL_staffFor 4 = .ok (.iload_n 2, 1) := by decide +kernel
theorem dL_staffFor_5 : decode cL_staffFor 5 = .ok (.invokevirtual 86, 3) := by decide +kernel
theorem dL_staffFor_8 : decode cL_staffFor 8 = .ok (.i2l, 1) := by decide +kernel
theorem dL_staffFor_9 : decode cL_staffFor 9 = .ok (.lastore, 1) := by decide +kernel
theorem dL_staffFor_10 : decode cL_staffFor 10 = .ok (.goto 7, 3) := by decide +kernel
theorem dL_staffFor_13 : decode cL_staffFor 13 = .ok (.astore 4, 2) := by decide +kernel
theorem dL_staffFor_15 : decode cL_staffFor 15 = .ok (.iconst 1, 1) := by decide +kernel
theorem dL_staffFor_16 : decode cL_staffFor 16 = .ok (.ireturn, 1) := by decide +kernel
theorem dL_staffFor_17 : decode cL_staffFor 17 = .ok (.iconst 0, 1) := by decide +kernel
theorem dL_staffFor_18 : decode cL_staffFor 18 = .ok (.ireturn, 1) := by decide +kernel
theorem dL_inRest_0 : decode cL_inRest 0 = .ok (.aload_n 3, 1) := by decide +kernel
theorem dL_inRest_1 : decode cL_inRest 1 = .ok (.iconst 0, 1) := by decide +kernel
theorem dL_inRest_2 : decode cL_inRest 2 = .ok (.aload_n 0, 1) := by decide +kernel
theorem dL_inRest_3 : decode cL_inRest 3 = .ok (.iload_n 1, 1) := by decide +kernel
theorem dL_inRest_4 : decode cL_inRest 4 = .ok (.iload_n 2, 1) := by decide +kernel
theorem dL_inRest_5 : decode cL_inRest 5 = .ok (.invokevirtual 89, 3) := by decide +kernel
theorem dL_inRest_8 : decode cL_inRest 8 = .ok (.i2l, 1) := by decide +kernel
theorem dL_inRest_9 : decode cL_inRest 9 = .ok (.lastore, 1) := by decide +kernel
theorem dL_inRest_10 : decode cL_inRest 10 = .ok (.goto 7, 3) := by decide +kernel
theorem dL_inRest_13 : decode cL_inRest 13 = .ok (.astore 4, 2) := by decide +kernel
theorem dL_inRest_15 : decode cL_inRest 15 = .ok (.iconst 1, 1) := by decide +kernel
theorem dL_inRest_16 : decode cL_inRest 16 = .ok (.ireturn, 1) := by decide +kernel
theorem dL_inRest_17 : decode cL_inRest 17 = .ok (.iconst 0, 1) := by decide +kernel
theorem dL_inRest_18 : decode cL_inRest 18 = .ok (.ireturn, 1) := by decide +kernel
theorem dL_fill_0 : decode cL_fill 0 = .ok (.aload_n 2, 1) := by decide +kernel
theorem dL_fill_1 : decode cL_fill 1 = .ok (.iconst 0, 1) := by decide +kernel
theorem dL_fill_2 : decode cL_fill 2 = .ok (.aload_n 0, 1) := by decide +kernel
theorem dL_fill_3 : decode cL_fill 3 = .ok (.iload_n 1, 1) := by decide +kernel
theorem dL_fill_4 : decode cL_fill 4 = .ok (.invokevirtual 92, 3) := by decide +kernel
theorem dL_fill_7 : decode cL_fill 7 = .ok (.i2l, 1) := by decide +kernel
theorem dL_fill_8 : decode cL_fill 8 = .ok (.lastore, 1) := by decide +kernel
theorem dL_fill_9 : decode cL_fill 9 = .ok (.goto 6, 3) := by decide +kernel
theorem dL_fill_12 : decode cL_fill 12 = .ok (.astore_n 3, 1) := by decide +kernel
theorem dL_fill_13 : decode cL_fill 13 = .ok (.iconst 1, 1) := by decide +kernel
theorem dL_fill_14 : decode cL_fill 14 = .ok (.ireturn, 1) := by decide +kernel
theorem dL_fill_15 : decode cL_fill 15 = .ok (.iconst 0, 1) := by decide +kernel
theorem dL_fill_16 : decode cL_fill 16 = .ok (.ireturn, 1) := by decide +kernel
end
section
section VXIA
variable {p : Program} {l : Launch} {e : Env} {R : Room} {s : State} {m : MethodId} {args : Array Value} {below : List Frame} {meth : Method} {c : Code} {T : State} {locs : List Loc} {cells slots : Nat}
theorem vx_callI (X : Stand p l e R s m args below meth c T locs cells slots) (hexec : p.tables.exec = Jvm.exec) {own : String} {index : Nat} {y : MethodName} {bytes : ByteArray} {maxL : Nat}
    (hown : s.vm.findClass own = some m.cls) (hy1 : y.name = "<init>") (hlink : (Cond.methodLink own index y).before args s = true) (hinst : (Cond.instanceMethod y).before args s = true)
    (hcode : (Cond.code y bytes maxL none).before args s = true) (hy : y.cls ≠ "java/lang/invoke/MethodHandle" ∧ y.cls ≠ "java/lang/invoke/VarHandle")
    {W9 : Nat} {Pre : Pt → Array Value → Prop} {Post : Pt → Array Value → Option Value → Pt → Prop} {PostX : Pt → Array Value → Addr → Pt → Prop} (hK : vx_Back l R p e below s args y 3 W9 Pre Post PostX)
    {g : JFrame} (hg : g.method = m) (hsize : g.locals.size = c.maxLocals) {a : Addr} {argsL rest : List Value} (hlen : ∀ sig, parseMethodDescriptor y.desc = some sig → argsL.length = sig.parameters.length)
    (hstack : g.stack = argsL.reverse ++ .ref a :: rest) (hW : 2 * g.monitorRoom + (rest.map fun v => v.category).sum ≤ W9) (hdg : decode c.code g.pc = .ok (.invokespecial index, 3))
    (hpre : ∀ vm₁, s.WarmedH vm₁ → Pre ⟨T.setVm vm₁, locs, cells, slots⟩ (Value.ref a :: argsL).toArray) :
    (∃ (v : Option Value) (vm₁ : Vm) (B : Pt), s.WarmedH vm₁ ∧ Stand p l e R s m args below meth c B.U B.locs B.cells B.slots ∧ Post ⟨T.setVm vm₁, locs, cells, slots⟩ (Value.ref a :: argsL).toArray v B ∧
      ∀ target, Steps p.tables e below (B.U.setTop { g with pc := g.pc + 3, stack := v.toList ++ rest }) target → Steps p.tables e below (T.setTop g) target) ∨
    (∃ (q : Addr) (vm₁ : Vm) (B : Pt), s.WarmedH vm₁ ∧ Stand p l e R s m args below meth c B.U B.locs B.cells B.slots ∧ PostX ⟨T.setVm vm₁, locs, cells, slots⟩ (Value.ref a :: argsL).toArray q B ∧
      Steps p.tables e below (T.setTop g) ((B.U.setTop { g with stack := rest }).pushFrame (.throwing q))) := by
  subst hg
  have hpl : e.platform.magicAccessors = ({} : Platform).magicAccessors := by rw [X.admits.platform]
  obtain ⟨mk, methM, cM, kP, vm₁, hnamed, hmethM, hcodeM, -, hlocalsM, -, hkP, -, hW₁, hstep₁⟩ := Steps.initColdArgs (e := e) X.here hexec X.warmed hpl hown hy1 hy hlink hinst hcode (f := g) rfl hlen hstack hdg
  have X₁ := X.noted hW₁
  rcases hK g.method meth c ⟨T.setVm vm₁, locs, cells, slots⟩ { g with stack := rest } (.invokespecial index) mk (Value.ref a :: argsL).toArray X₁ rfl hsize hdg hW (X₁.named hnamed) (hpre vm₁ X₁.warmed) with ⟨v, B, X', hpost, hsteps⟩ | ⟨q, B, X', hpost, hsteps⟩
  · exact Or.inl ⟨v, vm₁, B, X₁.warmed, X', hpost, fun target h => hstep₁ _ fun acts => by rw [doInvoke_state]; exact hsteps.trans h⟩
  · exact Or.inr ⟨q, vm₁, B, X₁.warmed, X', hpost, hstep₁ _ fun acts => by rw [doInvoke_state]; exact hsteps⟩
end VXIA
section VXIB
variable {p : Program} {l : Launch} {e : Env} {R : Room} {s : State} {m : MethodId} {args : Array Value} {below : List Frame} {meth : Method} {c : Code} {H : Heap} {locs : List Loc} {cells slots : Nat}
variable {y : MethodName} {bytes cc : ByteArray} {maxL nL mc ms n index : Nat} {ret : Option FieldType} {ws : List Cond} {rm : Room} {Pc : Array Value → State → Prop} {Qc : Array Value → State → Outcome → State → Prop} {XC : String → State → State → Prop} {free : Addr → Prop} {Ts : List Cond} {own C : String} {b : Addr} {As rest : List Value} {g : JFrame}
theorem vx_runI (S : CallFix p m c cc nL s args Ts own) (hM : vx_Met l y ws rm Pc Qc XC mc ms free) (cw : CallB R s args own index y bytes maxL none ws rm mc ms n ∧ y.name = "<init>" ∧ (Cond.instanceMethod y).before args s = true) (hp : PreS s H Pc (.ref b :: As))
    (hg : g.method = m) (hn : As.length = n) (hsize : g.locals.size = nL) (hstack : g.stack = As.reverse ++ .ref b :: rest) (hW : 2 * g.monitorRoom + (rest.map fun v => v.category).sum ≤ 8) (hdg : decode cc g.pc = .ok (.invokespecial index, 3)) (hf : cells + mc ≤ R.cells ∧ slots + ms ≤ R.slots) :
    vx_Run p l e R s m args below meth c H locs cells slots mc ms g rest (Qc (Value.ref b :: As).toArray) XC free := by
  have hK : vx_Back l R p e below s args y 3 8 (PreOf R mc ms Pc) (PostOf Qc mc ms free) (vx_Post XC mc ms free) := vx_callBack cw.1 hM hp.1
  obtain ⟨⟨-, -, -, -, -, -, hcode, -, hy, hlen, hl⟩, hy1, hin⟩ := cw
  obtain ⟨hx, hb, hml, ho, -⟩ := S
  have hPc := hp.2
  intro T hT X
  rcases vx_callI X hx (bytes := bytes) (maxL := maxL) ho hy1 hl hin hcode hy hK hg (hsize.trans hml.symm) (a := b) (argsL := As) (rest := rest) (fun sig h => hn.trans (hlen sig h)) hstack hW (by rw [hb]; exact hdg)
    (fun vm₁ hW₁ => ⟨hf.1, hf.2, hPc (T.setVm vm₁) hT hW₁⟩) with ⟨v, vm₁, ⟨U', l2, c2, s2⟩, hW₁, X', ⟨g', mk, t, L, e1, e2, hq, h1, hL, h2, h3⟩, st⟩ | ⟨q, vm₁, ⟨U', l2, c2, s2⟩, hW₁, X', ⟨g', mk, t, L, E, ce, e1, e2, hq, hce, hcv, hcl, h1, hL, h2, h3⟩, st⟩
  · dsimp only [Pt.U, Pt.locs, Pt.cells, Pt.slots] at X' e1 e2 h1 h2 h3 st
    subst h1; subst h2; subst h3
    exact Or.inl ⟨v, (T.setVm vm₁).calling g' mk (Value.ref b :: As).toArray, t, U', L, hT, X', hL, e1, e2, hq, st⟩
  · dsimp only [Pt.U, Pt.locs, Pt.cells, Pt.slots] at X' e1 e2 h1 h2 h3 st hcl
    subst h1; subst h2; subst h3
    exact Or.inr ⟨q, (T.setVm vm₁).calling g' mk (Value.ref b :: As).toArray, t, U', L, E, ce, hT, X', hL, e1, e2, hq, hce, hcv, vx_cls hW₁ hcl, st⟩
end VXIB
/-! ===== END ===== -/
/-! ===== BEGIN a private constructor of a nest mate that throws ===== -/
section VXIC
variable {p : Program} {l : Launch} {e : Env} {R : Room} {s : State} {m : MethodId} {args : Array Value} {below : List Frame} {meth : Method} {c : Code} {T : State} {locs : List Loc} {cells slots : Nat}
theorem vx_callIN (X : Stand p l e R s m args below meth c T locs cells slots) (hexec : p.tables.exec = Jvm.exec) {own : String} {index : Nat} {host : String} {y : MethodName} {bytes : ByteArray} {maxL : Nat}
    (hown : s.vm.findClass own = some m.cls) (hy1 : y.name = "<init>") (hlink : (Cond.methodLinkNest own index y host).before args s = true) (hinst : (Cond.instanceMethod y).before args s = true)
    (hcode : (Cond.code y bytes maxL none).before args s = true) (hy : y.cls ≠ "java/lang/invoke/MethodHandle" ∧ y.cls ≠ "java/lang/invoke/VarHandle")
    {W9 : Nat} {Pre : Pt → Array Value → Prop} {Post : Pt → Array Value → Option Value → Pt → Prop} {PostX : Pt → Array Value → Addr → Pt → Prop} (hK : vx_Back l R p e below s args y 3 W9 Pre Post PostX)
    {g : JFrame} (hg : g.method = m) (hsize : g.locals.size = c.maxLocals) {a : Addr} {argsL rest : List Value} (hlen : ∀ sig, parseMethodDescriptor y.desc = some sig → argsL.length = sig.parameters.length)
    (hstack : g.stack = argsL.reverse ++ .ref a :: rest) (hW : 2 * g.monitorRoom + (rest.map fun v => v.category).sum ≤ W9) (hdg : decode c.code g.pc = .ok (.invokespecial index, 3))
    (hpre : ∀ vm₁, s.WarmedH vm₁ → Pre ⟨T.setVm vm₁, locs, cells, slots⟩ (Value.ref a :: argsL).toArray) :
    (∃ (v : Option Value) (vm₁ : Vm) (B : Pt), s.WarmedH vm₁ ∧ Stand p l e R s m args below meth c B.U B.locs B.cells B.slots ∧ Post ⟨T.setVm vm₁, locs, cells, slots⟩ (Value.ref a :: argsL).toArray v B ∧
      ∀ target, Steps p.tables e below (B.U.setTop { g with pc := g.pc + 3, stack := v.toList ++ rest }) target → Steps p.tables e below (T.setTop g) target) ∨
    (∃ (q : Addr) (vm₁ : Vm) (B : Pt), s.WarmedH vm₁ ∧ Stand p l e R s m args below meth c B.U B.locs B.cells B.slots ∧ PostX ⟨T.setVm vm₁, locs, cells, slots⟩ (Value.ref a :: argsL).toArray q B ∧
      Steps p.tables e below (T.setTop g) ((B.U.setTop { g with stack := rest }).pushFrame (.throwing q))) := by
  subst hg
  have hpl : e.platform.magicAccessors = ({} : Platform).magicAccessors := by rw [X.admits.platform]
  obtain ⟨mk, methM, cM, kP, vm₁, hnamed, hmethM, hcodeM, -, hlocalsM, -, hkP, -, hW₁, hstep₁⟩ := Steps.initColdArgsNest (e := e) X.here hexec X.warmed hpl hown hy1 hy hlink hinst hcode (f := g) rfl hlen hstack hdg
  have X₁ := X.noted hW₁
  rcases hK g.method meth c ⟨T.setVm vm₁, locs, cells, slots⟩ { g with stack := rest } (.invokespecial index) mk (Value.ref a :: argsL).toArray X₁ rfl hsize hdg hW (X₁.named hnamed) (hpre vm₁ X₁.warmed) with ⟨v, B, X', hpost, hsteps⟩ | ⟨q, B, X', hpost, hsteps⟩
  · exact Or.inl ⟨v, vm₁, B, X₁.warmed, X', hpost, fun target h => hstep₁ _ fun acts => by rw [doInvoke_state]; exact hsteps.trans h⟩
  · exact Or.inr ⟨q, vm₁, B, X₁.warmed, X', hpost, hstep₁ _ fun acts => by rw [doInvoke_state]; exact hsteps⟩
end VXIC
section VXID
variable {p : Program} {l : Launch} {e : Env} {R : Room} {s : State} {m : MethodId} {args : Array Value} {below : List Frame} {meth : Method} {c : Code} {H : Heap} {locs : List Loc} {cells slots : Nat}
theorem vx_runIN {y : MethodName} {bytes cc : ByteArray} {maxL nL mc ms n index : Nat} {ws : List Cond} {rm : Room} {Pc : Array Value → State → Prop} {Qc : Array Value → State → Outcome → State → Prop} {XC : String → State → State → Prop} {free : Addr → Prop} {Ts : List Cond} {own host : String} {b : Addr} {As rest : List Value} {g : JFrame}
    (S : CallFix p m c cc nL s args Ts own) (hM : vx_Met l y ws rm Pc Qc XC mc ms free) (cw : va_CN R s args own index y host bytes maxL none ws rm mc ms n ∧ y.name = "<init>" ∧ (Cond.instanceMethod y).before args s = true) (hp : PreS s H Pc (.ref b :: As))
    (hg : g.method = m) (hn : As.length = n) (hsize : g.locals.size = nL) (hstack : g.stack = As.reverse ++ .ref b :: rest) (hW : 2 * g.monitorRoom + (rest.map fun v => v.category).sum ≤ 8) (hdg : decode cc g.pc = .ok (.invokespecial index, 3)) (hf : cells + mc ≤ R.cells ∧ slots + ms ≤ R.slots) :
    vx_Run p l e R s m args below meth c H locs cells slots mc ms g rest (Qc (Value.ref b :: As).toArray) XC free := by
  obtain ⟨⟨⟨hrc, hrs, hfr, hlo, hws, hcw⟩, hcode, hini, hy, hlen, hl⟩, hx1, hx2⟩ := cw
  have hK : vx_Back l R p e below s args y 3 8 (PreOf R mc ms Pc) (PostOf Qc mc ms free) (vx_Post XC mc ms free) := vx_back (bytes := bytes) (maxL := maxL) (ret := none) hM hp.1 hrc hrs hfr hlo hws hcw (fun a' U hW => word_at hW (Or.inl (by first | rfl | simp [Cond.onTables, Cond.keeps, Cond.steady])) hini)
  obtain ⟨hx, hb, hml, ho, -⟩ := S
  have hPc := hp.2
  intro T hT X
  rcases vx_callIN X hx (bytes := bytes) (maxL := maxL) ho hx1 hl hx2 hcode hy hK hg (hsize.trans hml.symm) (a := b) (argsL := As) (rest := rest) (fun sig h => hn.trans (hlen sig h)) hstack hW (by rw [hb]; exact hdg)
    (fun vm₁ hW₁ => ⟨hf.1, hf.2, hPc (T.setVm vm₁) hT hW₁⟩) with ⟨v, vm₁, ⟨U', l2, c2, s2⟩, hW₁, X', ⟨g', mk, t, L, e1, e2, hq, h1, hL, h2, h3⟩, st⟩ | ⟨q, vm₁, ⟨U', l2, c2, s2⟩, hW₁, X', ⟨g', mk, t, L, E, ce, e1, e2, hq, hce, hcv, hcl, h1, hL, h2, h3⟩, st⟩
  · dsimp only [Pt.U, Pt.locs, Pt.cells, Pt.slots] at X' e1 e2 h1 h2 h3 st
    subst h1; subst h2; subst h3
    exact Or.inl ⟨v, (T.setVm vm₁).calling g' mk (Value.ref b :: As).toArray, t, U', L, hT, X', hL, e1, e2, hq, st⟩
  · dsimp only [Pt.U, Pt.locs, Pt.cells, Pt.slots] at X' e1 e2 h1 h2 h3 st hcl
    subst h1; subst h2; subst h3
    exact Or.inr ⟨q, (T.setVm vm₁).calling g' mk (Value.ref b :: As).toArray, t, U', L, E, ce, hT, X', hL, e1, e2, hq, hce, hcv, vx_cls hW₁ hcl, st⟩
end VXID
section
variable {p : Program} {l : Launch} {e : Env} {R : Room} {s : State} {m : MethodId} {args : Array Value} {below : List Frame} {meth : Method} {c : Code} {H : Heap} {locs : List Loc} {cells slots : Nat}
variable {T : State}
theorem vx_callVN (X : Stand p l e R s m args below meth c T locs cells slots) (hexec : p.tables.exec = Jvm.exec) {own C : String} {index : Nat} {host : String} {y : MethodName} {bytes : ByteArray} {maxL : Nat} {ret : Option FieldType}
    (hown : s.vm.findClass own = some m.cls) (hlink : (Cond.methodLinkNest own index y host).before args s = true) (hinst : (Cond.instanceMethod y).before args s = true) (hsel : (Cond.selects C y y).before args s = true)
    (hcode : (Cond.code y bytes maxL ret).before args s = true) (hy : y.cls ≠ "java/lang/invoke/MethodHandle" ∧ y.cls ≠ "java/lang/invoke/VarHandle")
    {W : Nat} {Pre : Pt → Array Value → Prop} {Post : Pt → Array Value → Option Value → Pt → Prop} {PostX : Pt → Array Value → Addr → Pt → Prop} (hK : vx_Back l R p e below s args y 3 W Pre Post PostX)
    {b : Addr} {cellB : Cell} (hcell : T.heap[b]? = some cellB) (hobj : cellB.vm.isStatics = false) (hcls : s.vm.findClass C = some cellB.cls)
    {g : JFrame} (hg : g.method = m) (hsize : g.locals.size = c.maxLocals) {argsL rest : List Value} (hlen : ∀ sig, parseMethodDescriptor y.desc = some sig → argsL.length = sig.parameters.length)
    (hstack : g.stack = argsL.reverse ++ .ref b :: rest) (hW : 2 * g.monitorRoom + (rest.map fun v => v.category).sum ≤ W) (hdg : decode c.code g.pc = .ok (.invokevirtual index, 3))
    (hpre : ∀ vm₁, s.WarmedH vm₁ → Pre ⟨T.setVm vm₁, locs, cells, slots⟩ (Value.ref b :: argsL).toArray) :
    (∃ (v : Option Value) (vm₁ : Vm) (B : Pt), s.WarmedH vm₁ ∧ Stand p l e R s m args below meth c B.U B.locs B.cells B.slots ∧ Post ⟨T.setVm vm₁, locs, cells, slots⟩ (Value.ref b :: argsL).toArray v B ∧
      ∀ target, Steps p.tables e below (B.U.setTop { g with pc := g.pc + 3, stack := v.toList ++ rest }) target → Steps p.tables e below (T.setTop g) target) ∨
    (∃ (q : Addr) (vm₁ : Vm) (B : Pt), s.WarmedH vm₁ ∧ Stand p l e R s m args below meth c B.U B.locs B.cells B.slots ∧ PostX ⟨T.setVm vm₁, locs, cells, slots⟩ (Value.ref b :: argsL).toArray q B ∧
      Steps p.tables e below (T.setTop g) ((B.U.setTop { g with stack := rest }).pushFrame (.throwing q))) := by
  obtain ⟨mk, methM, hnamed, hmethM, hstM, habM⟩ := Cond.instanceMethod_spec hinst
  obtain ⟨methM', cM, hmethM', -, -, -, -, -, -, hsigM⟩ := Cond.code_spec hnamed hcode
  cases hmethM.symm.trans hmethM'
  obtain ⟨c2, r2, m2, q1, q2, q3, q4, kP, hkP, hkPi⟩ := Cond.selects_spec hsel
  cases hcls.symm.trans q1
  cases (State.methodFound?_of_named hnamed hy).symm.trans q2
  cases hnamed.symm.trans q3
  have hselP : selectMethod e.platform s.vm cellB.cls mk = .method mk := by rw [Launch.admits_selectMethod X.admits]; exact q4
  obtain ⟨vm₁, X₁, hstep₁⟩ := X.invokevirtualNest hexec hown hlink hnamed hmethM hstM hkP hkPi hy (a := b) (cell := cellB) hcell
    (fun z h => by rw [h] at hobj; cases hobj) hselP hmethM habM hkP hkPi (g := g) hg (argsL := argsL) (rest := rest) (hlen _ hsigM) hstack hdg
  rcases hK m meth c ⟨T.setVm vm₁, locs, cells, slots⟩ { g with stack := rest } (.invokevirtual index) mk (Value.ref b :: argsL).toArray X₁ hg hsize hdg hW (X₁.named hnamed) (hpre vm₁ X₁.warmed) with ⟨v, B, X', hpost, hsteps⟩ | ⟨q, B, X', hpost, hsteps⟩
  · exact Or.inl ⟨v, vm₁, B, X₁.warmed, X', hpost, fun target h => hstep₁ _ fun acts => by rw [doInvoke_state]; exact hsteps.trans h⟩
  · exact Or.inr ⟨q, vm₁, B, X₁.warmed, X', hpost, hstep₁ _ fun acts => by rw [doInvoke_state]; exact hsteps⟩
theorem vx_callSN (X : Stand p l e R s m args below meth c T locs cells slots) (hexec : p.tables.exec = Jvm.exec) {own : String} {index : Nat} {host : String} {y : MethodName} {bytes : ByteArray} {maxL : Nat} {ret : Option FieldType}
    (hown : s.vm.findClass own = some m.cls) (hlink : (Cond.methodLinkNest own index y host).before args s = true) (hstat : (Cond.static y).before args s = true) (hinit : (Cond.initialized y.cls).before args s = true)
    (hcode : (Cond.code y bytes maxL ret).before args s = true) (hy : y.cls ≠ "java/lang/invoke/MethodHandle" ∧ y.cls ≠ "java/lang/invoke/VarHandle")
    {W : Nat} {Pre : Pt → Array Value → Prop} {Post : Pt → Array Value → Option Value → Pt → Prop} {PostX : Pt → Array Value → Addr → Pt → Prop} (hK : vx_Back l R p e below s args y 3 W Pre Post PostX)
    {g : JFrame} (hg : g.method = m) (hsize : g.locals.size = c.maxLocals) {argsL rest : List Value} (hlen : ∀ sig, parseMethodDescriptor y.desc = some sig → argsL.length = sig.parameters.length)
    (hstack : g.stack = argsL.reverse ++ rest) (hW : 2 * g.monitorRoom + (rest.map fun v => v.category).sum ≤ W) (hdg : decode c.code g.pc = .ok (.invokestatic index, 3))
    (hpre : ∀ vm₁, s.WarmedH vm₁ → Pre ⟨T.setVm vm₁, locs, cells, slots⟩ argsL.toArray) :
    (∃ (v : Option Value) (vm₁ : Vm) (B : Pt), s.WarmedH vm₁ ∧ Stand p l e R s m args below meth c B.U B.locs B.cells B.slots ∧ Post ⟨T.setVm vm₁, locs, cells, slots⟩ argsL.toArray v B ∧
      ∀ target, Steps p.tables e below (B.U.setTop { g with pc := g.pc + 3, stack := v.toList ++ rest }) target → Steps p.tables e below (T.setTop g) target) ∨
    (∃ (q : Addr) (vm₁ : Vm) (B : Pt), s.WarmedH vm₁ ∧ Stand p l e R s m args below meth c B.U B.locs B.cells B.slots ∧ PostX ⟨T.setVm vm₁, locs, cells, slots⟩ argsL.toArray q B ∧
      Steps p.tables e below (T.setTop g) ((B.U.setTop { g with stack := rest }).pushFrame (.throwing q))) := by
  obtain ⟨mk, hnamed⟩ := Cond.code_named hcode
  obtain ⟨methM, cM, hmethM, -, -, -, -, -, -, hsigM⟩ := Cond.code_spec hnamed hcode
  have hstatic : methM.isStatic = true := Cond.static_spec hnamed hmethM hstat
  obtain ⟨kP, hkP, -⟩ := className_of_methodNamed hnamed
  have hinitP : kP.init = .initialized := Cond.initialized_spec (findClass_of_methodNamed hnamed) hkP hinit
  obtain ⟨vm₁, X₁, hstep₁⟩ := X.invokestaticNest hexec hown hlink hnamed hmethM hstatic hkP hinitP hy (g := g) hg (argsL := argsL) (rest := rest) (hlen _ hsigM) hstack hdg
  rcases hK m meth c ⟨T.setVm vm₁, locs, cells, slots⟩ { g with stack := rest } (.invokestatic index) mk argsL.toArray X₁ hg hsize hdg hW (X₁.named hnamed) (hpre vm₁ X₁.warmed) with ⟨v, B, X', hpost, hsteps⟩ | ⟨q, B, X', hpost, hsteps⟩
  · exact Or.inl ⟨v, vm₁, B, X₁.warmed, X', hpost, fun target h => hstep₁ _ fun acts => by rw [doInvoke_state]; exact hsteps.trans h⟩
  · exact Or.inr ⟨q, vm₁, B, X₁.warmed, X', hpost, hstep₁ _ fun acts => by rw [doInvoke_state]; exact hsteps⟩
theorem vx_runVN {y : MethodName} {bytes cc : ByteArray} {maxL nL mc ms n index : Nat} {ret : Option FieldType} {ws : List Cond} {rm : Room} {Pc : Array Value → State → Prop} {Qc : Array Value → State → Outcome → State → Prop} {XC : String → State → State → Prop} {free : Addr → Prop} {Ts : List Cond} {own C host : String} {b : Addr} {As rest : List Value} {g : JFrame}
    (S : CallFix p m c cc nL s args Ts own) (hM : vx_Met l y ws rm Pc Qc XC mc ms free) (cw : va_CN R s args own index y host bytes maxL ret ws rm mc ms n ∧ (Cond.instanceMethod y).before args s = true ∧ (Cond.selects C y y).before args s = true) (hp : PreV s H C b Pc As)
    (hg : g.method = m) (hn : As.length = n) (hsize : g.locals.size = nL) (hstack : g.stack = As.reverse ++ .ref b :: rest) (hW : 2 * g.monitorRoom + (rest.map fun v => v.category).sum ≤ 8) (hdg : decode cc g.pc = .ok (.invokevirtual index, 3)) (hf : cells + mc ≤ R.cells ∧ slots + ms ≤ R.slots) :
    vx_Run p l e R s m args below meth c H locs cells slots mc ms g rest (Qc (Value.ref b :: As).toArray) XC free := by
  obtain ⟨⟨⟨hrc, hrs, hfr, hlo, hws, hcw⟩, hcode, hini, hy, hlen, hl⟩, hx1, hx2⟩ := cw
  have hK : vx_Back l R p e below s args y 3 8 (PreOf R mc ms Pc) (PostOf Qc mc ms free) (vx_Post XC mc ms free) := vx_back (bytes := bytes) (maxL := maxL) (ret := ret) hM hp.1 hrc hrs hfr hlo hws hcw (fun a' U hW => word_at hW (Or.inl (by first | rfl | simp [Cond.onTables, Cond.keeps, Cond.steady])) hini)
  obtain ⟨hx, hb, hml, ho, -⟩ := S
  obtain ⟨-, ⟨cellB, hcB, hoB, hclB⟩, hPc⟩ := hp
  intro T hT X
  rcases vx_callVN X hx (C := C) (bytes := bytes) (maxL := maxL) (ret := ret) ho hl hx1 hx2 hcode hy hK (by rw [hT]; exact hcB) hoB hclB hg (hsize.trans hml.symm) (argsL := As) (rest := rest) (fun sig h => hn.trans (hlen sig h)) hstack hW (by rw [hb]; exact hdg)
    (fun vm₁ hW₁ => ⟨hf.1, hf.2, hPc (T.setVm vm₁) hT hW₁⟩) with ⟨v, vm₁, ⟨U', l2, c2, s2⟩, hW₁, X', ⟨g', mk, t, L, e1, e2, hq, h1, hL, h2, h3⟩, st⟩ | ⟨q, vm₁, ⟨U', l2, c2, s2⟩, hW₁, X', ⟨g', mk, t, L, E, ce, e1, e2, hq, hce, hcv, hcl, h1, hL, h2, h3⟩, st⟩
  · dsimp only [Pt.U, Pt.locs, Pt.cells, Pt.slots] at X' e1 e2 h1 h2 h3 st
    subst h1; subst h2; subst h3
    exact Or.inl ⟨v, (T.setVm vm₁).calling g' mk (Value.ref b :: As).toArray, t, U', L, hT, X', hL, e1, e2, hq, st⟩
  · dsimp only [Pt.U, Pt.locs, Pt.cells, Pt.slots] at X' e1 e2 h1 h2 h3 st hcl
    subst h1; subst h2; subst h3
    exact Or.inr ⟨q, (T.setVm vm₁).calling g' mk (Value.ref b :: As).toArray, t, U', L, E, ce, hT, X', hL, e1, e2, hq, hce, hcv, vx_cls hW₁ hcl, st⟩
theorem vx_runSN {y : MethodName} {bytes cc : ByteArray} {maxL nL mc ms n index : Nat} {ret : Option FieldType} {ws : List Cond} {rm : Room} {Pc : Array Value → State → Prop} {Qc : Array Value → State → Outcome → State → Prop} {XC : String → State → State → Prop} {free : Addr → Prop} {Ts : List Cond} {own host : String} {As rest : List Value} {g : JFrame}
    (S : CallFix p m c cc nL s args Ts own) (hM : vx_Met l y ws rm Pc Qc XC mc ms free) (cw : va_CN R s args own index y host bytes maxL ret ws rm mc ms n ∧ (Cond.static y).before args s = true ∧ True) (hp : PreS s H Pc As)
    (hg : g.method = m) (hn : As.length = n) (hsize : g.locals.size = nL) (hstack : g.stack = As.reverse ++ rest) (hW : 2 * g.monitorRoom + (rest.map fun v => v.category).sum ≤ 8) (hdg : decode cc g.pc = .ok (.invokestatic index, 3)) (hf : cells + mc ≤ R.cells ∧ slots + ms ≤ R.slots) :
    vx_Run p l e R s m args below meth c H locs cells slots mc ms g rest (Qc As.toArray) XC free := by
  obtain ⟨⟨⟨hrc, hrs, hfr, hlo, hws, hcw⟩, hcode, hini, hy, hlen, hl⟩, hx1, hx2⟩ := cw
  have hK : vx_Back l R p e below s args y 3 8 (PreOf R mc ms Pc) (PostOf Qc mc ms free) (vx_Post XC mc ms free) := vx_back (bytes := bytes) (maxL := maxL) (ret := ret) hM hp.1 hrc hrs hfr hlo hws hcw (fun a' U hW => word_at hW (Or.inl (by first | rfl | simp [Cond.onTables, Cond.keeps, Cond.steady])) hini)
  obtain ⟨hx, hb, hml, ho, -⟩ := S
  have hPc := hp.2
  intro T hT X
  rcases vx_callSN X hx (bytes := bytes) (maxL := maxL) (ret := ret) ho hl hx1 hini hcode hy hK hg (hsize.trans hml.symm) (argsL := As) (rest := rest) (fun sig h => hn.trans (hlen sig h)) hstack hW (by rw [hb]; exact hdg)
    (fun vm₁ hW₁ => ⟨hf.1, hf.2, hPc (T.setVm vm₁) hT hW₁⟩) with ⟨v, vm₁, ⟨U', l2, c2, s2⟩, hW₁, X', ⟨g', mk, t, L, e1, e2, hq, h1, hL, h2, h3⟩, st⟩ | ⟨q, vm₁, ⟨U', l2, c2, s2⟩, hW₁, X', ⟨g', mk, t, L, E, ce, e1, e2, hq, hce, hcv, hcl, h1, hL, h2, h3⟩, st⟩
  · dsimp only [Pt.U, Pt.locs, Pt.cells, Pt.slots] at X' e1 e2 h1 h2 h3 st
    subst h1; subst h2; subst h3
    exact Or.inl ⟨v, (T.setVm vm₁).calling g' mk As.toArray, t, U', L, hT, X', hL, e1, e2, hq, st⟩
  · dsimp only [Pt.U, Pt.locs, Pt.cells, Pt.slots] at X' e1 e2 h1 h2 h3 st hcl
    subst h1; subst h2; subst h3
    exact Or.inr ⟨q, (T.setVm vm₁).calling g' mk As.toArray, t, U', L, E, ce, hT, X', hL, e1, e2, hq, hce, hcv, vx_cls hW₁ hcl, st⟩
end
end
section
/-! ===== the abstract machine: values with symbolic addresses, a heap as a function of them ===== -/
/-- an abstract object: an array of numbers (kind, length, contents), of references, an object (class, fields) -/
abbrev zO : Type := (Nat × Nat × (Nat → Int)) ⊕ ((Nat × Nat × (Nat → Option Nat)) ⊕ (Nat × List Value))
abbrev zM : Type := Nat → Option zO
/-- the world's constants: the classes' numbers, the arrays' classes, the first new address, the addresses that stood before (63: the empty array, 127: the script, 191: the class object of Object[]) -/
abbrev zG : Type := va_G × (Nat → ClassId) × Nat × (Nat → Nat)
abbrev zAi (k n : Nat) (f : Nat → Int) : zO := .inl (k, n, f)
abbrev zAr (k n : Nat) (f : Nat → Option Nat) : zO := .inr (.inl (k, n, f))
abbrev zOb (ci : Nat) (fs : List Value) : zO := .inr (.inr (ci, fs))
def zI (z : Int) : Int32 := Int32.ofInt z
def zL (z : Int) : Int64 := Int64.ofInt z
abbrev zE : Nat := 63
abbrev zX : Nat := 127
def zTy (G : zG) : List (ClassId × FieldType) := [(G.2.1 0, .int), (G.2.1 1, .boolean), (G.2.1 2, .long), (G.2.1 3, .object "SalonBook$Diary"), (G.2.1 4, .object "java/lang/Object")]
def zA (G : zG) : Nat → Prop := fun q => G.2.2.1 ≤ q
def zmr (L : Nat → Nat) (v : Value) : Value := match v with
  | .ref a => .ref (L a)
  | w => w
def zmq (L : Nat → Nat) (q : Nat × Value) : Nat × Value := (q.1, zmr L q.2)
def zme (G : zG) (L : Nat → Nat) (o : zO) : va_E := match o with
  | .inl (k, n, f) => if k = 2 then .inl (G.2.1 k, n, .inr (.inl (fun j => zL (f j)))) else .inl (G.2.1 k, n, .inl (fun j => zI (f j)))
  | .inr (.inl (k, n, f)) => .inl (G.2.1 k, n, .inr (.inr (.inr (.inr (fun j => (f j).map L)))))
  | .inr (.inr (ci, fs)) => .inr (ci, fs.map (zmr L))
/-- an address that stands -/
def zin (M : zM) (a : Nat) : Prop := (M a).isSome = true ∨ a % 64 = 63
def zok (M : zM) (v : Value) : Prop := ∀ a, v = .ref a → zin M a
def zoo (M : zM) (o : zO) : Prop := match o with
  | .inl _ => True
  | .inr (.inl (_, _, f)) => ∀ j a, f j = some a → zin M a
  | .inr (.inr (_, fs)) => ∀ v ∈ fs, zok M v
def zu (M : zM) (t : Nat) (o : zO) : zM := fun q => if q = t then some o else M q
theorem zu_s (M : zM) (t : Nat) (o : zO) : zu M t o t = some o := if_pos rfl
theorem zu_n {M : zM} {t q : Nat} {o : zO} (h : q ≠ t) : zu M t o q = M q := if_neg h
theorem zin_u {M : zM} {t : Nat} {o : zO} {a : Nat} (h : zin M a) : zin (zu M t o) a := by
  rcases h with h | h
  · by_cases e : a = t
    · exact Or.inl (by rw [e, zu_s]; rfl)
    · exact Or.inl (by rw [zu_n e]; exact h)
  · exact Or.inr h
theorem zok_u {M : zM} {t : Nat} {o : zO} {v : Value} (h : zok M v) : zok (zu M t o) v := fun a e => zin_u (h a e)
theorem zoo_u {M : zM} {t : Nat} {o : zO} {x : zO} (h : zoo M x) : zoo (zu M t o) x := by
  rcases x with x | ⟨k, n, f⟩ | ⟨ci, fs⟩
  · trivial
  · exact fun j a e => zin_u (h j a e)
  · exact fun v hv => zok_u (h v hv)
def zRep (G : zG) (L : Nat → Nat) (M : zM) (H : Heap) : Prop :=
  (∀ a, a % 64 = 63 → L a = G.2.2.2 a ∧ M a = none) ∧ (∀ t o, M t = some o → zoo M o) ∧ (∀ t u, (M t).isSome = true → (M u).isSome = true → L t = L u → t = u) ∧
  ∃ ws : va_W, va_P G.1 vwCl ws H ∧ va_D (zA G) ws ∧ ∀ t o, M t = some o → ∃ k : Nat, ws[k]? = some (L t, zme G L o)
/-- what stood at a method's start is where it was -/
def zAg (L0 : Nat → Nat) (M0 : zM) (L : Nat → Nat) (M : zM) : Prop := ∀ a, zin M0 a → zin M a ∧ L a = L0 a
def zStr : List (Nat × String) := [(106, "no more steps"), (112, "service was booked or requested"), (114, "usual service out of range"), (164, "no place for the visit"), (174, "no more requests"), (182, "no such request"), (212, "no such chair"), (230, "minutes out of range"), (238, "no such minute"), (240, "no such service"), (245, "no such member of staff"), (247, "no such visit"), (253, "visit was dropped"), (255, "no more services"), (257, "no more visits"), (261, "no such place"), (41, "skills out of range"), (50, "shift out of range"), (58, "no more staff"), (73, "skill out of range")]
theorem zmr_cat (L : Nat → Nat) (v : Value) : (zmr L v).category = v.category := by cases v <;> rfl
theorem zI_add (a b : Int) : zI a + zI b = zI (a + b) := (Int32.ofInt_add a b).symm
theorem zI_sub (a b : Int) : zI a - zI b = zI (a - b) := (Int32.ofInt_sub a b).symm
theorem zI_mul (a b : Int) : zI a * zI b = zI (a * b) := (Int32.ofInt_mul a b).symm
theorem zI_x (x : Int32) : zI x.toInt = x := Int32.ofInt_toInt x
/-- in the range of an int -/
abbrev zR (z : Int) : Prop := -2147483648 ≤ z ∧ z < 2147483648
theorem zI_t {z : Int} (h : zR z) : (zI z).toInt = z := by
  rw [zI, Int32.toInt_ofInt, show Int32.size = 4294967296 from rfl]
  have h1 := h.1
  have h2 := h.2
  rw [Int.bmod_def]
  omega
theorem zI_r (x : Int32) : zR x.toInt := ⟨Int32.le_toInt x, Int32.toInt_lt x⟩
theorem zI_le {a b : Int} (ha : zR a) (hb : zR b) : zI a ≤ zI b ↔ a ≤ b := by rw [Int32.le_iff_toInt_le, zI_t ha, zI_t hb]
theorem zI_lt {a b : Int} (ha : zR a) (hb : zR b) : zI a < zI b ↔ a < b := by rw [Int32.lt_iff_toInt_lt, zI_t ha, zI_t hb]
theorem zI_eq {a b : Int} (ha : zR a) (hb : zR b) : zI a = zI b ↔ a = b := ⟨fun h => by rw [← zI_t ha, h, zI_t hb], fun h => by rw [h]⟩
theorem zI_c {z : Int} (h0 : 0 ≤ z) (h1 : z < 2147483648) : (zI z).toNatClampNeg = z.toNat := by
  show (zI z).toInt.toNat = _
  rw [zI_t ⟨by omega, h1⟩]
theorem zI_in {z : Int} {n : Nat} (h0 : 0 ≤ z) (h1 : z < n) (hn : n < 2147483648) : vp_in (zI z) n := by
  intro h
  rw [zI_c h0 (by omega)] at h
  rcases h with h | h
  · have := (zI_lt (a := z) (b := 0) ⟨by omega, by omega⟩ ⟨by omega, by omega⟩).mp h
    omega
  · omega
theorem zI_0 : zI 0 = 0 := rfl
end
section
/-! ===== the judgement of the abstract machine ===== -/
/-- the running method: machine and start state; its frame; where things stood at its start -/
abbrev zC : Type := (Program × Launch × Env × State × MethodId) × (Array Value × List Frame × Method × Code) × (Nat → Nat) × zM
/-- calls between nest mates -/
def zNM : List (String × Nat × MethodName × String) := [(RX0, 18, yX6_isMinute, "SalonBook"), (RX2, 15, yX6_isMinute, "SalonBook"), (RX6, 34, yX2_init, "SalonBook")]
def zNC : List (String × String) := [(RX1, "java/lang/Object"), (RX4, "java/lang/Object"), (RX5, "java/lang/Object"), (RX3, "java/lang/Object"), ("java/lang/IllegalArgumentException", "java/lang/IllegalArgumentException"), ("java/lang/IllegalStateException", "java/lang/IllegalStateException"), ("java/lang/IndexOutOfBoundsException", "java/lang/IndexOutOfBoundsException"), ("java/util/NoSuchElementException", "java/util/NoSuchElementException")]
def zND : List MethodName := [Bundle.initS "java/lang/RuntimeException", Bundle.initS "java/lang/Exception", Bundle.initS Bundle.tN]
/-- what stays true below the first new address -/
def zLow (G : zG) (s : State) : Prop := va_K G.1 vwCl (zTy G) s ∧ vx_Zq Bundle.tN "UNASSIGNED_STACK" Bundle.steD (zA G) s s.heap ∧ vx_Zq Bundle.tN "SUPPRESSED_SENTINEL" Bundle.listD (zA G) s s.heap ∧ va_Z "java/util/ArrayList" "DEFAULTCAPACITY_EMPTY_ELEMENTDATA" "[Ljava/lang/Object;" (.ref (G.2.2.2 63)) (zA G) s s.heap ∧ va_T (.object "java/lang/Object") (G.2.2.2 63) 0 (fun _ => .null) (zA G) s s.heap ∧ (∀ q ∈ zStr, ∃ a, vk_R "SalonBook" q.1 q.2 a s) ∧ va_AO "SalonBook$Diary" s ∧ va_AO "java/lang/Object" s ∧ G.2.2.1 ≤ s.heap.size ∧ (∀ w ∈ zNM, va_Nw (.methodLinkNest w.1 w.2.1 w.2.2.1 w.2.2.2) s) ∧ (∀ w ∈ zNC, va_Nw (.castable w.1 w.2) s) ∧ va_Mi "[Ljava/lang/Object;" (G.2.2.2 191) s ∧ va_Dc s ∧ ∀ w ∈ zND, va_Nw (.declares w) s
def zW (k : zC) (R : Room) (H : Heap) (locs : List Loc) (cl sl : Nat) (Q : State → Prop) (pc : Nat) (ls : Array Slot) (st : List Value) : Prop := W k.1.1 k.1.2.1 k.1.2.2.1 R k.1.2.2.2.1 k.1.2.2.2.2 k.2.1.1 k.2.1.2.1 k.2.1.2.2.1 k.2.1.2.2.2 H locs cl sl Q (F0 k.1.2.2.2.2 pc ls st)
def zJ (k : zC) (G : zG) (R : Room) (nL : Nat) (Q : State → Prop) (M : zM) (cl sl pc : Nat) (lv : List (Nat × Value)) (st : List Value) : Prop :=
  ∀ (L : Nat → Nat) (H : Heap) (locs : List Loc) (ls : Array Slot), zRep G L M H → zAg k.2.2.1 k.2.2.2 L M → (∀ q ∈ lv, zok M q.2) → (∀ v ∈ st, zok M v) → va_S (zA G) k.1.2.2.2.1.heap H locs → lv_has ls nL (lv.map (zmq L)) → zW k R H locs cl sl Q pc ls (st.map (zmr L))
def zF (k : zC) (G : zG) (cc : ByteArray) (nL : Nat) (own : String) (Ts : List Cond) (ret : Option FieldType) (tb : List ExceptionTableEntry) : Prop :=
  CallFix k.1.1 k.1.2.2.2.2 k.2.1.2.2.2 cc nL k.1.2.2.2.1 k.2.1.1 Ts own ∧ zLow G k.1.2.2.2.1 ∧ k.1.2.1.stackTraces = false ∧ k.2.1.2.2.1.locks = false ∧ k.2.1.2.2.1.sig.returnType = ret ∧ k.2.1.2.2.2.exceptionTable.toList = tb
theorem zs_i {M : zM} {x : Int32} {st : List Value} (h : ∀ v ∈ st, zok M v) : ∀ v ∈ (Value.int x :: st), zok M v := List.forall_mem_cons.mpr ⟨fun a e => (nomatch e), h⟩
theorem zs_l {M : zM} {x : Int64} {st : List Value} (h : ∀ v ∈ st, zok M v) : ∀ v ∈ (Value.long x :: st), zok M v := List.forall_mem_cons.mpr ⟨fun a e => (nomatch e), h⟩
theorem zs_0 {M : zM} {st : List Value} (h : ∀ v ∈ st, zok M v) : ∀ v ∈ (Value.null :: st), zok M v := List.forall_mem_cons.mpr ⟨fun a e => (nomatch e), h⟩
theorem zs_r {M : zM} {a : Nat} {st : List Value} (ha : zin M a) (h : ∀ v ∈ st, zok M v) : ∀ v ∈ (Value.ref a :: st), zok M v := List.forall_mem_cons.mpr ⟨fun b e => (by cases e; exact ha), h⟩
theorem zs_t {M : zM} {x : Value} {st : List Value} (h : ∀ v ∈ (x :: st), zok M v) : ∀ v ∈ st, zok M v := fun v hv => h v (List.mem_cons_of_mem _ hv)
theorem zs_h {M : zM} {x : Value} {st : List Value} (h : ∀ v ∈ (x :: st), zok M v) : zok M x := h x List.mem_cons_self
theorem zs_at {M : zM} {lv : List (Nat × Value)} {j i : Nat} {v : Value} (h : ∀ q ∈ lv, zok M q.2) (hj : lv[j]? = some (i, v)) : zok M v := h (i, v) (List.mem_of_getElem? hj)
theorem zl_at {L : Nat → Nat} {ls : Array Slot} {nL j i : Nat} {v : Value} {lv : List (Nat × Value)} (h : lv_has ls nL (lv.map (zmq L))) (hj : lv[j]? = some (i, v)) : ls[i]? = some (.val (zmr L v)) := lv_at h j (by rw [List.getElem?_map, hj]; rfl)
theorem zl_set {L : Nat → Nat} {lv : List (Nat × Value)} {i : Nat} {v : Value} : (i, zmr L v) :: (lv.map (zmq L)).filter (fun q => !(q.1 == i) && !(q.1 + 1 == i && q.2.category == 2)) = ((i, v) :: lv.filter (fun q => !(q.1 == i) && !(q.1 + 1 == i && q.2.category == 2))).map (zmq L) := by
  rw [List.map_cons, List.filter_map, show ((fun (q : Nat × Value) => !(q.1 == i) && !(q.1 + 1 == i && q.2.category == 2)) ∘ zmq L) = (fun (q : Nat × Value) => !(q.1 == i) && !(q.1 + 1 == i && q.2.category == 2)) from funext fun q => by simp [zmq, zmr_cat]]
  rfl
theorem zv_set {M : zM} {lv : List (Nat × Value)} {i : Nat} {v : Value} (h : ∀ q ∈ lv, zok M q.2) (hv : zok M v) : ∀ q ∈ ((i, v) :: lv.filter (fun q => !(q.1 == i) && !(q.1 + 1 == i && q.2.category == 2))), zok M q.2 := List.forall_mem_cons.mpr ⟨hv, fun q hq => h q (List.mem_filter.mp hq).1⟩
section ZP
variable {k : zC} {G : zG} {R : Room} {nL : Nat} {Q : State → Prop} {M : zM} {cl sl pc : Nat} {lv : List (Nat × Value)} {st : List Value} {cc : ByteArray} {own : String} {Ts : List Cond} {ret : Option FieldType} {tb : List ExceptionTableEntry}
theorem z_iconst (F : zF k G cc nL own Ts ret tb) {n z : Int} (d : decode cc pc = .ok (.iconst n, 1)) (h : Int32.ofInt n = zI z) (kk : zJ k G R nL Q M cl sl (pc + 1) lv (.int (zI z) :: st)) : zJ k G R nL Q M cl sl (pc) lv (st) := by
  obtain ⟨⟨p, l, e, s, m⟩, ⟨args, below, meth, c⟩, L0, M0⟩ := k
  obtain ⟨⟨hx, hb, hml, hown, hts⟩, hLow, hfl, hlk, hrt, htb⟩ := F
  intro L H locs ls hR hA hv hs hS hl
  exact lv_iconst hx hb d h (kk L H locs ls hR hA hv (zs_i hs) hS hl)
theorem z_bipush (F : zF k G cc nL own Ts ret tb) {n z : Int} (d : decode cc pc = .ok (.bipush n, 2)) (h : (Int8.ofInt n).toInt32 = zI z) (kk : zJ k G R nL Q M cl sl (pc + 2) lv (.int (zI z) :: st)) : zJ k G R nL Q M cl sl (pc) lv (st) := by
  obtain ⟨⟨p, l, e, s, m⟩, ⟨args, below, meth, c⟩, L0, M0⟩ := k
  obtain ⟨⟨hx, hb, hml, hown, hts⟩, hLow, hfl, hlk, hrt, htb⟩ := F
  intro L H locs ls hR hA hv hs hS hl
  exact lv_bipush hx hb d h (kk L H locs ls hR hA hv (zs_i hs) hS hl)
theorem z_sipush (F : zF k G cc nL own Ts ret tb) {n z : Int} (d : decode cc pc = .ok (.sipush n, 3)) (h : (Int16.ofInt n).toInt32 = zI z) (kk : zJ k G R nL Q M cl sl (pc + 3) lv (.int (zI z) :: st)) : zJ k G R nL Q M cl sl (pc) lv (st) := by
  obtain ⟨⟨p, l, e, s, m⟩, ⟨args, below, meth, c⟩, L0, M0⟩ := k
  obtain ⟨⟨hx, hb, hml, hown, hts⟩, hLow, hfl, hlk, hrt, htb⟩ := F
  intro L H locs ls hR hA hv hs hS hl
  exact lv_sipush hx hb d h (kk L H locs ls hR hA hv (zs_i hs) hS hl)
theorem z_null (F : zF k G cc nL own Ts ret tb) (d : decode cc pc = .ok (.aconst_null, 1)) (kk : zJ k G R nL Q M cl sl (pc + 1) lv (.null :: st)) : zJ k G R nL Q M cl sl (pc) lv (st) := by
  obtain ⟨⟨p, l, e, s, m⟩, ⟨args, below, meth, c⟩, L0, M0⟩ := k
  obtain ⟨⟨hx, hb, hml, hown, hts⟩, hLow, hfl, hlk, hrt, htb⟩ := F
  intro L H locs ls hR hA hv hs hS hl
  exact lv_null hx hb d (kk L H locs ls hR hA hv (zs_0 hs) hS hl)
theorem z_ldc (F : zF k G cc nL own Ts ret tb) {n : Nat} {z : Int} (w : Cond.constant own n (zI z) ∈ Ts) (d : decode cc pc = .ok (.ldc n, 2)) (kk : zJ k G R nL Q M cl sl (pc + 2) lv (.int (zI z) :: st)) : zJ k G R nL Q M cl sl (pc) lv (st) := by
  obtain ⟨⟨p, l, e, s, m⟩, ⟨args, below, meth, c⟩, L0, M0⟩ := k
  obtain ⟨⟨hx, hb, hml, hown, hts⟩, hLow, hfl, hlk, hrt, htb⟩ := F
  intro L H locs ls hR hA hv hs hS hl
  exact lv_ldc hx hb hown (hts _ w) d (kk L H locs ls hR hA hv (zs_i hs) hS hl)
theorem z_iload_n (F : zF k G cc nL own Ts ret tb) (j : Nat) {n : Fin 4} {i : Nat} {z : Int} (d : decode cc pc = .ok (.iload_n n, 1)) (hi : (n : Nat) = i) (hj : lv[j]? = some (i, .int (zI z))) (kk : zJ k G R nL Q M cl sl (pc + 1) lv (.int (zI z) :: st)) : zJ k G R nL Q M cl sl (pc) lv (st) := by
  obtain ⟨⟨p, l, e, s, m⟩, ⟨args, below, meth, c⟩, L0, M0⟩ := k
  obtain ⟨⟨hx, hb, hml, hown, hts⟩, hLow, hfl, hlk, hrt, htb⟩ := F
  intro L H locs ls hR hA hv hs hS hl
  exact lv_iload_n hx hb d hi (zl_at hl hj) (kk L H locs ls hR hA hv (zs_i hs) hS hl)
theorem z_iload (F : zF k G cc nL own Ts ret tb) (j : Nat) {i : Nat} {z : Int} (d : decode cc pc = .ok (.iload i, 2)) (hj : lv[j]? = some (i, .int (zI z))) (kk : zJ k G R nL Q M cl sl (pc + 2) lv (.int (zI z) :: st)) : zJ k G R nL Q M cl sl (pc) lv (st) := by
  obtain ⟨⟨p, l, e, s, m⟩, ⟨args, below, meth, c⟩, L0, M0⟩ := k
  obtain ⟨⟨hx, hb, hml, hown, hts⟩, hLow, hfl, hlk, hrt, htb⟩ := F
  intro L H locs ls hR hA hv hs hS hl
  exact lv_iload hx hb d (zl_at hl hj) (kk L H locs ls hR hA hv (zs_i hs) hS hl)
theorem z_aload_n (F : zF k G cc nL own Ts ret tb) (j : Nat) {n : Fin 4} {i : Nat} {a : Nat} (d : decode cc pc = .ok (.aload_n n, 1)) (hi : (n : Nat) = i) (hj : lv[j]? = some (i, .ref a)) (kk : zJ k G R nL Q M cl sl (pc + 1) lv (.ref a :: st)) : zJ k G R nL Q M cl sl (pc) lv (st) := by
  obtain ⟨⟨p, l, e, s, m⟩, ⟨args, below, meth, c⟩, L0, M0⟩ := k
  obtain ⟨⟨hx, hb, hml, hown, hts⟩, hLow, hfl, hlk, hrt, htb⟩ := F
  intro L H locs ls hR hA hv hs hS hl
  exact lv_aload_n hx hb d hi (zl_at hl hj) (kk L H locs ls hR hA hv (zs_r (zs_at hv hj a rfl) hs) hS hl)
theorem z_aload (F : zF k G cc nL own Ts ret tb) (j : Nat) {i : Nat} {a : Nat} (d : decode cc pc = .ok (.aload i, 2)) (hj : lv[j]? = some (i, .ref a)) (kk : zJ k G R nL Q M cl sl (pc + 2) lv (.ref a :: st)) : zJ k G R nL Q M cl sl (pc) lv (st) := by
  obtain ⟨⟨p, l, e, s, m⟩, ⟨args, below, meth, c⟩, L0, M0⟩ := k
  obtain ⟨⟨hx, hb, hml, hown, hts⟩, hLow, hfl, hlk, hrt, htb⟩ := F
  intro L H locs ls hR hA hv hs hS hl
  exact lv_aload hx hb d (zl_at hl hj) (kk L H locs ls hR hA hv (zs_r (zs_at hv hj a rfl) hs) hS hl)
theorem z_istore_n (F : zF k G cc nL own Ts ret tb) {n : Fin 4} {i : Nat} {z : Int} (lv' : List (Nat × Value)) (d : decode cc pc = .ok (.istore_n n, 1)) (hi : (n : Nat) = i) (hn : i < nL) (hlv : (i, Value.int (zI z)) :: lv.filter (fun q => !(q.1 == i) && !(q.1 + 1 == i && q.2.category == 2)) = lv') (kk : zJ k G R nL Q M cl sl (pc + 1) lv' (st)) : zJ k G R nL Q M cl sl (pc) lv (.int (zI z) :: st) := by
  obtain ⟨⟨p, l, e, s, m⟩, ⟨args, below, meth, c⟩, L0, M0⟩ := k
  obtain ⟨⟨hx, hb, hml, hown, hts⟩, hLow, hfl, hlk, hrt, htb⟩ := F
  intro L H locs ls hR hA hv hs hS hl
  refine lv_istore_n hx hb d hi hl hn rfl (fun ls' hl' => ?_)
  subst hlv
  exact kk L H locs ls' hR hA (zv_set hv (fun a e => by cases e)) (zs_t hs) hS (zl_set ▸ hl')
theorem z_istore (F : zF k G cc nL own Ts ret tb) {i : Nat} {z : Int} (lv' : List (Nat × Value)) (d : decode cc pc = .ok (.istore i, 2)) (hn : i < nL) (hlv : (i, Value.int (zI z)) :: lv.filter (fun q => !(q.1 == i) && !(q.1 + 1 == i && q.2.category == 2)) = lv') (kk : zJ k G R nL Q M cl sl (pc + 2) lv' (st)) : zJ k G R nL Q M cl sl (pc) lv (.int (zI z) :: st) := by
  obtain ⟨⟨p, l, e, s, m⟩, ⟨args, below, meth, c⟩, L0, M0⟩ := k
  obtain ⟨⟨hx, hb, hml, hown, hts⟩, hLow, hfl, hlk, hrt, htb⟩ := F
  intro L H locs ls hR hA hv hs hS hl
  refine lv_istore hx hb d hl hn rfl (fun ls' hl' => ?_)
  subst hlv
  exact kk L H locs ls' hR hA (zv_set hv (fun a e => by cases e)) (zs_t hs) hS (zl_set ▸ hl')
theorem z_astore_n (F : zF k G cc nL own Ts ret tb) {n : Fin 4} {i : Nat} {a : Nat} (lv' : List (Nat × Value)) (d : decode cc pc = .ok (.astore_n n, 1)) (hi : (n : Nat) = i) (hn : i < nL) (hlv : (i, Value.ref a) :: lv.filter (fun q => !(q.1 == i) && !(q.1 + 1 == i && q.2.category == 2)) = lv') (kk : zJ k G R nL Q M cl sl (pc + 1) lv' (st)) : zJ k G R nL Q M cl sl (pc) lv (.ref a :: st) := by
  obtain ⟨⟨p, l, e, s, m⟩, ⟨args, below, meth, c⟩, L0, M0⟩ := k
  obtain ⟨⟨hx, hb, hml, hown, hts⟩, hLow, hfl, hlk, hrt, htb⟩ := F
  intro L H locs ls hR hA hv hs hS hl
  refine lv_astore_n hx hb d hi hl hn rfl (fun ls' hl' => ?_)
  subst hlv
  exact kk L H locs ls' hR hA (zv_set hv (zs_h hs)) (zs_t hs) hS (zl_set ▸ hl')
theorem z_astore (F : zF k G cc nL own Ts ret tb) {i : Nat} {a : Nat} (lv' : List (Nat × Value)) (d : decode cc pc = .ok (.astore i, 2)) (hn : i < nL) (hlv : (i, Value.ref a) :: lv.filter (fun q => !(q.1 == i) && !(q.1 + 1 == i && q.2.category == 2)) = lv') (kk : zJ k G R nL Q M cl sl (pc + 2) lv' (st)) : zJ k G R nL Q M cl sl (pc) lv (.ref a :: st) := by
  obtain ⟨⟨p, l, e, s, m⟩, ⟨args, below, meth, c⟩, L0, M0⟩ := k
  obtain ⟨⟨hx, hb, hml, hown, hts⟩, hLow, hfl, hlk, hrt, htb⟩ := F
  intro L H locs ls hR hA hv hs hS hl
  refine lv_astore hx hb d hl hn rfl (fun ls' hl' => ?_)
  subst hlv
  exact kk L H locs ls' hR hA (zv_set hv (zs_h hs)) (zs_t hs) hS (zl_set ▸ hl')
theorem z_iinc (F : zF k G cc nL own Ts ret tb) (j : Nat) {i : Nat} {n z : Int} (lv' : List (Nat × Value)) (d : decode cc pc = .ok (.iinc i n, 3)) (hj : lv[j]? = some (i, .int (zI z))) (hn : i < nL) (hlv : (i, Value.int (zI (z + n))) :: lv.filter (fun q => !(q.1 == i) && !(q.1 + 1 == i && q.2.category == 2)) = lv') (kk : zJ k G R nL Q M cl sl (pc + 3) lv' (st)) : zJ k G R nL Q M cl sl (pc) lv (st) := by
  obtain ⟨⟨p, l, e, s, m⟩, ⟨args, below, meth, c⟩, L0, M0⟩ := k
  obtain ⟨⟨hx, hb, hml, hown, hts⟩, hLow, hfl, hlk, hrt, htb⟩ := F
  intro L H locs ls hR hA hv hs hS hl
  refine lv_iinc (k := j) (x := zI z) (v := zI (z + n)) hx hb d hl (by rw [List.getElem?_map, hj]; rfl) (zI_add z n) hn rfl (fun ls' hl' => ?_)
  subst hlv
  exact kk L H locs ls' hR hA (zv_set hv (fun a e => by cases e)) hs hS (zl_set (L := L) (v := .int (zI (z + n))) ▸ hl')
theorem z_iadd (F : zF k G cc nL own Ts ret tb) {x y : Int} (d : decode cc pc = .ok (.iadd, 1)) (kk : zJ k G R nL Q M cl sl (pc + 1) lv (.int (zI (x + y)) :: st)) : zJ k G R nL Q M cl sl (pc) lv (.int (zI y) :: .int (zI x) :: st) := by
  obtain ⟨⟨p, l, e, s, m⟩, ⟨args, below, meth, c⟩, L0, M0⟩ := k
  obtain ⟨⟨hx, hb, hml, hown, hts⟩, hLow, hfl, hlk, hrt, htb⟩ := F
  intro L H locs ls hR hA hv hs hS hl
  refine lv_iadd hx hb d ?_
  rw [zI_add]
  exact kk L H locs ls hR hA hv (zs_i (zs_t (zs_t hs))) hS hl
theorem z_isub (F : zF k G cc nL own Ts ret tb) {x y : Int} (d : decode cc pc = .ok (.isub, 1)) (kk : zJ k G R nL Q M cl sl (pc + 1) lv (.int (zI (x - y)) :: st)) : zJ k G R nL Q M cl sl (pc) lv (.int (zI y) :: .int (zI x) :: st) := by
  obtain ⟨⟨p, l, e, s, m⟩, ⟨args, below, meth, c⟩, L0, M0⟩ := k
  obtain ⟨⟨hx, hb, hml, hown, hts⟩, hLow, hfl, hlk, hrt, htb⟩ := F
  intro L H locs ls hR hA hv hs hS hl
  refine lv_isub hx hb d ?_
  rw [zI_sub]
  exact kk L H locs ls hR hA hv (zs_i (zs_t (zs_t hs))) hS hl
theorem z_imul (F : zF k G cc nL own Ts ret tb) {x y : Int} (d : decode cc pc = .ok (.imul, 1)) (kk : zJ k G R nL Q M cl sl (pc + 1) lv (.int (zI (x * y)) :: st)) : zJ k G R nL Q M cl sl (pc) lv (.int (zI y) :: .int (zI x) :: st) := by
  obtain ⟨⟨p, l, e, s, m⟩, ⟨args, below, meth, c⟩, L0, M0⟩ := k
  obtain ⟨⟨hx, hb, hml, hown, hts⟩, hLow, hfl, hlk, hrt, htb⟩ := F
  intro L H locs ls hR hA hv hs hS hl
  refine lv_imul hx hb d ?_
  rw [zI_mul]
  exact kk L H locs ls hR hA hv (zs_i (zs_t (zs_t hs))) hS hl
theorem z_iand (F : zF k G cc nL own Ts ret tb) {x y : Int} (z : Int) (d : decode cc pc = .ok (.iand, 1)) (h : zI x &&& zI y = zI z) (kk : zJ k G R nL Q M cl sl (pc + 1) lv (.int (zI z) :: st)) : zJ k G R nL Q M cl sl (pc) lv (.int (zI y) :: .int (zI x) :: st) := by
  obtain ⟨⟨p, l, e, s, m⟩, ⟨args, below, meth, c⟩, L0, M0⟩ := k
  obtain ⟨⟨hx, hb, hml, hown, hts⟩, hLow, hfl, hlk, hrt, htb⟩ := F
  intro L H locs ls hR hA hv hs hS hl
  refine lv_iand hx hb d ?_
  rw [h]
  exact kk L H locs ls hR hA hv (zs_i (zs_t (zs_t hs))) hS hl
theorem z_ior (F : zF k G cc nL own Ts ret tb) {x y : Int} (z : Int) (d : decode cc pc = .ok (.ior, 1)) (h : zI x ||| zI y = zI z) (kk : zJ k G R nL Q M cl sl (pc + 1) lv (.int (zI z) :: st)) : zJ k G R nL Q M cl sl (pc) lv (.int (zI y) :: .int (zI x) :: st) := by
  obtain ⟨⟨p, l, e, s, m⟩, ⟨args, below, meth, c⟩, L0, M0⟩ := k
  obtain ⟨⟨hx, hb, hml, hown, hts⟩, hLow, hfl, hlk, hrt, htb⟩ := F
  intro L H locs ls hR hA hv hs hS hl
  refine lv_ior hx hb d ?_
  rw [h]
  exact kk L H locs ls hR hA hv (zs_i (zs_t (zs_t hs))) hS hl
theorem z_ixor (F : zF k G cc nL own Ts ret tb) {x y : Int} (z : Int) (d : decode cc pc = .ok (.ixor, 1)) (h : zI x ^^^ zI y = zI z) (kk : zJ k G R nL Q M cl sl (pc + 1) lv (.int (zI z) :: st)) : zJ k G R nL Q M cl sl (pc) lv (.int (zI y) :: .int (zI x) :: st) := by
  obtain ⟨⟨p, l, e, s, m⟩, ⟨args, below, meth, c⟩, L0, M0⟩ := k
  obtain ⟨⟨hx, hb, hml, hown, hts⟩, hLow, hfl, hlk, hrt, htb⟩ := F
  intro L H locs ls hR hA hv hs hS hl
  refine lv_ixor hx hb d ?_
  rw [h]
  exact kk L H locs ls hR hA hv (zs_i (zs_t (zs_t hs))) hS hl
theorem z_ishl (F : zF k G cc nL own Ts ret tb) {x y : Int} (z : Int) (d : decode cc pc = .ok (.ishl, 1)) (h : zI x <<< (zI y &&& 31) = zI z) (kk : zJ k G R nL Q M cl sl (pc + 1) lv (.int (zI z) :: st)) : zJ k G R nL Q M cl sl (pc) lv (.int (zI y) :: .int (zI x) :: st) := by
  obtain ⟨⟨p, l, e, s, m⟩, ⟨args, below, meth, c⟩, L0, M0⟩ := k
  obtain ⟨⟨hx, hb, hml, hown, hts⟩, hLow, hfl, hlk, hrt, htb⟩ := F
  intro L H locs ls hR hA hv hs hS hl
  refine lv_ishl hx hb d ?_
  rw [h]
  exact kk L H locs ls hR hA hv (zs_i (zs_t (zs_t hs))) hS hl
theorem z_ishr (F : zF k G cc nL own Ts ret tb) {x y : Int} (z : Int) (d : decode cc pc = .ok (.ishr, 1)) (h : zI x >>> (zI y &&& 31) = zI z) (kk : zJ k G R nL Q M cl sl (pc + 1) lv (.int (zI z) :: st)) : zJ k G R nL Q M cl sl (pc) lv (.int (zI y) :: .int (zI x) :: st) := by
  obtain ⟨⟨p, l, e, s, m⟩, ⟨args, below, meth, c⟩, L0, M0⟩ := k
  obtain ⟨⟨hx, hb, hml, hown, hts⟩, hLow, hfl, hlk, hrt, htb⟩ := F
  intro L H locs ls hR hA hv hs hS hl
  refine lv_ishr hx hb d ?_
  rw [h]
  exact kk L H locs ls hR hA hv (zs_i (zs_t (zs_t hs))) hS hl
theorem z_dup (F : zF k G cc nL own Ts ret tb) {v : Value} (d : decode cc pc = .ok (.dup, 1)) (h : v.category = 1) (kk : zJ k G R nL Q M cl sl (pc + 1) lv (v :: v :: st)) : zJ k G R nL Q M cl sl (pc) lv (v :: st) := by
  obtain ⟨⟨p, l, e, s, m⟩, ⟨args, below, meth, c⟩, L0, M0⟩ := k
  obtain ⟨⟨hx, hb, hml, hown, hts⟩, hLow, hfl, hlk, hrt, htb⟩ := F
  intro L H locs ls hR hA hv hs hS hl
  exact lv_dup hx hb d ((zmr_cat L v).trans h) (kk L H locs ls hR hA hv (List.forall_mem_cons.mpr ⟨zs_h hs, hs⟩) hS hl)
theorem z_pop (F : zF k G cc nL own Ts ret tb) {v : Value} (d : decode cc pc = .ok (.pop, 1)) (h : v.category = 1) (kk : zJ k G R nL Q M cl sl (pc + 1) lv (st)) : zJ k G R nL Q M cl sl (pc) lv (v :: st) := by
  obtain ⟨⟨p, l, e, s, m⟩, ⟨args, below, meth, c⟩, L0, M0⟩ := k
  obtain ⟨⟨hx, hb, hml, hown, hts⟩, hLow, hfl, hlk, hrt, htb⟩ := F
  intro L H locs ls hR hA hv hs hS hl
  exact lv_pop hx hb d ((zmr_cat L v).trans h) (kk L H locs ls hR hA hv (zs_t hs) hS hl)
theorem z_dup_x1 (F : zF k G cc nL own Ts ret tb) {v w : Value} (d : decode cc pc = .ok (.dup_x1, 1)) (h : v.category = 1) (h2 : w.category = 1) (kk : zJ k G R nL Q M cl sl (pc + 1) lv (v :: w :: v :: st)) : zJ k G R nL Q M cl sl (pc) lv (v :: w :: st) := by
  obtain ⟨⟨p, l, e, s, m⟩, ⟨args, below, meth, c⟩, L0, M0⟩ := k
  obtain ⟨⟨hx, hb, hml, hown, hts⟩, hLow, hfl, hlk, hrt, htb⟩ := F
  intro L H locs ls hR hA hv hs hS hl
  exact lv_dup_x1 hx hb d ((zmr_cat L v).trans h) ((zmr_cat L w).trans h2) (kk L H locs ls hR hA hv (List.forall_mem_cons.mpr ⟨zs_h hs, List.forall_mem_cons.mpr ⟨zs_h (zs_t hs), List.forall_mem_cons.mpr ⟨zs_h hs, zs_t (zs_t hs)⟩⟩⟩) hS hl)
theorem z_goto (F : zF k G cc nL own Ts ret tb) (tgt : Nat) {off : Int} (d : decode cc pc = .ok (.goto off, 3)) (ht : (pc : Int) + off = (tgt : Int)) (kk : zJ k G R nL Q M cl sl (tgt) lv (st)) : zJ k G R nL Q M cl sl (pc) lv (st) := by
  obtain ⟨⟨p, l, e, s, m⟩, ⟨args, below, meth, c⟩, L0, M0⟩ := k
  obtain ⟨⟨hx, hb, hml, hown, hts⟩, hLow, hfl, hlk, hrt, htb⟩ := F
  intro L H locs ls hR hA hv hs hS hl
  exact lv_goto hx hb d ht (kk L H locs ls hR hA hv hs hS hl)
theorem z_icmp_eq (F : zF k G cc nL own Ts ret tb) (tgt : Nat) {x y off : Int} (d : decode cc pc = .ok (.if_icmp .eq off, 3)) (ht : (pc : Int) + off = (tgt : Int)) (h1 : zR x) (h2 : zR y) (kt : x = y → zJ k G R nL Q M cl sl (tgt) lv (st)) (kf : x ≠ y → zJ k G R nL Q M cl sl (pc + 3) lv (st)) : zJ k G R nL Q M cl sl (pc) lv (.int (zI y) :: .int (zI x) :: st) := by
  obtain ⟨⟨p, l, e, s, m⟩, ⟨args, below, meth, c⟩, L0, M0⟩ := k
  obtain ⟨⟨hx, hb, hml, hown, hts⟩, hLow, hfl, hlk, hrt, htb⟩ := F
  intro L H locs ls hR hA hv hs hS hl
  exact lv_icmp_eq hx hb d ht (fun c9 => kt ((zI_eq h1 h2).mp c9) L H locs ls hR hA hv (zs_t (zs_t hs)) hS hl) (fun c9 => kf (fun q => c9 ((zI_eq h1 h2).mpr q)) L H locs ls hR hA hv (zs_t (zs_t hs)) hS hl)
theorem z_if_eq (F : zF k G cc nL own Ts ret tb) (tgt : Nat) {x off : Int} (d : decode cc pc = .ok (.ifCond .eq off, 3)) (ht : (pc : Int) + off = (tgt : Int)) (h1 : zR x) (kt : x = 0 → zJ k G R nL Q M cl sl (tgt) lv (st)) (kf : x ≠ 0 → zJ k G R nL Q M cl sl (pc + 3) lv (st)) : zJ k G R nL Q M cl sl (pc) lv (.int (zI x) :: st) := by
  obtain ⟨⟨p, l, e, s, m⟩, ⟨args, below, meth, c⟩, L0, M0⟩ := k
  obtain ⟨⟨hx, hb, hml, hown, hts⟩, hLow, hfl, hlk, hrt, htb⟩ := F
  intro L H locs ls hR hA hv hs hS hl
  have h2 : zR 0 := ⟨by decide, by decide⟩
  exact lv_if_eq hx hb d ht (fun c9 => kt ((zI_eq h1 h2).mp c9) L H locs ls hR hA hv (zs_t hs) hS hl) (fun c9 => kf (fun q => c9 ((zI_eq h1 h2).mpr q)) L H locs ls hR hA hv (zs_t hs) hS hl)
theorem z_icmp_ne (F : zF k G cc nL own Ts ret tb) (tgt : Nat) {x y off : Int} (d : decode cc pc = .ok (.if_icmp .ne off, 3)) (ht : (pc : Int) + off = (tgt : Int)) (h1 : zR x) (h2 : zR y) (kt : x ≠ y → zJ k G R nL Q M cl sl (tgt) lv (st)) (kf : x = y → zJ k G R nL Q M cl sl (pc + 3) lv (st)) : zJ k G R nL Q M cl sl (pc) lv (.int (zI y) :: .int (zI x) :: st) := by
  obtain ⟨⟨p, l, e, s, m⟩, ⟨args, below, meth, c⟩, L0, M0⟩ := k
  obtain ⟨⟨hx, hb, hml, hown, hts⟩, hLow, hfl, hlk, hrt, htb⟩ := F
  intro L H locs ls hR hA hv hs hS hl
  exact lv_icmp_ne hx hb d ht (fun c9 => kt (fun q => c9 ((zI_eq h1 h2).mpr q)) L H locs ls hR hA hv (zs_t (zs_t hs)) hS hl) (fun c9 => kf ((zI_eq h1 h2).mp c9) L H locs ls hR hA hv (zs_t (zs_t hs)) hS hl)
theorem z_if_ne (F : zF k G cc nL own Ts ret tb) (tgt : Nat) {x off : Int} (d : decode cc pc = .ok (.ifCond .ne off, 3)) (ht : (pc : Int) + off = (tgt : Int)) (h1 : zR x) (kt : x ≠ 0 → zJ k G R nL Q M cl sl (tgt) lv (st)) (kf : x = 0 → zJ k G R nL Q M cl sl (pc + 3) lv (st)) : zJ k G R nL Q M cl sl (pc) lv (.int (zI x) :: st) := by
  obtain ⟨⟨p, l, e, s, m⟩, ⟨args, below, meth, c⟩, L0, M0⟩ := k
  obtain ⟨⟨hx, hb, hml, hown, hts⟩, hLow, hfl, hlk, hrt, htb⟩ := F
  intro L H locs ls hR hA hv hs hS hl
  have h2 : zR 0 := ⟨by decide, by decide⟩
  exact lv_if_ne hx hb d ht (fun c9 => kt (fun q => c9 ((zI_eq h1 h2).mpr q)) L H locs ls hR hA hv (zs_t hs) hS hl) (fun c9 => kf ((zI_eq h1 h2).mp c9) L H locs ls hR hA hv (zs_t hs) hS hl)
theorem z_icmp_lt (F : zF k G cc nL own Ts ret tb) (tgt : Nat) {x y off : Int} (d : decode cc pc = .ok (.if_icmp .lt off, 3)) (ht : (pc : Int) + off = (tgt : Int)) (h1 : zR x) (h2 : zR y) (kt : x < y → zJ k G R nL Q M cl sl (tgt) lv (st)) (kf : y ≤ x → zJ k G R nL Q M cl sl (pc + 3) lv (st)) : zJ k G R nL Q M cl sl (pc) lv (.int (zI y) :: .int (zI x) :: st) := by
  obtain ⟨⟨p, l, e, s, m⟩, ⟨args, below, meth, c⟩, L0, M0⟩ := k
  obtain ⟨⟨hx, hb, hml, hown, hts⟩, hLow, hfl, hlk, hrt, htb⟩ := F
  intro L H locs ls hR hA hv hs hS hl
  exact lv_icmp_lt hx hb d ht (fun c9 => kt ((zI_lt h1 h2).mp c9) L H locs ls hR hA hv (zs_t (zs_t hs)) hS hl) (fun c9 => kf (by have := mt (zI_lt h1 h2).mpr c9; omega) L H locs ls hR hA hv (zs_t (zs_t hs)) hS hl)
theorem z_if_lt (F : zF k G cc nL own Ts ret tb) (tgt : Nat) {x off : Int} (d : decode cc pc = .ok (.ifCond .lt off, 3)) (ht : (pc : Int) + off = (tgt : Int)) (h1 : zR x) (kt : x < 0 → zJ k G R nL Q M cl sl (tgt) lv (st)) (kf : 0 ≤ x → zJ k G R nL Q M cl sl (pc + 3) lv (st)) : zJ k G R nL Q M cl sl (pc) lv (.int (zI x) :: st) := by
  obtain ⟨⟨p, l, e, s, m⟩, ⟨args, below, meth, c⟩, L0, M0⟩ := k
  obtain ⟨⟨hx, hb, hml, hown, hts⟩, hLow, hfl, hlk, hrt, htb⟩ := F
  intro L H locs ls hR hA hv hs hS hl
  have h2 : zR 0 := ⟨by decide, by decide⟩
  exact lv_if_lt hx hb d ht (fun c9 => kt ((zI_lt h1 h2).mp c9) L H locs ls hR hA hv (zs_t hs) hS hl) (fun c9 => kf (by have := mt (zI_lt h1 h2).mpr c9; omega) L H locs ls hR hA hv (zs_t hs) hS hl)
theorem z_icmp_ge (F : zF k G cc nL own Ts ret tb) (tgt : Nat) {x y off : Int} (d : decode cc pc = .ok (.if_icmp .ge off, 3)) (ht : (pc : Int) + off = (tgt : Int)) (h1 : zR x) (h2 : zR y) (kt : y ≤ x → zJ k G R nL Q M cl sl (tgt) lv (st)) (kf : x < y → zJ k G R nL Q M cl sl (pc + 3) lv (st)) : zJ k G R nL Q M cl sl (pc) lv (.int (zI y) :: .int (zI x) :: st) := by
  obtain ⟨⟨p, l, e, s, m⟩, ⟨args, below, meth, c⟩, L0, M0⟩ := k
  obtain ⟨⟨hx, hb, hml, hown, hts⟩, hLow, hfl, hlk, hrt, htb⟩ := F
  intro L H locs ls hR hA hv hs hS hl
  exact lv_icmp_ge hx hb d ht (fun c9 => kt ((zI_le h2 h1).mp c9) L H locs ls hR hA hv (zs_t (zs_t hs)) hS hl) (fun c9 => kf (by have := mt (zI_le h2 h1).mpr c9; omega) L H locs ls hR hA hv (zs_t (zs_t hs)) hS hl)
theorem z_if_ge (F : zF k G cc nL own Ts ret tb) (tgt : Nat) {x off : Int} (d : decode cc pc = .ok (.ifCond .ge off, 3)) (ht : (pc : Int) + off = (tgt : Int)) (h1 : zR x) (kt : 0 ≤ x → zJ k G R nL Q M cl sl (tgt) lv (st)) (kf : x < 0 → zJ k G R nL Q M cl sl (pc + 3) lv (st)) : zJ k G R nL Q M cl sl (pc) lv (.int (zI x) :: st) := by
  obtain ⟨⟨p, l, e, s, m⟩, ⟨args, below, meth, c⟩, L0, M0⟩ := k
  obtain ⟨⟨hx, hb, hml, hown, hts⟩, hLow, hfl, hlk, hrt, htb⟩ := F
  intro L H locs ls hR hA hv hs hS hl
  have h2 : zR 0 := ⟨by decide, by decide⟩
  exact lv_if_ge hx hb d ht (fun c9 => kt ((zI_le h2 h1).mp c9) L H locs ls hR hA hv (zs_t hs) hS hl) (fun c9 => kf (by have := mt (zI_le h2 h1).mpr c9; omega) L H locs ls hR hA hv (zs_t hs) hS hl)
theorem z_icmp_gt (F : zF k G cc nL own Ts ret tb) (tgt : Nat) {x y off : Int} (d : decode cc pc = .ok (.if_icmp .gt off, 3)) (ht : (pc : Int) + off = (tgt : Int)) (h1 : zR x) (h2 : zR y) (kt : y < x → zJ k G R nL Q M cl sl (tgt) lv (st)) (kf : x ≤ y → zJ k G R nL Q M cl sl (pc + 3) lv (st)) : zJ k G R nL Q M cl sl (pc) lv (.int (zI y) :: .int (zI x) :: st) := by
  obtain ⟨⟨p, l, e, s, m⟩, ⟨args, below, meth, c⟩, L0, M0⟩ := k
  obtain ⟨⟨hx, hb, hml, hown, hts⟩, hLow, hfl, hlk, hrt, htb⟩ := F
  intro L H locs ls hR hA hv hs hS hl
  exact lv_icmp_gt hx hb d ht (fun c9 => kt ((zI_lt h2 h1).mp c9) L H locs ls hR hA hv (zs_t (zs_t hs)) hS hl) (fun c9 => kf (by have := mt (zI_lt h2 h1).mpr c9; omega) L H locs ls hR hA hv (zs_t (zs_t hs)) hS hl)
theorem z_if_gt (F : zF k G cc nL own Ts ret tb) (tgt : Nat) {x off : Int} (d : decode cc pc = .ok (.ifCond .gt off, 3)) (ht : (pc : Int) + off = (tgt : Int)) (h1 : zR x) (kt : 0 < x → zJ k G R nL Q M cl sl (tgt) lv (st)) (kf : x ≤ 0 → zJ k G R nL Q M cl sl (pc + 3) lv (st)) : zJ k G R nL Q M cl sl (pc) lv (.int (zI x) :: st) := by
  obtain ⟨⟨p, l, e, s, m⟩, ⟨args, below, meth, c⟩, L0, M0⟩ := k
  obtain ⟨⟨hx, hb, hml, hown, hts⟩, hLow, hfl, hlk, hrt, htb⟩ := F
  intro L H locs ls hR hA hv hs hS hl
  have h2 : zR 0 := ⟨by decide, by decide⟩
  exact lv_if_gt hx hb d ht (fun c9 => kt ((zI_lt h2 h1).mp c9) L H locs ls hR hA hv (zs_t hs) hS hl) (fun c9 => kf (by have := mt (zI_lt h2 h1).mpr c9; omega) L H locs ls hR hA hv (zs_t hs) hS hl)
theorem z_icmp_le (F : zF k G cc nL own Ts ret tb) (tgt : Nat) {x y off : Int} (d : decode cc pc = .ok (.if_icmp .le off, 3)) (ht : (pc : Int) + off = (tgt : Int)) (h1 : zR x) (h2 : zR y) (kt : x ≤ y → zJ k G R nL Q M cl sl (tgt) lv (st)) (kf : y < x → zJ k G R nL Q M cl sl (pc + 3) lv (st)) : zJ k G R nL Q M cl sl (pc) lv (.int (zI y) :: .int (zI x) :: st) := by
  obtain ⟨⟨p, l, e, s, m⟩, ⟨args, below, meth, c⟩, L0, M0⟩ := k
  obtain ⟨⟨hx, hb, hml, hown, hts⟩, hLow, hfl, hlk, hrt, htb⟩ := F
  intro L H locs ls hR hA hv hs hS hl
  exact lv_icmp_le hx hb d ht (fun c9 => kt ((zI_le h1 h2).mp c9) L H locs ls hR hA hv (zs_t (zs_t hs)) hS hl) (fun c9 => kf (by have := mt (zI_le h1 h2).mpr c9; omega) L H locs ls hR hA hv (zs_t (zs_t hs)) hS hl)
theorem z_if_le (F : zF k G cc nL own Ts ret tb) (tgt : Nat) {x off : Int} (d : decode cc pc = .ok (.ifCond .le off, 3)) (ht : (pc : Int) + off = (tgt : Int)) (h1 : zR x) (kt : x ≤ 0 → zJ k G R nL Q M cl sl (tgt) lv (st)) (kf : 0 < x → zJ k G R nL Q M cl sl (pc + 3) lv (st)) : zJ k G R nL Q M cl sl (pc) lv (.int (zI x) :: st) := by
  obtain ⟨⟨p, l, e, s, m⟩, ⟨args, below, meth, c⟩, L0, M0⟩ := k
  obtain ⟨⟨hx, hb, hml, hown, hts⟩, hLow, hfl, hlk, hrt, htb⟩ := F
  intro L H locs ls hR hA hv hs hS hl
  have h2 : zR 0 := ⟨by decide, by decide⟩
  exact lv_if_le hx hb d ht (fun c9 => kt ((zI_le h1 h2).mp c9) L H locs ls hR hA hv (zs_t hs) hS hl) (fun c9 => kf (by have := mt (zI_le h1 h2).mpr c9; omega) L H locs ls hR hA hv (zs_t hs) hS hl)
theorem z_lv (lv' : List (Nat × Value)) (ks : List Nat) (h : lv_pick lv ks = lv') (kk : zJ k G R nL Q M cl sl (pc) lv' (st)) : zJ k G R nL Q M cl sl (pc) lv (st) := by
  intro L H locs ls hR hA hv hs hS hl
  refine kk L H locs ls hR hA (fun q hq => ?_) hs hS ⟨hl.1, hl.2.1, fun q hq => ?_⟩
  · rw [← h] at hq
    obtain ⟨j, -, hj⟩ := List.mem_filterMap.mp hq
    exact hv q (List.mem_of_getElem? hj)
  · obtain ⟨w, hw, rfl⟩ := List.mem_map.mp hq
    rw [← h] at hw
    obtain ⟨j, -, hj⟩ := List.mem_filterMap.mp hw
    exact hl.2.2 _ (List.mem_map.mpr ⟨w, List.mem_of_getElem? hj, rfl⟩)
theorem z_wd (cl' sl' : Nat) (h1 : cl ≤ cl') (h2 : sl ≤ sl') (kk : zJ k G R nL Q M cl' sl' pc lv st) : zJ k G R nL Q M cl sl pc lv st := by
  intro L H locs ls hR hA hv hs hS hl
  exact W.widen h1 h2 (kk L H locs ls hR hA hv hs hS hl)
theorem z_M {M' : zM} (h : M = M') (kk : zJ k G R nL Q M' cl sl pc lv st) : zJ k G R nL Q M cl sl pc lv st := h ▸ kk
theorem z_top {v w : Value} (h : v = w) (kk : zJ k G R nL Q M cl sl pc lv (w :: st)) : zJ k G R nL Q M cl sl pc lv (v :: st) := h ▸ kk
theorem z_ti {x y : Int} (h : x = y) (kk : zJ k G R nL Q M cl sl pc lv (.int (zI y) :: st)) : zJ k G R nL Q M cl sl pc lv (.int (zI x) :: st) := h ▸ kk
theorem z_tr {x y : Nat} (h : x = y) (kk : zJ k G R nL Q M cl sl pc lv (.ref y :: st)) : zJ k G R nL Q M cl sl pc lv (.ref x :: st) := h ▸ kk
end ZP
end
section
/-! ===== the abstract machine: the heap ===== -/
theorem zRep_set {G : zG} {L : Nat → Nat} {M : zM} {H H1 : Heap} {t : Nat} {o o' : zO} {ws : va_W} {k : Nat} (hm : M t = some o) (ho : zoo M o') (hR : zRep G L M H) (hD : va_D (zA G) ws) (hw : ∀ t o, M t = some o → ∃ k : Nat, ws[k]? = some (L t, zme G L o)) (hk : ws[k]? = some (L t, zme G L o)) (hP1 : va_P G.1 vwCl (ws.set k (L t, zme G L o')) H1) (hD1 : va_D (zA G) (ws.set k (L t, zme G L o'))) : zRep G L (zu M t o') H1 := by
  obtain ⟨e1, hz, hi, -⟩ := hR
  have hs : ∀ u, (zu M t o' u).isSome = true → (M u).isSome = true := fun u h => by
    by_cases e : u = t
    · rw [e, hm]; rfl
    · rwa [zu_n e] at h
  refine ⟨fun a ha => ⟨(e1 a ha).1, ?_⟩, fun u x h => ?_, fun u w h1 h2 => hi u w (hs u h1) (hs w h2), _, hP1, hD1, fun u x h => ?_⟩
  · rw [zu_n (fun e => by have := (e1 a ha).2; rw [e, hm] at this; cases this)]; exact (e1 a ha).2
  · by_cases e : u = t
    · rw [e, zu_s] at h
      cases h
      exact zoo_u ho
    · rw [zu_n e] at h
      exact zoo_u (hz u x h)
  · by_cases e : u = t
    · rw [e, zu_s] at h
      cases h
      subst e
      exact ⟨k, List.getElem?_set_self (List.getElem?_eq_some_iff.mp hk).1⟩
    · rw [zu_n e] at h
      obtain ⟨j, hj⟩ := hw u x h
      refine ⟨j, ?_⟩
      rw [List.getElem?_set_ne]
      · exact hj
      · intro hkj
        subst hkj
        have := hj.symm.trans hk
        exact e (hi u t (by rw [h]; rfl) (by rw [hm]; rfl) (congrArg Prod.fst (Option.some.inj this)))
def zLu (L : Nat → Nat) (t q : Nat) : Nat → Nat := fun u => if u = t then q else L u
theorem zLu_n {L : Nat → Nat} {t q u : Nat} (h : u ≠ t) : zLu L t q u = L u := if_neg h
theorem zLu_s {L : Nat → Nat} {t q : Nat} : zLu L t q t = q := if_pos rfl
theorem zin_ne {M : zM} {t a : Nat} (h : zin M a) (h0 : M t = none) (h1 : t % 64 ≠ 63) : a ≠ t := by
  rintro rfl
  rcases h with h | h
  · rw [h0] at h; cases h
  · exact h1 h
theorem zmr_congr {L L' : Nat → Nat} {v : Value} (h : ∀ a, v = .ref a → L' a = L a) : zmr L' v = zmr L v := by
  cases v with
  | ref a => exact congrArg Value.ref (h a rfl)
  | _ => rfl
theorem zme_congr {G : zG} {L L' : Nat → Nat} {M : zM} {o : zO} (ho : zoo M o) (h : ∀ a, zin M a → L' a = L a) : zme G L' o = zme G L o := by
  rcases o with x | ⟨k, n, f⟩ | ⟨ci, fs⟩
  · rfl
  · have e : (fun j => (f j).map L') = (fun j => (f j).map L) := by
      funext j
      cases hj : f j with
      | none => rfl
      | some a => exact congrArg some (h a (ho j a hj))
    show (Sum.inl (G.2.1 k, n, Sum.inr (Sum.inr (Sum.inr (Sum.inr (fun j => (f j).map L'))))) : va_E) = _
    rw [e]
    rfl
  · show (Sum.inr (ci, fs.map (zmr L')) : va_E) = Sum.inr (ci, fs.map (zmr L))
    rw [List.map_congr_left (fun v hv => zmr_congr (fun a e => h a (ho v hv a e)))]
theorem zs_congr {L L' : Nat → Nat} {M : zM} {st : List Value} (hs : ∀ v ∈ st, zok M v) (h : ∀ a, zin M a → L' a = L a) : st.map (zmr L') = st.map (zmr L) := List.map_congr_left (fun v hv => zmr_congr (fun a e => h a (hs v hv a e)))
theorem zl_congr {L L' : Nat → Nat} {M : zM} {lv : List (Nat × Value)} (hs : ∀ q ∈ lv, zok M q.2) (h : ∀ a, zin M a → L' a = L a) : lv.map (zmq L') = lv.map (zmq L) := List.map_congr_left (fun q hq => by show (q.1, zmr L' q.2) = (q.1, zmr L q.2); rw [zmr_congr (fun a e => h a (hs q hq a e))])
theorem zRep_new {G : zG} {L : Nat → Nat} {M : zM} {H H1 : Heap} {t q : Nat} {o : zO} {ws : va_W} {e : va_E} (h0 : M t = none) (h1 : t % 64 ≠ 63) (ho : zoo M o) (he : zme G L o = e) (hR : zRep G L M H) (hw : ∀ t o, M t = some o → ∃ k : Nat, ws[k]? = some (L t, zme G L o)) (hP1 : va_P G.1 vwCl (ws ++ [(q, e)]) H1) (hD1 : va_D (zA G) (ws ++ [(q, e)])) : zRep G (zLu L t q) (zu M t o) H1 := by
  obtain ⟨e1, hz, hi, -⟩ := hR
  have hne : ∀ a, zin M a → zLu L t q a = L a := fun a ha => zLu_n (zin_ne ha h0 h1)
  have hq : ∀ u, (M u).isSome = true → L u ≠ q := fun u hu hq => by
    obtain ⟨x, hx⟩ := Option.isSome_iff_exists.mp hu
    obtain ⟨k, hk⟩ := hw u x hx
    have hkl := (List.getElem?_eq_some_iff.mp hk).1
    have := hD1.1 k ws.length _ (q, e) (by rw [List.getElem?_append_left hkl]; exact hk) (by simp) hq
    omega
  have hsm : ∀ u, u ≠ t → (zu M t o u).isSome = true → (M u).isSome = true := fun u hu h => by rwa [zu_n hu] at h
  refine ⟨fun a ha => ⟨(zLu_n (show a ≠ t from fun e => h1 (by rw [← e]; exact ha))).trans (e1 a ha).1, ?_⟩, fun u x h => ?_, fun u w g1 g2 g => ?_, _, hP1, hD1, fun u x h => ?_⟩
  · rw [zu_n (show a ≠ t from fun e => h1 (by rw [← e]; exact ha))]; exact (e1 a ha).2
  · by_cases hu : u = t
    · rw [hu, zu_s] at h
      cases h
      exact zoo_u ho
    · rw [zu_n hu] at h
      exact zoo_u (hz u x h)
  · by_cases hu : u = t
    · by_cases hw' : w = t
      · rw [hu, hw']
      · rw [hu, zLu_s, zLu_n hw'] at g
        exact absurd g.symm (hq w (hsm w hw' g2))
    · by_cases hw' : w = t
      · rw [hw', zLu_s, zLu_n hu] at g
        exact absurd g (hq u (hsm u hu g1))
      · rw [zLu_n hu, zLu_n hw'] at g
        exact hi u w (hsm u hu g1) (hsm w hw' g2) g
  · by_cases hu : u = t
    · rw [hu, zu_s] at h
      cases h
      refine ⟨ws.length, ?_⟩
      rw [hu, zLu_s, zme_congr ho hne, he]
      simp
    · rw [zu_n hu] at h
      obtain ⟨j, hj⟩ := hw u x h
      refine ⟨j, ?_⟩
      rw [zLu_n hu, zme_congr (hz u x h) hne, List.getElem?_append_left (List.getElem?_eq_some_iff.mp hj).1]
      exact hj
theorem zAg_u {L0 L : Nat → Nat} {M0 M : zM} {t : Nat} {o : zO} (h : zAg L0 M0 L M) : zAg L0 M0 L (zu M t o) := fun a ha => ⟨zin_u (h a ha).1, (h a ha).2⟩
theorem zAg_new {L0 L : Nat → Nat} {M0 M : zM} {t q : Nat} {o : zO} (h0 : M t = none) (h1 : t % 64 ≠ 63) (h : zAg L0 M0 L M) : zAg L0 M0 (zLu L t q) (zu M t o) := fun a ha => ⟨zin_u (h a ha).1, (zLu_n (zin_ne (h a ha).1 h0 h1)).trans (h a ha).2⟩
section ZH
variable {k : zC} {G : zG} {R : Room} {nL : Nat} {Q : State → Prop} {M : zM} {cl sl pc : Nat} {lv : List (Nat × Value)} {st : List Value} {cc : ByteArray} {own : String} {ret : Option FieldType} {tb : List ExceptionTableEntry}
/-- field kf of the class ci, at the place 'index' of own's pool -/
def zFl (own : String) (index ci : Nat) (C : String) (T : u_T) (N kf : Nat) : Prop := vwCl[ci]? = some (C, T, N) ∧ (∀ w ∈ u_ws C T N, w ∈ wsL_law) ∧ kf < N ∧ Cond.fieldLink own index (T kf).1 (T kf).2.1 (T kf).2.2.1 ∈ wsL_law
theorem z_get (F : zF k G cc nL own wsL_law ret tb) {t ci kf N index : Nat} {fs : List Value} {C : String} {T : u_T} {v : Value} (hq : zFl own index ci C T N kf) (hm : M t = some (zOb ci fs)) (hf : fs[kf]? = some v) (d : decode cc pc = .ok (.getfield index, 3)) (kk : zJ k G R nL Q M (cl) (sl) (pc + 3) lv (v :: st)) : zJ k G R nL Q M (cl) (sl) (pc) lv (.ref t :: st) := by
  obtain ⟨⟨p, l, e, s, m⟩, ⟨args, below, meth, c⟩, L0, M0⟩ := k
  obtain ⟨⟨hx, hb, hml, hown, hts⟩, hLow, hfl, hlk, hrt, htb⟩ := F
  intro L H locs ls hR hA hv hs hS hl
  obtain ⟨e1, hz, hi, ws, hP, hD, hw⟩ := id hR
  obtain ⟨j, hj⟩ := hw t _ hm
  obtain ⟨q1, q2, q3, q4⟩ := hq
  exact va_get hx hb hts q2 hown hLow.1 hP j hj q1 kf q3 (hts _ q4) (fun _ h => h) (by rw [List.getElem?_map, hf]; rfl) d (kk L H locs ls hR hA hv (List.forall_mem_cons.mpr ⟨hz t _ hm v (List.mem_of_getElem? hf), zs_t hs⟩) hS hl)
theorem z_getS (F : zF k G cc nL own wsL_law ret tb) {t ci kf N index : Nat} {fs : List Value} {C ref : String} {T : u_T} {v : Value} (q1 : vwCl[ci]? = some (C, T, N)) (q2 : ∀ w ∈ u_ws C T N, w ∈ wsL_law) (q3 : kf < N) (q4 : Cond.fieldLink own index ref (T kf).2.1 (T kf).2.2.1 ∈ wsL_law) (q5 : Cond.sameField ref (T kf).1 (T kf).2.1 (T kf).2.2.1 ∈ wsL_law) (hm : M t = some (zOb ci fs)) (hf : fs[kf]? = some v) (d : decode cc pc = .ok (.getfield index, 3)) (kk : zJ k G R nL Q M (cl) (sl) (pc + 3) lv (v :: st)) : zJ k G R nL Q M (cl) (sl) (pc) lv (.ref t :: st) := by
  obtain ⟨⟨p, l, e, s, m⟩, ⟨args, below, meth, c⟩, L0, M0⟩ := k
  obtain ⟨⟨hx, hb, hml, hown, hts⟩, hLow, hfl, hlk, hrt, htb⟩ := F
  intro L H locs ls hR hA hv hs hS hl
  obtain ⟨e1, hz, hi, ws, hP, hD, hw⟩ := id hR
  obtain ⟨j, hj⟩ := hw t _ hm
  exact va_get hx hb hts q2 hown hLow.1 hP j hj q1 kf q3 (hts _ q4) (u_same (hts _ q5)) (by rw [List.getElem?_map, hf]; rfl) d (kk L H locs ls hR hA hv (List.forall_mem_cons.mpr ⟨hz t _ hm v (List.mem_of_getElem? hf), zs_t hs⟩) hS hl)
theorem zmap_set (L : Nat → Nat) (fs : List Value) (kf : Nat) (v : Value) : (fs.set kf v).map (zmr L) = (fs.map (zmr L)).set kf (zmr L v) := List.map_set
theorem zoo_set {M : zM} {ci kf : Nat} {fs : List Value} {v : Value} (h : zoo M (zOb ci fs)) (hv : zok M v) : zoo M (zOb ci (fs.set kf v)) := fun w hw => by
  rcases List.mem_or_eq_of_mem_set hw with h1 | h1
  · exact h w h1
  · rw [h1]; exact hv
theorem zn_mr {ty : FieldType} {v : Value} (L : Nat → Nat) (h : narrow ty v = v) : narrow ty (zmr L v) = zmr L v := by
  cases v with
  | ref a => cases ty <;> rfl
  | _ => exact h
theorem zf_mr {ty : FieldType} {v : Value} (L : Nat → Nat) (h : fits ty v = true) : fits ty (zmr L v) = true := by
  cases v with
  | ref a => cases ty <;> first | rfl | exact h
  | _ => exact h
theorem z_put (F : zF k G cc nL own wsL_law ret tb) {t ci kf N index : Nat} {fs : List Value} (fs' : List Value) {C : String} {T : u_T} {v : Value} {ty : FieldType} (hq : zFl own index ci C T N kf) (ty0 : Nat → FieldType) (hty : ∀ k, k < N → parseFieldDescriptor (T k).2.2.1 = some (ty0 k)) (hnm : ∀ a, a < N → ∀ b, b < N → a ≠ b → (T a).2.1 ≠ (T b).2.1) (hfin : (T kf).2.2.2 = false)  (hd : parseFieldDescriptor (T kf).2.2.1 = some ty) (hn : narrow ty v = v) (hfit : fits ty v = true) (hm : M t = some (zOb ci fs)) (hlen : kf < fs.length) (hset : fs.set kf v = fs') (d : decode cc pc = .ok (.putfield index, 3)) (kk : zJ k G R nL Q (zu M t (zOb ci fs')) (cl) (sl) (pc + 3) lv (st)) : zJ k G R nL Q M (cl) (sl) (pc) lv (v :: .ref t :: st) := by
  obtain ⟨⟨p, l, e, s, m⟩, ⟨args, below, meth, c⟩, L0, M0⟩ := k
  obtain ⟨⟨hx, hb, hml, hown, hts⟩, hLow, hfl, hlk, hrt, htb⟩ := F
  intro L H locs ls hR hA hv hs hS hl
  obtain ⟨e1, hz, hi, ws, hP, hD, hw⟩ := id hR
  obtain ⟨j, hj⟩ := hw t _ hm
  obtain ⟨q1, q2, q3, q4⟩ := hq
  subst hset
  refine va_put hx hb hts q2 ty0 hty hnm hown hLow.1 hP hD hS j hj q1 kf q3 (hts _ q4) (fun _ h => h) hfin hd (zn_mr L hn) (zf_mr L hfit) (by rw [List.length_map]; exact hlen) d (fun H1 locs1 hP1 hD1 hS1 => ?_)
  have e9 : zme G L (zOb ci (fs.set kf v)) = .inr (ci, (fs.map (zmr L)).set kf (zmr L v)) := congrArg (fun z => (Sum.inr (ci, z) : va_E)) (zmap_set L fs kf v)
  rw [← e9] at hP1 hD1
  exact kk L H1 locs1 ls (zRep_set hm (zoo_set (hz t _ hm) (zs_h hs)) hR hD hw hj hP1 hD1) (zAg_u hA) (fun q hq => zok_u (hv q hq)) (fun v hv => zok_u (zs_t (zs_t hs) v hv)) hS1 hl
theorem z_putF (F : zF k G cc nL own wsL_law ret tb) {t ci kf N index : Nat} {fs : List Value} (fs' : List Value) {C : String} {T : u_T} {v : Value} {ty : FieldType} (hq : zFl own index ci C T N kf) (ty0 : Nat → FieldType) (hty : ∀ k, k < N → parseFieldDescriptor (T k).2.2.1 = some (ty0 k)) (hnm : ∀ a, a < N → ∀ b, b < N → a ≠ b → (T a).2.1 ≠ (T b).2.1) (hfin : (T kf).2.2.2 = true) (hin2 : k.2.1.2.2.1.name = "<init>") (hdecl : (T kf).1 = own) (hd : parseFieldDescriptor (T kf).2.2.1 = some ty) (hn : narrow ty v = v) (hfit : fits ty v = true) (hm : M t = some (zOb ci fs)) (hlen : kf < fs.length) (hset : fs.set kf v = fs') (d : decode cc pc = .ok (.putfield index, 3)) (kk : zJ k G R nL Q (zu M t (zOb ci fs')) (cl) (sl) (pc + 3) lv (st)) : zJ k G R nL Q M (cl) (sl) (pc) lv (v :: .ref t :: st) := by
  obtain ⟨⟨p, l, e, s, m⟩, ⟨args, below, meth, c⟩, L0, M0⟩ := k
  obtain ⟨⟨hx, hb, hml, hown, hts⟩, hLow, hfl, hlk, hrt, htb⟩ := F
  intro L H locs ls hR hA hv hs hS hl
  obtain ⟨e1, hz, hi, ws, hP, hD, hw⟩ := id hR
  obtain ⟨j, hj⟩ := hw t _ hm
  obtain ⟨q1, q2, q3, q4⟩ := hq
  subst hset
  refine va_putF hx hb hts q2 ty0 hty hnm hown hLow.1 hP hD hS j hj q1 kf q3 (hts _ q4) (fun _ h => h) hfin hin2 hdecl hd (zn_mr L hn) (zf_mr L hfit) (by rw [List.length_map]; exact hlen) d (fun H1 locs1 hP1 hD1 hS1 => ?_)
  have e9 : zme G L (zOb ci (fs.set kf v)) = .inr (ci, (fs.map (zmr L)).set kf (zmr L v)) := congrArg (fun z => (Sum.inr (ci, z) : va_E)) (zmap_set L fs kf v)
  rw [← e9] at hP1 hD1
  exact kk L H1 locs1 ls (zRep_set hm (zoo_set (hz t _ hm) (zs_h hs)) hR hD hw hj hP1 hD1) (zAg_u hA) (fun q hq => zok_u (hv q hq)) (fun v hv => zok_u (zs_t (zs_t hs) v hv)) hS1 hl
theorem z_putS (F : zF k G cc nL own wsL_law ret tb) {t ci kf N index : Nat} {fs : List Value} (fs' : List Value) {C ref : String} {T : u_T} {v : Value} {ty : FieldType} (q1 : vwCl[ci]? = some (C, T, N)) (q2 : ∀ w ∈ u_ws C T N, w ∈ wsL_law) (q3 : kf < N) (q4 : Cond.fieldLink own index ref (T kf).2.1 (T kf).2.2.1 ∈ wsL_law) (q5 : Cond.sameField ref (T kf).1 (T kf).2.1 (T kf).2.2.1 ∈ wsL_law) (ty0 : Nat → FieldType) (hty : ∀ k, k < N → parseFieldDescriptor (T k).2.2.1 = some (ty0 k)) (hnm : ∀ a, a < N → ∀ b, b < N → a ≠ b → (T a).2.1 ≠ (T b).2.1) (hfin : (T kf).2.2.2 = false) (hd : parseFieldDescriptor (T kf).2.2.1 = some ty) (hn : narrow ty v = v) (hfit : fits ty v = true) (hm : M t = some (zOb ci fs)) (hlen : kf < fs.length) (hset : fs.set kf v = fs') (d : decode cc pc = .ok (.putfield index, 3)) (kk : zJ k G R nL Q (zu M t (zOb ci fs')) (cl) (sl) (pc + 3) lv (st)) : zJ k G R nL Q M (cl) (sl) (pc) lv (v :: .ref t :: st) := by
  obtain ⟨⟨p, l, e, s, m⟩, ⟨args, below, meth, c⟩, L0, M0⟩ := k
  obtain ⟨⟨hx, hb, hml, hown, hts⟩, hLow, hfl, hlk, hrt, htb⟩ := F
  intro L H locs ls hR hA hv hs hS hl
  obtain ⟨e1, hz, hi, ws, hP, hD, hw⟩ := id hR
  obtain ⟨j, hj⟩ := hw t _ hm
  subst hset
  refine va_put hx hb hts q2 ty0 hty hnm hown hLow.1 hP hD hS j hj q1 kf q3 (hts _ q4) (u_same (hts _ q5)) hfin hd (zn_mr L hn) (zf_mr L hfit) (by rw [List.length_map]; exact hlen) d (fun H1 locs1 hP1 hD1 hS1 => ?_)
  have e9 : zme G L (zOb ci (fs.set kf v)) = .inr (ci, (fs.map (zmr L)).set kf (zmr L v)) := congrArg (fun z => (Sum.inr (ci, z) : va_E)) (zmap_set L fs kf v)
  rw [← e9] at hP1 hD1
  exact kk L H1 locs1 ls (zRep_set hm (zoo_set (hz t _ hm) (zs_h hs)) hR hD hw hj hP1 hD1) (zAg_u hA) (fun q hq => zok_u (hv q hq)) (fun v hv => zok_u (zs_t (zs_t hs) v hv)) hS1 hl
def zup (f : Nat → Int) (i : Nat) (v : Int) : Nat → Int := fun j => if j = i then v else f j
theorem zup_s (f : Nat → Int) (i : Nat) (v : Int) : zup f i v i = v := if_pos rfl
theorem zup_n {f : Nat → Int} {i j : Nat} {v : Int} (h : j ≠ i) : zup f i v j = f j := if_neg h
theorem zup_I (f : Nat → Int) (i : Nat) (v : Int) : upd (fun j => zI (f j)) i (zI v) = fun j => zI (zup f i v j) := by
  funext j
  simp only [upd, zup]
  split <;> rfl
theorem zup_L (f : Nat → Int) (i : Nat) (v : Int) : vp_updL (fun j => zL (f j)) i (zL v) = fun j => zL (zup f i v j) := by
  funext j
  simp only [vp_updL, zup]
  split <;> rfl
theorem z_iald (F : zF k G cc nL own wsL_law ret tb) {t n : Nat} {f : Nat → Int} {i : Int} (hm : M t = some (zAi 0 n f)) (h0 : 0 ≤ i) (h1 : i < n) (hn : n < 2147483648) (d : decode cc pc = .ok (.iaload, 1)) (kk : zJ k G R nL Q M (cl) (sl) (pc + 1) lv (.int (zI (f i.toNat)) :: st)) : zJ k G R nL Q M (cl) (sl) (pc) lv (.int (zI i) :: .ref t :: st) := by
  obtain ⟨⟨p, l, e, s, m⟩, ⟨args, below, meth, c⟩, L0, M0⟩ := k
  obtain ⟨⟨hx, hb, hml, hown, hts⟩, hLow, hfl, hlk, hrt, htb⟩ := F
  intro L H locs ls hR hA hv hs hS hl
  obtain ⟨e1, hz, hi, ws, hP, hD, hw⟩ := id hR
  obtain ⟨j, hj⟩ := hw t _ hm
  refine va_iald (tys := zTy G) (f := fun j => zI (f j)) hx hb hLow.1 hP j 0 hj rfl (zI_in h0 h1 hn) d ?_
  rw [zI_c h0 (by omega)]
  exact kk L H locs ls hR hA hv (zs_i (zs_t (zs_t hs))) hS hl
theorem z_zald (F : zF k G cc nL own wsL_law ret tb) {t n : Nat} {f : Nat → Int} {i : Int} (hm : M t = some (zAi 1 n f)) (h0 : 0 ≤ i) (h1 : i < n) (hn : n < 2147483648) (d : decode cc pc = .ok (.baload, 1)) (kk : zJ k G R nL Q M (cl) (sl) (pc + 1) lv (.int (zI (f i.toNat)) :: st)) : zJ k G R nL Q M (cl) (sl) (pc) lv (.int (zI i) :: .ref t :: st) := by
  obtain ⟨⟨p, l, e, s, m⟩, ⟨args, below, meth, c⟩, L0, M0⟩ := k
  obtain ⟨⟨hx, hb, hml, hown, hts⟩, hLow, hfl, hlk, hrt, htb⟩ := F
  intro L H locs ls hR hA hv hs hS hl
  obtain ⟨e1, hz, hi, ws, hP, hD, hw⟩ := id hR
  obtain ⟨j, hj⟩ := hw t _ hm
  refine va_zald (tys := zTy G) (f := fun j => zI (f j)) hx hb hLow.1 hP j 1 hj rfl (zI_in h0 h1 hn) d ?_
  rw [zI_c h0 (by omega)]
  exact kk L H locs ls hR hA hv (zs_i (zs_t (zs_t hs))) hS hl
theorem z_lald (F : zF k G cc nL own wsL_law ret tb) {t n : Nat} {f : Nat → Int} {i : Int} (hm : M t = some (zAi 2 n f)) (h0 : 0 ≤ i) (h1 : i < n) (hn : n < 2147483648) (d : decode cc pc = .ok (.laload, 1)) (kk : zJ k G R nL Q M (cl) (sl) (pc + 1) lv (.long (zL (f i.toNat)) :: st)) : zJ k G R nL Q M (cl) (sl) (pc) lv (.int (zI i) :: .ref t :: st) := by
  obtain ⟨⟨p, l, e, s, m⟩, ⟨args, below, meth, c⟩, L0, M0⟩ := k
  obtain ⟨⟨hx, hb, hml, hown, hts⟩, hLow, hfl, hlk, hrt, htb⟩ := F
  intro L H locs ls hR hA hv hs hS hl
  obtain ⟨e1, hz, hi, ws, hP, hD, hw⟩ := id hR
  obtain ⟨j, hj⟩ := hw t _ hm
  refine va_lald (tys := zTy G) (f := fun j => zL (f j)) hx hb hLow.1 hP j 2 hj rfl (zI_in h0 h1 hn) d ?_
  rw [zI_c h0 (by omega)]
  exact kk L H locs ls hR hA hv (zs_l (zs_t (zs_t hs))) hS hl
theorem z_iast (F : zF k G cc nL own wsL_law ret tb) {t n : Nat} {f : Nat → Int} {i v : Int} (hm : M t = some (zAi 0 n f)) (h0 : 0 ≤ i) (h1 : i < n) (hn : n < 2147483648) (d : decode cc pc = .ok (.iastore, 1)) (kk : zJ k G R nL Q (zu M t (zAi 0 n (zup f i.toNat v))) (cl) (sl) (pc + 1) lv (st)) : zJ k G R nL Q M (cl) (sl) (pc) lv (.int (zI v) :: .int (zI i) :: .ref t :: st) := by
  obtain ⟨⟨p, l, e, s, m⟩, ⟨args, below, meth, c⟩, L0, M0⟩ := k
  obtain ⟨⟨hx, hb, hml, hown, hts⟩, hLow, hfl, hlk, hrt, htb⟩ := F
  intro L H locs ls hR hA hv hs hS hl
  obtain ⟨e1, hz, hi, ws, hP, hD, hw⟩ := id hR
  obtain ⟨j, hj⟩ := hw t _ hm
  refine va_iast (tys := zTy G) (f := fun j => zI (f j)) hx hb hLow.1 hP hD hS j 0 hj rfl (zI_in h0 h1 hn) d (fun H1 locs1 hP1 hD1 hS1 => ?_)
  rw [zI_c h0 (by omega), zup_I] at hP1 hD1
  exact kk L H1 locs1 ls (zRep_set (o' := zAi 0 n (zup f i.toNat v)) hm trivial hR hD hw hj hP1 hD1) (zAg_u hA) (fun q hq => zok_u (hv q hq)) (fun v hv => zok_u (zs_t (zs_t (zs_t hs)) v hv)) hS1 hl
theorem zI_bool {v : Int} (h : v = 0 ∨ v = 1) : vp_nar .boolean (zI v) = zI v := by rcases h with rfl | rfl <;> rfl
theorem z_zast (F : zF k G cc nL own wsL_law ret tb) {t n : Nat} {f : Nat → Int} {i v : Int} (hm : M t = some (zAi 1 n f)) (h0 : 0 ≤ i) (h1 : i < n) (hn : n < 2147483648) (hb01 : v = 0 ∨ v = 1) (d : decode cc pc = .ok (.bastore, 1)) (kk : zJ k G R nL Q (zu M t (zAi 1 n (zup f i.toNat v))) (cl) (sl) (pc + 1) lv (st)) : zJ k G R nL Q M (cl) (sl) (pc) lv (.int (zI v) :: .int (zI i) :: .ref t :: st) := by
  obtain ⟨⟨p, l, e, s, m⟩, ⟨args, below, meth, c⟩, L0, M0⟩ := k
  obtain ⟨⟨hx, hb, hml, hown, hts⟩, hLow, hfl, hlk, hrt, htb⟩ := F
  intro L H locs ls hR hA hv hs hS hl
  obtain ⟨e1, hz, hi, ws, hP, hD, hw⟩ := id hR
  obtain ⟨j, hj⟩ := hw t _ hm
  refine va_zast (tys := zTy G) (f := fun j => zI (f j)) hx hb hLow.1 hP hD hS j 1 hj rfl (zI_in h0 h1 hn) d (fun H1 locs1 hP1 hD1 hS1 => ?_)
  rw [zI_c h0 (by omega), zI_bool hb01, zup_I] at hP1 hD1
  exact kk L H1 locs1 ls (zRep_set (o' := zAi 1 n (zup f i.toNat v)) hm trivial hR hD hw hj hP1 hD1) (zAg_u hA) (fun q hq => zok_u (hv q hq)) (fun v hv => zok_u (zs_t (zs_t (zs_t hs)) v hv)) hS1 hl
theorem z_last (F : zF k G cc nL own wsL_law ret tb) {t n : Nat} {f : Nat → Int} {i v : Int} (hm : M t = some (zAi 2 n f)) (h0 : 0 ≤ i) (h1 : i < n) (hn : n < 2147483648) (d : decode cc pc = .ok (.lastore, 1)) (kk : zJ k G R nL Q (zu M t (zAi 2 n (zup f i.toNat v))) (cl) (sl) (pc + 1) lv (st)) : zJ k G R nL Q M (cl) (sl) (pc) lv (.long (zL v) :: .int (zI i) :: .ref t :: st) := by
  obtain ⟨⟨p, l, e, s, m⟩, ⟨args, below, meth, c⟩, L0, M0⟩ := k
  obtain ⟨⟨hx, hb, hml, hown, hts⟩, hLow, hfl, hlk, hrt, htb⟩ := F
  intro L H locs ls hR hA hv hs hS hl
  obtain ⟨e1, hz, hi, ws, hP, hD, hw⟩ := id hR
  obtain ⟨j, hj⟩ := hw t _ hm
  refine va_last (tys := zTy G) (f := fun j => zL (f j)) hx hb hLow.1 hP hD hS j 2 hj rfl (zI_in h0 h1 hn) d (fun H1 locs1 hP1 hD1 hS1 => ?_)
  rw [zI_c h0 (by omega), zup_L] at hP1 hD1
  exact kk L H1 locs1 ls (zRep_set (o' := zAi 2 n (zup f i.toNat v)) hm trivial hR hD hw hj hP1 hD1) (zAg_u hA) (fun q hq => zok_u (hv q hq)) (fun v hv => zok_u (zs_t (zs_t (zs_t hs)) v hv)) hS1 hl
theorem z_rf (L : Nat → Nat) (x : Option Nat) : va_rf (x.map L) = zmr L (va_rf x) := by cases x <;> rfl
theorem z_aald3 (F : zF k G cc nL own wsL_law ret tb) {t n a : Nat} {f : Nat → Option Nat} {i : Int} (hm : M t = some (zAr 3 n f)) (h0 : 0 ≤ i) (h1 : i < n) (hn : n < 2147483648) (hf : f i.toNat = some a) (d : decode cc pc = .ok (.aaload, 1)) (kk : zJ k G R nL Q M (cl) (sl) (pc + 1) lv (.ref a :: st)) : zJ k G R nL Q M (cl) (sl) (pc) lv (.int (zI i) :: .ref t :: st) := by
  obtain ⟨⟨p, l, e, s, m⟩, ⟨args, below, meth, c⟩, L0, M0⟩ := k
  obtain ⟨⟨hx, hb, hml, hown, hts⟩, hLow, hfl, hlk, hrt, htb⟩ := F
  intro L H locs ls hR hA hv hs hS hl
  obtain ⟨e1, hz, hi, ws, hP, hD, hw⟩ := id hR
  obtain ⟨j, hj⟩ := hw t _ hm
  refine va_aldq (tys := zTy G) (f := fun j => (f j).map L) hx hb hLow.1 hP j 3 hj rfl (zI_in h0 h1 hn) d ?_
  rw [zI_c h0 (by omega), hf]
  exact kk L H locs ls hR hA hv (zs_r (hz t _ hm _ a hf) (zs_t (zs_t hs))) hS hl
theorem z_aald4 (F : zF k G cc nL own wsL_law ret tb) {t n a : Nat} {f : Nat → Option Nat} {i : Int} (hm : M t = some (zAr 4 n f)) (h0 : 0 ≤ i) (h1 : i < n) (hn : n < 2147483648) (hf : f i.toNat = some a) (d : decode cc pc = .ok (.aaload, 1)) (kk : zJ k G R nL Q M (cl) (sl) (pc + 1) lv (.ref a :: st)) : zJ k G R nL Q M (cl) (sl) (pc) lv (.int (zI i) :: .ref t :: st) := by
  obtain ⟨⟨p, l, e, s, m⟩, ⟨args, below, meth, c⟩, L0, M0⟩ := k
  obtain ⟨⟨hx, hb, hml, hown, hts⟩, hLow, hfl, hlk, hrt, htb⟩ := F
  intro L H locs ls hR hA hv hs hS hl
  obtain ⟨e1, hz, hi, ws, hP, hD, hw⟩ := id hR
  obtain ⟨j, hj⟩ := hw t _ hm
  refine va_aldq (tys := zTy G) (f := fun j => (f j).map L) hx hb hLow.1 hP j 4 hj rfl (zI_in h0 h1 hn) d ?_
  rw [zI_c h0 (by omega), hf]
  exact kk L H locs ls hR hA hv (zs_r (hz t _ hm _ a hf) (zs_t (zs_t hs))) hS hl
theorem z_alen (F : zF k G cc nL own wsL_law ret tb) {t k9 n : Nat} {f : Nat → Int} (hm : M t = some (zAi k9 n f)) (hk9 : k9 < 3) (d : decode cc pc = .ok (.arraylength, 1)) (kk : zJ k G R nL Q M (cl) (sl) (pc + 1) lv (.int (zI n) :: st)) : zJ k G R nL Q M (cl) (sl) (pc) lv (.ref t :: st) := by
  obtain ⟨⟨p, l, e, s, m⟩, ⟨args, below, meth, c⟩, L0, M0⟩ := k
  obtain ⟨⟨hx, hb, hml, hown, hts⟩, hLow, hfl, hlk, hrt, htb⟩ := F
  intro L H locs ls hR hA hv hs hS hl
  obtain ⟨e1, hz, hi, ws, hP, hD, hw⟩ := id hR
  obtain ⟨j, hj⟩ := hw t _ hm
  rcases (show k9 = 0 ∨ k9 = 1 ∨ k9 = 2 by omega) with rfl | rfl | rfl
  · exact va_alen (tys := zTy G) hx hb hLow.1 hP j 0 hj rfl rfl d (kk L H locs ls hR hA hv (zs_i (zs_t hs)) hS hl)
  · exact va_alen (tys := zTy G) hx hb hLow.1 hP j 1 hj rfl rfl d (kk L H locs ls hR hA hv (zs_i (zs_t hs)) hS hl)
  · exact va_alen (tys := zTy G) hx hb hLow.1 hP j 2 hj rfl rfl d (kk L H locs ls hR hA hv (zs_i (zs_t hs)) hS hl)
theorem z_alenr (F : zF k G cc nL own wsL_law ret tb) {t n : Nat} {f : Nat → Option Nat} (hm : M t = some (zAr 4 n f)) (d : decode cc pc = .ok (.arraylength, 1)) (kk : zJ k G R nL Q M (cl) (sl) (pc + 1) lv (.int (zI n) :: st)) : zJ k G R nL Q M (cl) (sl) (pc) lv (.ref t :: st) := by
  obtain ⟨⟨p, l, e, s, m⟩, ⟨args, below, meth, c⟩, L0, M0⟩ := k
  obtain ⟨⟨hx, hb, hml, hown, hts⟩, hLow, hfl, hlk, hrt, htb⟩ := F
  intro L H locs ls hR hA hv hs hS hl
  obtain ⟨e1, hz, hi, ws, hP, hD, hw⟩ := id hR
  obtain ⟨j, hj⟩ := hw t _ hm
  exact va_alen (tys := zTy G) hx hb hLow.1 hP j 4 hj rfl rfl d (kk L H locs ls hR hA hv (zs_i (zs_t hs)) hS hl)
theorem zup_r (L : Nat → Nat) (f : Nat → Option Nat) (i a : Nat) : va_up (fun j => (f j).map L) i (some (L a)) = fun j => (va_up f i (some a) j).map L := by
  funext j
  simp only [va_up]
  split <;> rfl
theorem zoo_up {M : zM} {k n i a : Nat} {f : Nat → Option Nat} (h : zoo M (zAr k n f)) (ha : zin M a) : zoo M (zAr k n (va_up f i (some a))) := fun j b hb => by
  by_cases e : j = i
  · rw [e, va_up_self] at hb
    cases hb
    exact ha
  · rw [va_up_ne _ _ e] at hb
    exact h j b hb
theorem z_aast3 (F : zF k G cc nL own wsL_law ret tb) {t n a : Nat} {fs : List Value} {f : Nat → Option Nat} {i : Int} (hm : M t = some (zAr 3 n f)) (ha : M a = some (zOb 1 fs)) (h0 : 0 ≤ i) (h1 : i < n) (hn : n < 2147483648) (d : decode cc pc = .ok (.aastore, 1)) (kk : zJ k G R nL Q (zu M t (zAr 3 n (va_up f i.toNat (some a)))) (cl) (sl) (pc + 1) lv (st)) : zJ k G R nL Q M (cl) (sl) (pc) lv (.ref a :: .int (zI i) :: .ref t :: st) := by
  obtain ⟨⟨p, l, e, s, m⟩, ⟨args, below, meth, c⟩, L0, M0⟩ := k
  obtain ⟨⟨hx, hb, hml, hown, hts⟩, hLow, hfl, hlk, hrt, htb⟩ := F
  intro L H locs ls hR hA hv hs hS hl
  obtain ⟨e1, hz, hi, ws, hP, hD, hw⟩ := id hR
  obtain ⟨j, hj⟩ := hw t _ hm
  obtain ⟨j2, hj2⟩ := hw a _ ha
  refine va_astq (tys := zTy G) (f := fun j => (f j).map L) (r := (RX0, TX0, 2)) hx hb hLow.1 hP hD hS j 3 j2 1 hj rfl hj2 rfl (zI_in h0 h1 hn) d (fun H1 locs1 hP1 hD1 hS1 => ?_)
  rw [zI_c h0 (by omega), zup_r] at hP1 hD1
  exact kk L H1 locs1 ls (zRep_set (o' := zAr 3 n (va_up f i.toNat (some a))) hm (zoo_up (hz t _ hm) (Or.inl (by rw [ha]; rfl))) hR hD hw hj hP1 hD1) (zAg_u hA) (fun q hq => zok_u (hv q hq)) (fun v hv => zok_u (zs_t (zs_t (zs_t hs)) v hv)) hS1 hl
theorem z_cls {G : zG} {s : State} {cA : ClassId} {k : Nat} {ty : FieldType} (hK : va_K G.1 vwCl (zTy G ++ [(cA, ty)]) s) (hk : (zTy G)[k]? = some (G.2.1 k, ty)) : cA = G.2.1 k := by
  have h1 := (hK.2 5 (cA, ty) rfl).2
  have h2 := (hK.2 k (G.2.1 k, ty) (by rw [List.getElem?_append_left (List.getElem?_eq_some_iff.mp hk).1]; exact hk)).2
  cases ty with
  | object C =>
    obtain ⟨-, -, -, -, -, q1⟩ := h1
    obtain ⟨-, -, -, -, -, q2⟩ := h2
    exact Option.some.inj (q1.symm.trans q2)
  | _ => exact Option.some.inj (h1.symm.trans h2)
theorem z_newi (F : zF k G cc nL own wsL_law ret tb) (t : Nat) {n : Int} (N' : Nat) (hn : n = N') (hb9 : N' < 1000000) (h0 : M t = none) (h1 : t % 64 ≠ 63) (hcl : cl + 1 ≤ R.cells) (hsl : sl + N' ≤ R.slots) (hw9 : Cond.arrayClass .int ∈ wsL_law) (d : decode cc pc = .ok (.newarray .int, 2)) (kk : zJ k G R nL Q (zu M t (zAi 0 N' (fun _ => 0))) (cl + 1) (sl + N') (pc + 2) lv (.ref t :: st)) : zJ k G R nL Q M (cl) (sl) (pc) lv (.int (zI n) :: st) := by
  obtain ⟨⟨p, l, e, s, m⟩, ⟨args, below, meth, c⟩, L0, M0⟩ := k
  obtain ⟨⟨hx, hb, hml, hown, hts⟩, hLow, hfl, hlk, hrt, htb⟩ := F
  intro L H locs ls hR hA hv hs hS hl
  obtain ⟨e1, hz, hi, ws, hP, hD, hw⟩ := id hR
  subst hn
  refine va_newa (atype := .int) (ty := .int) (tys := zTy G) (N' := N') (a0 := (N', .inl (fun _ => (0 : Int32)))) hx hb (hts _ hw9) rfl hLow.1 hP hD hS (fun q hq => Nat.le_trans hLow.2.2.2.2.2.2.2.2.1 hq) (fun cA => rfl) (fun h => by have := (zI_lt (a := (N' : Int)) (b := 0) ⟨by omega, by omega⟩ ⟨by decide, by decide⟩).mp h; omega) (by rw [zI_c (by omega) (by omega)]; rfl) (by show N' * _ ≤ _; simp only [componentBytes]; omega) hcl hsl d (fun q cA H1 hK1 hP1 hD1 hS1 => ?_)
  have hc := z_cls (k := 0) hK1 rfl
  subst hc
  have hne : ∀ a, zin M a → zLu L t q a = L a := fun a ha => zLu_n (zin_ne ha h0 h1)
  have key := kk (zLu L t q) H1 locs ls (zRep_new (o := zAi 0 N' (fun _ => 0)) h0 h1 trivial rfl hR hw hP1 hD1) (zAg_new h0 h1 hA) (fun q hq => zok_u (hv q hq)) (zs_r (Or.inl (by rw [zu_s]; rfl)) (fun v hv => zok_u (zs_t hs v hv))) hS1 (by rw [zl_congr hv hne]; exact hl)
  rw [List.map_cons, zs_congr (zs_t hs) hne] at key
  rw [show zmr (zLu L t q) (.ref t) = .ref q from congrArg Value.ref zLu_s] at key
  exact key
theorem z_newz (F : zF k G cc nL own wsL_law ret tb) (t : Nat) {n : Int} (N' : Nat) (hn : n = N') (hb9 : N' < 1000000) (h0 : M t = none) (h1 : t % 64 ≠ 63) (hcl : cl + 1 ≤ R.cells) (hsl : sl + N' ≤ R.slots) (hw9 : Cond.arrayClass .boolean ∈ wsL_law) (d : decode cc pc = .ok (.newarray .boolean, 2)) (kk : zJ k G R nL Q (zu M t (zAi 1 N' (fun _ => 0))) (cl + 1) (sl + N') (pc + 2) lv (.ref t :: st)) : zJ k G R nL Q M (cl) (sl) (pc) lv (.int (zI n) :: st) := by
  obtain ⟨⟨p, l, e, s, m⟩, ⟨args, below, meth, c⟩, L0, M0⟩ := k
  obtain ⟨⟨hx, hb, hml, hown, hts⟩, hLow, hfl, hlk, hrt, htb⟩ := F
  intro L H locs ls hR hA hv hs hS hl
  obtain ⟨e1, hz, hi, ws, hP, hD, hw⟩ := id hR
  subst hn
  refine va_newa (atype := .boolean) (ty := .boolean) (tys := zTy G) (N' := N') (a0 := (N', .inl (fun _ => (0 : Int32)))) hx hb (hts _ hw9) rfl hLow.1 hP hD hS (fun q hq => Nat.le_trans hLow.2.2.2.2.2.2.2.2.1 hq) (fun cA => rfl) (fun h => by have := (zI_lt (a := (N' : Int)) (b := 0) ⟨by omega, by omega⟩ ⟨by decide, by decide⟩).mp h; omega) (by rw [zI_c (by omega) (by omega)]; rfl) (by show N' * _ ≤ _; simp only [componentBytes]; omega) hcl hsl d (fun q cA H1 hK1 hP1 hD1 hS1 => ?_)
  have hc := z_cls (k := 1) hK1 rfl
  subst hc
  have hne : ∀ a, zin M a → zLu L t q a = L a := fun a ha => zLu_n (zin_ne ha h0 h1)
  have key := kk (zLu L t q) H1 locs ls (zRep_new (o := zAi 1 N' (fun _ => 0)) h0 h1 trivial rfl hR hw hP1 hD1) (zAg_new h0 h1 hA) (fun q hq => zok_u (hv q hq)) (zs_r (Or.inl (by rw [zu_s]; rfl)) (fun v hv => zok_u (zs_t hs v hv))) hS1 (by rw [zl_congr hv hne]; exact hl)
  rw [List.map_cons, zs_congr (zs_t hs) hne] at key
  rw [show zmr (zLu L t q) (.ref t) = .ref q from congrArg Value.ref zLu_s] at key
  exact key
theorem z_newl (F : zF k G cc nL own wsL_law ret tb) (t : Nat) {n : Int} (N' : Nat) (hn : n = N') (hb9 : N' < 1000000) (h0 : M t = none) (h1 : t % 64 ≠ 63) (hcl : cl + 1 ≤ R.cells) (hsl : sl + N' ≤ R.slots) (hw9 : Cond.arrayClass .long ∈ wsL_law) (d : decode cc pc = .ok (.newarray .long, 2)) (kk : zJ k G R nL Q (zu M t (zAi 2 N' (fun _ => 0))) (cl + 1) (sl + N') (pc + 2) lv (.ref t :: st)) : zJ k G R nL Q M (cl) (sl) (pc) lv (.int (zI n) :: st) := by
  obtain ⟨⟨p, l, e, s, m⟩, ⟨args, below, meth, c⟩, L0, M0⟩ := k
  obtain ⟨⟨hx, hb, hml, hown, hts⟩, hLow, hfl, hlk, hrt, htb⟩ := F
  intro L H locs ls hR hA hv hs hS hl
  obtain ⟨e1, hz, hi, ws, hP, hD, hw⟩ := id hR
  subst hn
  refine va_newa (atype := .long) (ty := .long) (tys := zTy G) (N' := N') (a0 := (N', .inr (.inl (fun _ => (0 : Int64))))) hx hb (hts _ hw9) rfl hLow.1 hP hD hS (fun q hq => Nat.le_trans hLow.2.2.2.2.2.2.2.2.1 hq) (fun cA => rfl) (fun h => by have := (zI_lt (a := (N' : Int)) (b := 0) ⟨by omega, by omega⟩ ⟨by decide, by decide⟩).mp h; omega) (by rw [zI_c (by omega) (by omega)]; rfl) (by show N' * _ ≤ _; simp only [componentBytes]; omega) hcl hsl d (fun q cA H1 hK1 hP1 hD1 hS1 => ?_)
  have hc := z_cls (k := 2) hK1 rfl
  subst hc
  have hne : ∀ a, zin M a → zLu L t q a = L a := fun a ha => zLu_n (zin_ne ha h0 h1)
  have key := kk (zLu L t q) H1 locs ls (zRep_new (o := zAi 2 N' (fun _ => 0)) h0 h1 trivial rfl hR hw hP1 hD1) (zAg_new h0 h1 hA) (fun q hq => zok_u (hv q hq)) (zs_r (Or.inl (by rw [zu_s]; rfl)) (fun v hv => zok_u (zs_t hs v hv))) hS1 (by rw [zl_congr hv hne]; exact hl)
  rw [List.map_cons, zs_congr (zs_t hs) hne] at key
  rw [show zmr (zLu L t q) (.ref t) = .ref q from congrArg Value.ref zLu_s] at key
  exact key
theorem z_newr3 (F : zF k G cc nL own wsL_law ret tb) (t : Nat) {n : Int} {index : Nat} (N' : Nat) (hn : n = N') (hb9 : N' < 1000000) (h0 : M t = none) (h1 : t % 64 ≠ 63) (hcl : cl + 1 ≤ R.cells) (hsl : sl + N' ≤ R.slots) (hw9 : Cond.classLink own index "SalonBook$Diary" ∈ wsL_law) (d : decode cc pc = .ok (.anewarray index, 3)) (kk : zJ k G R nL Q (zu M t (zAr 3 N' (fun _ => none))) (cl + 1) (sl + N') (pc + 3) lv (.ref t :: st)) : zJ k G R nL Q M (cl) (sl) (pc) lv (.int (zI n) :: st) := by
  obtain ⟨⟨p, l, e, s, m⟩, ⟨args, below, meth, c⟩, L0, M0⟩ := k
  obtain ⟨⟨hx, hb, hml, hown, hts⟩, hLow, hfl, hlk, hrt, htb⟩ := F
  intro L H locs ls hR hA hv hs hS hl
  obtain ⟨e1, hz, hi, ws, hP, hD, hw⟩ := id hR
  subst hn
  refine va_newq (C := "SalonBook$Diary") (tys := zTy G) (N' := N') hx hb hown (hts _ hw9) hLow.2.2.2.2.2.2.1 hLow.1 hP hD hS (fun q hq => Nat.le_trans hLow.2.2.2.2.2.2.2.2.1 hq) (fun h => by have := (zI_lt (a := (N' : Int)) (b := 0) ⟨by omega, by omega⟩ ⟨by decide, by decide⟩).mp h; omega) (by rw [zI_c (by omega) (by omega)]; rfl) (by omega) hcl hsl d (fun q cA H1 hK1 hP1 hD1 hS1 => ?_)
  have hc := z_cls (k := 3) hK1 rfl
  subst hc
  have hne : ∀ a, zin M a → zLu L t q a = L a := fun a ha => zLu_n (zin_ne ha h0 h1)
  have key := kk (zLu L t q) H1 locs ls (zRep_new (o := zAr 3 N' (fun _ => none)) h0 h1 (fun j a h => by cases h) rfl hR hw hP1 hD1) (zAg_new h0 h1 hA) (fun q hq => zok_u (hv q hq)) (zs_r (Or.inl (by rw [zu_s]; rfl)) (fun v hv => zok_u (zs_t hs v hv))) hS1 (by rw [zl_congr hv hne]; exact hl)
  rw [List.map_cons, zs_congr (zs_t hs) hne] at key
  rw [show zmr (zLu L t q) (.ref t) = .ref q from congrArg Value.ref zLu_s] at key
  exact key
theorem z_newr4 (F : zF k G cc nL own wsL_law ret tb) (t : Nat) {n : Int} {index : Nat} (N' : Nat) (hn : n = N') (hb9 : N' < 1000000) (h0 : M t = none) (h1 : t % 64 ≠ 63) (hcl : cl + 1 ≤ R.cells) (hsl : sl + N' ≤ R.slots) (hw9 : Cond.classLink own index "java/lang/Object" ∈ wsL_law) (d : decode cc pc = .ok (.anewarray index, 3)) (kk : zJ k G R nL Q (zu M t (zAr 4 N' (fun _ => none))) (cl + 1) (sl + N') (pc + 3) lv (.ref t :: st)) : zJ k G R nL Q M (cl) (sl) (pc) lv (.int (zI n) :: st) := by
  obtain ⟨⟨p, l, e, s, m⟩, ⟨args, below, meth, c⟩, L0, M0⟩ := k
  obtain ⟨⟨hx, hb, hml, hown, hts⟩, hLow, hfl, hlk, hrt, htb⟩ := F
  intro L H locs ls hR hA hv hs hS hl
  obtain ⟨e1, hz, hi, ws, hP, hD, hw⟩ := id hR
  subst hn
  refine va_newq (C := "java/lang/Object") (tys := zTy G) (N' := N') hx hb hown (hts _ hw9) hLow.2.2.2.2.2.2.2.1 hLow.1 hP hD hS (fun q hq => Nat.le_trans hLow.2.2.2.2.2.2.2.2.1 hq) (fun h => by have := (zI_lt (a := (N' : Int)) (b := 0) ⟨by omega, by omega⟩ ⟨by decide, by decide⟩).mp h; omega) (by rw [zI_c (by omega) (by omega)]; rfl) (by omega) hcl hsl d (fun q cA H1 hK1 hP1 hD1 hS1 => ?_)
  have hc := z_cls (k := 4) hK1 rfl
  subst hc
  have hne : ∀ a, zin M a → zLu L t q a = L a := fun a ha => zLu_n (zin_ne ha h0 h1)
  have key := kk (zLu L t q) H1 locs ls (zRep_new (o := zAr 4 N' (fun _ => none)) h0 h1 (fun j a h => by cases h) rfl hR hw hP1 hD1) (zAg_new h0 h1 hA) (fun q hq => zok_u (hv q hq)) (zs_r (Or.inl (by rw [zu_s]; rfl)) (fun v hv => zok_u (zs_t hs v hv))) hS1 (by rw [zl_congr hv hne]; exact hl)
  rw [List.map_cons, zs_congr (zs_t hs) hne] at key
  rw [show zmr (zLu L t q) (.ref t) = .ref q from congrArg Value.ref zLu_s] at key
  exact key
theorem z_new (F : zF k G cc nL own wsL_law ret tb) (t : Nat) {index ci N : Nat} {C : String} {T : u_T} (fs : List Value) (hc : vwCl[ci]? = some (C, T, N)) (hin : ∀ w ∈ u_ws C T N, w ∈ wsL_law) (ty : Nat → FieldType) (hty : ∀ k, k < N → parseFieldDescriptor (T k).2.2.1 = some (ty k)) (hq1 : Cond.classLink own index C ∈ wsL_law) (hq2 : Cond.instantiable C N ∈ wsL_law) (hq3 : Cond.initialized C ∈ wsL_law) (hfs : ∀ j, j < N → defaultValue (ty j) = vp_V fs j) (hnr : ∀ v ∈ fs, v = .null ∨ v = .int (zI 0)) (h0 : M t = none) (h1 : t % 64 ≠ 63) (hcl : cl + 1 ≤ R.cells) (hsl : sl + N ≤ R.slots) (d : decode cc pc = .ok (.new index, 3)) (kk : zJ k G R nL Q (zu M t (zOb ci fs)) (cl + 1) (sl + N) (pc + 3) lv (.ref t :: st)) : zJ k G R nL Q M (cl) (sl) (pc) lv (st) := by
  obtain ⟨⟨p, l, e, s, m⟩, ⟨args, below, meth, c⟩, L0, M0⟩ := k
  obtain ⟨⟨hx, hb, hml, hown, hts⟩, hLow, hfl, hlk, hrt, htb⟩ := F
  intro L H locs ls hR hA hv hs hS hl
  obtain ⟨e1, hz, hi, ws, hP, hD, hw⟩ := id hR
  refine va_new (fs := fs) hx hb hts hin ty hty hown (hts _ hq1) (hts _ hq2) (hts _ hq3) hLow.1 hP hD hS (fun q hq => Nat.le_trans hLow.2.2.2.2.2.2.2.2.1 hq) hc hfs hcl hsl d (fun q H1 hP1 hD1 hS1 => ?_)
  have hne : ∀ a, zin M a → zLu L t q a = L a := fun a ha => zLu_n (zin_ne ha h0 h1)
  have hmap : ∀ L : Nat → Nat, fs.map (zmr L) = fs := fun L => (List.map_congr_left (g := id) (fun v hv => by rcases hnr v hv with rfl | rfl <;> rfl)).trans (List.map_id fs)
  have key := kk (zLu L t q) H1 locs ls (zRep_new (o := zOb ci fs) h0 h1 (fun v hv a e => by rcases hnr v hv with rfl | rfl <;> cases e) (congrArg (fun z => (Sum.inr (ci, z) : va_E)) (hmap L)) hR hw hP1 hD1) (zAg_new h0 h1 hA) (fun q hq => zok_u (hv q hq)) (zs_r (Or.inl (by rw [zu_s]; rfl)) (fun v hv => zok_u (hs v hv))) hS1 (by rw [zl_congr hv hne]; exact hl)
  rw [List.map_cons, zs_congr hs hne] at key
  rw [show zmr (zLu L t q) (.ref t) = .ref q from congrArg Value.ref zLu_s] at key
  exact key
end ZH
end
section
/-! ===== the abstract machine: contracts and calls ===== -/
theorem zGood : GoodIn wsL_law wsL_law := fun w h => ⟨h, good_of_word (List.all_eq_true.mp (show wsL_law.all goodWord = true by decide +kernel) w h)⟩
theorem zLow.moved {G : zG} {u U : State} (hvm : u.vm.Alike U.vm) (hh : U.heap = u.heap) (hst : ∀ q ∈ zStr, ∃ a, vk_R "SalonBook" q.1 q.2 a U) (hnm : ∀ w ∈ zNM, va_Nw (.methodLinkNest w.1 w.2.1 w.2.2.1 w.2.2.2) U) (hnc : ∀ w ∈ zNC, va_Nw (.castable w.1 w.2) U) (hdc : va_Dc U) (hnd : ∀ w ∈ zND, va_Nw (.declares w) U) (h : zLow G u) : zLow G U := by
  obtain ⟨a1, a2, a3, a4, a5, a6, a7, a8, a9, b1, b2, b3, b4, b5⟩ := h
  exact ⟨a1.moved hvm, by rw [hh]; exact a2.moved hvm, by rw [hh]; exact a3.moved hvm, by rw [hh]; exact a4.moved hvm, by rw [hh]; exact a5.moved hvm, hst, a7.moved hvm, a8.moved hvm, by rw [hh]; exact a9, hnm, hnc, b3.moved hvm, hdc, hnd⟩
theorem zLow.call {G : zG} {U : State} (g : JFrame) (mk : MethodId) (a : Array Value) (h : zLow G U) : zLow G (U.calling g mk a) :=
  zLow.moved (u := U) (U := U.calling g mk a) (Vm.Alike.refl U.vm) rfl (fun q hq => by obtain ⟨a, ha⟩ := h.2.2.2.2.2.1 q hq; exact ⟨a, vk_R.same (u := U) rfl ha⟩) (fun w hw => va_Nw.same rfl (u := U) rfl (h.2.2.2.2.2.2.2.2.2.1 w hw)) (fun w hw => va_Nw.same rfl (u := U) rfl (h.2.2.2.2.2.2.2.2.2.2.1 w hw)) (va_Nw.same (w := .declares _) rfl (u := U) rfl h.2.2.2.2.2.2.2.2.2.2.2.2.1) (fun w hw => va_Nw.same rfl (u := U) rfl (h.2.2.2.2.2.2.2.2.2.2.2.2.2 w hw)) h
theorem zLow.warm {G : zG} {s U : State} {H : Heap} {locs : List Loc} (h : zLow G s) (hS : va_S (zA G) s.heap H locs) (hU : U.heap = H) (hW : s.WarmedH U.vm) : zLow G U := by
  obtain ⟨a1, a2, a3, a4, a5, a6, a7, a8, a9, b1, b2, b3, b4, b5⟩ := h
  subst hU
  have hq : ∀ a : Nat, a < s.heap.size → ¬ zA G a → U.heap[a]? = s.heap[a]? := hS.2.1
  exact ⟨a1.moved hW.alike, (a2.kept hq).moved hW.alike, (a3.kept hq).moved hW.alike, (a4.kept hq).moved hW.alike, (a5.kept hq).moved hW.alike, fun q hq => by obtain ⟨a, ha⟩ := a6 q hq; exact ⟨a, ha.warm hW⟩, a7.moved hW.alike, a8.moved hW.alike, Nat.le_trans a9 hS.1, fun w hw => (b1 w hw).warmM hW, fun w hw => (b2 w hw).warmC hW, b3.moved hW.alike, va_Nw.warmD hW b4, fun w hw => (b5 w hw).warmD hW⟩
/-- a contract's start, its return, its throw -/
def zPre (G : zG) (L0 : Nat → Nat) (av : List Value) (M : zM) : Array Value → State → Prop := va_Pc (av.map (zmr L0)) (fun U => zLow G U ∧ zRep G L0 M U.heap ∧ ∀ v ∈ av, zok M v)
def zQ (G : zG) (L0 : Nat → Nat) (M : zM) (Rc : Option Value → zM → Prop) : Array Value → State → Outcome → State → Prop := fun _ st oc t => (∃ (r : Option Value) (M' : zM) (L' : Nat → Nat), oc = .returned (r.map (zmr L')) ∧ Rc r M' ∧ zRep G L' M' t.heap ∧ zAg L0 M L' M' ∧ ∀ v, r = some v → zok M' v) ∧ va_F (zA G) st t
def zT (G : zG) (L0 : Nat → Nat) (M : zM) (Xc : String → zM → Prop) : String → State → State → Prop := fun E st t => (∃ (M' : zM) (L' : Nat → Nat), Xc E M' ∧ zRep G L' M' t.heap ∧ zAg L0 M L' M') ∧ va_F (zA G) st t
/-- a method's contract: called on av over M it comes back with Rc, or throws with Xc -/
def zCn (l : Launch) (G : zG) (y : MethodName) (cw : Cond) (R : Room) (av : List Value) (M : zM) (Rc : Option Value → zM → Prop) (Xc : String → zM → Prop) : Prop := ∀ L0 : Nat → Nat, vx_Met l y (cw :: wsL_law) R (zPre G L0 av M) (zQ G L0 M Rc) (zT G L0 M Xc) R.cells R.slots (zA G)
/-- the goal of a method's body -/
def zMQ (k : zC) (G : zG) (R : Room) (Rc : Option Value → zM → Prop) (Xc : String → zM → Prop) : State → Prop := vx_MQ k.2.1.2.1 (zQ G k.2.2.1 k.2.2.2 Rc) (zT G k.2.2.1 k.2.2.2 Xc) k.2.1.1 k.1.2.2.2.1 R.cells R.slots (zA G)
theorem zBlind (G : zG) (L0 : Nat → Nat) (av : List Value) (M : zM) : FrameBlind (zPre G L0 av M) := fun a U g mk q => ⟨q.1, q.2.1.call g mk a, q.2.2.1, q.2.2.2⟩
theorem zAg_rf {L : Nat → Nat} {M : zM} : zAg L M L M := fun a h => ⟨h, rfl⟩
theorem zAg_tr {L0 L1 L2 : Nat → Nat} {M0 M1 M2 : zM} (h1 : zAg L0 M0 L1 M1) (h2 : zAg L1 M1 L2 M2) : zAg L0 M0 L2 M2 := fun a h => ⟨(h2 a (h1 a h).1).1, (h2 a (h1 a h).1).2.trans (h1 a h).2⟩
theorem zlen : ∀ (av : List Value) (L : Nat → Nat), (lg_sl (av.map (zmr L))).length = (lg_sl av).length
  | [], _ => rfl
  | v :: av, L => by
    have ih := zlen av L
    cases v <;> simp [lg_sl, zmr, List.map_cons, Value.category] at ih ⊢ <;> omega
theorem zargs : ∀ (av : List Value) (L : Nat → Nat) (i : Nat), lv_args i (av.map (zmr L)) = (lv_args i av).map (zmq L)
  | [], _, _ => rfl
  | v :: av, L, i => by
    show (i, zmr L v) :: lv_args (if (zmr L v).category = 2 then i + 2 else i + 1) (av.map (zmr L)) = _
    rw [zmr_cat, zargs av L]
    rfl
theorem zargs_mem : ∀ (av : List Value) (i : Nat) (q : Nat × Value), q ∈ lv_args i av → q.2 ∈ av
  | [], _, _, h => by cases h
  | v :: av, i, q, h => by
    rcases List.mem_cons.mp h with rfl | h
    · exact List.mem_cons_self
    · exact List.mem_cons_of_mem _ (zargs_mem av _ q h)
/-- a method's contract out of its body's walk -/
theorem zStart {l : Launch} {G : zG} {y : MethodName} {cc : ByteArray} {nL : Nat} {ret : Option FieldType} {R : Room} {av : List Value} {M : zM} {Rc : Option Value → zM → Prop} {Xc : String → zM → Prop} (hfl : l.stackTraces = false) (hy : plainName y.cls = true) {own : String} (ho : y.cls = own) (lv : List (Nat × Value)) (hav : (lg_sl av).length ≤ nL) (hlv : lv_args 0 av = lv)
    (body : ∀ k : zC, k.1.2.1 = l → k.2.1.2.2.1.name = y.name → k.2.2.2 = M → zF k G cc nL own wsL_law ret [] → zJ k G R nL (zMQ k G R Rc Xc) M 0 0 0 lv []) : zCn l G y (.code y cc nL ret) R av M Rc Xc := by
  intro L0
  refine vx_ofW (cc := cc) (maxL := nL) (ret := ret) hy rfl (fun p e s m args below meth c s₁ B hml htb hv => ?_)
  obtain ⟨rfl, hLow, hR, hok⟩ := hv
  have hts := atoms_spec (ws := .code y cc nL ret :: wsL_law) B.pre
  subst ho
  have key := body ((p, l, e, s, m), ((av.map (zmr L0)).toArray, below, meth, c), L0, M) rfl (name_of_methodNamed B.named B.method).1 rfl ⟨⟨B.exec, B.bytes, hml, findClass_of_methodNamed B.named, fun w h => hts w (List.mem_cons_of_mem _ h)⟩, hLow, hfl, B.notSynchronized, B.returns, List.eq_nil_iff_forall_not_mem.mpr htb⟩
  have hcat : (lg_sl (av.map (zmr L0))).length = (lg_sl av).length := zlen av L0
  have hl := lv_entry (av.map (zmr L0)) (n := nL) (by rw [hcat]; exact hav)
  rw [zargs av L0 0, hlv] at hl
  rw [lg_entry_eq]
  have hvv : ∀ q ∈ lv, zok M q.2 := fun q hq => hok q.2 (zargs_mem av 0 q (hlv ▸ hq))
  exact key L0 s.heap [] _ hR zAg_rf hvv (fun v h => by cases h) va_S.rf hl
/-- the machine with q of class E thrown over the frame -/
def zJx (k : zC) (G : zG) (R : Room) (nL : Nat) (Q : State → Prop) (M : zM) (cl sl pc : Nat) (lv : List (Nat × Value)) (E : String) : Prop :=
  ∀ (L : Nat → Nat) (H : Heap) (locs : List Loc) (ls : Array Slot) (st : List Value) (q : Addr) (ce : Cell), zRep G L M H → zAg k.2.2.1 k.2.2.2 L M → (∀ q ∈ lv, zok M q.2) → va_S (zA G) k.1.2.2.2.1.heap H locs → lv_has ls nL (lv.map (zmq L)) → H[q]? = some ce → ce.vm = .none → k.1.2.2.2.1.vm.findClass E = some ce.cls → vx_W k.1.1 k.1.2.1 k.1.2.2.1 R k.1.2.2.2.1 k.1.2.2.2.2 k.2.1.1 k.2.1.2.1 k.2.1.2.2.1 k.2.1.2.2.2 H locs cl sl Q (F0 k.1.2.2.2.2 pc ls st) q
section ZC
variable {k : zC} {G : zG} {R : Room} {nL : Nat} {Q : State → Prop} {M : zM} {cl sl pc : Nat} {lv : List (Nat × Value)} {st rest : List Value} {cc : ByteArray} {own : String} {ret : Option FieldType} {tb : List ExceptionTableEntry} {Rc Rc' : Option Value → zM → Prop} {Xc Xc' : String → zM → Prop}
theorem zs_app {M : zM} {a b : List Value} (h : ∀ v ∈ a ++ b, zok M v) : (∀ v ∈ a, zok M v) ∧ ∀ v ∈ b, zok M v := ⟨fun v hv => h v (List.mem_append_left _ hv), fun v hv => h v (List.mem_append_right _ hv)⟩
theorem zmap_cat {L : Nat → Nat} {st : List Value} : ((st.map (zmr L)).map fun v => v.category).sum = (st.map fun v => v.category).sum := by
  rw [List.map_map]
  congr 2
  funext v
  exact zmr_cat L v
theorem zAg_in {L0 L1 : Nat → Nat} {M0 M1 : zM} (h : zAg L0 M0 L1 M1) {a : Nat} (ha : zin M0 a) : L1 a = L0 a := (h a ha).2
/-- behind a call -/
theorem z_run {a : Array Value} {R' : Room} {st0 : List Value} (F : zF k G cc nL own wsL_law ret tb) (hr : ∀ (L : Nat → Nat) (H : Heap) (locs : List Loc) (ls : Array Slot), zRep G L M H → (∀ v ∈ st0, zok M v) → va_S (zA G) k.1.2.2.2.1.heap H locs → ls.size = nL → ∃ a : Array Value, vx_Run k.1.1 k.1.2.1 k.1.2.2.1 R k.1.2.2.2.1 k.1.2.2.2.2 k.2.1.1 k.2.1.2.1 k.2.1.2.2.1 k.2.1.2.2.2 H locs cl sl R'.cells R'.slots (F0 k.1.2.2.2.2 pc ls (st0.map (zmr L))) (rest.map (zmr L)) (zQ G L M Rc' a) (zT G L M Xc') (zA G))
    (hrest : ∀ v ∈ rest, v ∈ st0) (kx : ∀ (E : String) (M' : zM), Xc' E M' → zJx k G R nL Q M' (cl + R'.cells) (sl + R'.slots) pc lv E)
    (kk : ∀ (r : Option Value) (M' : zM), Rc' r M' → zJ k G R nL Q M' (cl + R'.cells) (sl + R'.slots) (pc + 3) lv (r.toList ++ rest)) : zJ k G R nL Q M cl sl pc lv st0 := by
  obtain ⟨⟨p, l, e, s, m⟩, ⟨args, below, meth, c⟩, L0, M0⟩ := k
  obtain ⟨⟨hx, hb, hml, hown, hts⟩, hLow, hfl, hlk, hrt, htb⟩ := F
  intro L H locs ls hR hA hv hs hS hl T hT X
  obtain ⟨a, hr⟩ := hr L H locs ls hR hs hS hl.1
  have hs0 : ∀ v ∈ rest, zok M v := fun v h => hs v (hrest v h)
  have hSz : ∀ {st₀ t : State} {Ls : List Loc}, st₀.heap = H → va_F (zA G) st₀ t → (∀ q ∈ Ls, zA G q.base) → va_S (zA G) s.heap t.heap (locs ++ Ls) := by
    intro st₀ t Ls h0 hF hL
    obtain ⟨f1, f2⟩ := hF
    rw [h0] at f1 f2
    refine ⟨Nat.le_trans hS.1 f1, fun q g1 g2 => (f2 q (Nat.lt_of_lt_of_le g1 hS.1) g2).trans (hS.2.1 q g1 g2), fun q hq => ?_⟩
    rcases List.mem_append.mp hq with h | h
    · exact hS.2.2 q h
    · exact hL q h
  rcases hr T hT X with ⟨v, st₀, t, T', Ls, h0, X', hL, g1, g2, ⟨⟨r, M', L', hv9, hrc, hR', hA', hok⟩, hF⟩, stp⟩ | ⟨q, st₀, t, T', Ls, E, ce, h0, X', hL, g1, g2, ⟨⟨M', L', hxc, hR', hA'⟩, hF⟩, hce, hcv, hcl, stp⟩
  · cases hv9
    have hvv : ∀ q ∈ lv, zok M' q.2 := fun q hq a e => (hA' a (hv q hq a e)).1
    have hss : ∀ v ∈ r.toList ++ rest, zok M' v := fun v hv => by
      rcases List.mem_append.mp hv with h | h
      · exact hok v (Option.mem_toList.mp h)
      · exact fun a e => (hA' a (hs0 v h a e)).1
    have key := kk r M' hrc L' t.heap (locs ++ Ls) ls hR' (zAg_tr hA hA') hvv hss (hSz h0 hF hL) (by rw [zl_congr hv (fun a ha => zAg_in hA' ha)]; exact hl)
    rw [List.map_append, zs_congr hs0 (fun a ha => zAg_in hA' ha)] at key
    have hto : (r.toList.map (zmr L')) = (r.map (zmr L')).toList := by cases r <;> rfl
    rw [hto] at key
    obtain ⟨t2, a1, b1⟩ := key T' g1 X'
    exact ⟨t2, stp t2 a1, b1⟩
  · have hvv : ∀ q ∈ lv, zok M' q.2 := fun q hq a e => (hA' a (hv q hq a e)).1
    have key := kx E M' hxc L' t.heap (locs ++ Ls) ls (rest.map (zmr L)) q ce hR' (zAg_tr hA hA') hvv (hSz h0 hF hL) (by rw [zl_congr hv (fun a ha => zAg_in hA' ha)]; exact hl) hce hcv hcl
    obtain ⟨t2, a1, b1⟩ := key T' g1 X'
    exact ⟨t2, stp.trans a1, b1⟩
/-- a method's words at a call -/
def zCW (own : String) (index : Nat) (y : MethodName) (bytes : ByteArray) (maxL : Nat) (ret' : Option FieldType) (n : Nat) : Prop := Cond.methodLink own index y ∈ wsL_law ∧ Cond.code y bytes maxL ret' ∈ wsL_law ∧ Cond.initialized y.cls ∈ wsL_law ∧ (y.cls ≠ "java/lang/invoke/MethodHandle" ∧ y.cls ≠ "java/lang/invoke/VarHandle" ∧ (parseMethodDescriptor y.desc).map (fun d => d.parameters.length) = some n)
def zCV (own : String) (index : Nat) (y : MethodName) (bytes : ByteArray) (maxL : Nat) (ret' : Option FieldType) (n : Nat) : Prop := zCW own index y bytes maxL ret' n ∧ Cond.instanceMethod y ∈ wsL_law ∧ Cond.selects y.cls y y ∈ wsL_law
def zCS (own : String) (index : Nat) (y : MethodName) (bytes : ByteArray) (maxL : Nat) (ret' : Option FieldType) (n : Nat) : Prop := zCW own index y bytes maxL ret' n ∧ Cond.static y ∈ wsL_law
def zCI (own : String) (index : Nat) (y : MethodName) (bytes : ByteArray) (maxL : Nat) (n : Nat) : Prop := zCW own index y bytes maxL none n ∧ y.name = "<init>" ∧ Cond.instanceMethod y ∈ wsL_law
theorem zCB {s : State} {args : Array Value} {R R' : Room} {own : String} {index n : Nat} {y : MethodName} {bytes : ByteArray} {maxL : Nat} {ret' : Option FieldType} (hts : ∀ w ∈ wsL_law, w.before args s = true) (hw : zCW own index y bytes maxL ret' n) (hR : R'.frames + 1 ≤ R.frames ∧ 8 + (maxL + 11) + R'.locals ≤ R.locals) : CallB R s args own index y bytes maxL ret' (.code y bytes maxL ret' :: wsL_law) R' R'.cells R'.slots n :=
  callB_of n hts (fun w h => by rcases List.mem_cons.mp h with rfl | h; exact zGood _ hw.2.1; exact zGood w h) rfl rfl rfl (hts _ hw.2.2.1) (hts _ hw.1) hw.2.2.2 hR
theorem z_recv {L : Nat → Nat} {H : Heap} {s : State} {b ci N : Nat} {C : String} {T : u_T} {fs : List Value} (hR : zRep G L M H) (hK : va_K G.1 vwCl (zTy G) s) (hm : M b = some (zOb ci fs)) (hc : vwCl[ci]? = some (C, T, N)) : ∃ cell : Cell, H[L b]? = some cell ∧ cell.vm.isStatics = false ∧ s.vm.findClass C = some cell.cls := by
  obtain ⟨e1, hz, hi, ws, hP, hD, hw⟩ := hR
  obtain ⟨j, hj⟩ := hw b _ hm
  exact va_recv hK hP hc hj
theorem z_callV (F : zF k G cc nL own wsL_law ret tb) {y : MethodName} {bytes : ByteArray} {maxL index n b ci N : Nat} {C : String} {T : u_T} {fs : List Value} {ret' : Option FieldType} {R' : Room} (As rest : List Value) (hM : zCn k.1.2.1 G y (.code y bytes maxL ret') R' (.ref b :: As) M Rc' Xc') (hw : zCV own index y bytes maxL ret' n) (hm : M b = some (zOb ci fs)) (hc : vwCl[ci]? = some (C, T, N)) (hyc : y.cls = C) (hn : As.length = n) (hR : R'.frames + 1 ≤ R.frames ∧ 8 + (maxL + 11) + R'.locals ≤ R.locals) (hcs : cl + R'.cells ≤ R.cells ∧ sl + R'.slots ≤ R.slots) (hrest : (rest.map fun v => v.category).sum ≤ 8) (d : decode cc pc = .ok (.invokevirtual index, 3))
    (kx : ∀ (E : String) (M' : zM), Xc' E M' → zJx k G R nL Q M' (cl + R'.cells) (sl + R'.slots) pc lv E) (kk : ∀ (r : Option Value) (M' : zM), Rc' r M' → zJ k G R nL Q M' (cl + R'.cells) (sl + R'.slots) (pc + 3) lv (r.toList ++ rest)) : zJ k G R nL Q M (cl) (sl) (pc) lv (As.reverse ++ .ref b :: rest) := by
  obtain ⟨⟨p, l, e, s, m⟩, ⟨args, below, meth, c⟩, L0, M0⟩ := k
  have F' := F
  obtain ⟨⟨hx, hb, hml, hown, hts⟩, hLow, hfl, hlk, hrt, htb⟩ := F
  refine z_run (a := #[]) (R' := R') (rest := rest) (Rc' := Rc') (Xc' := Xc') F' (fun L H locs ls hRep hs hS hls => ?_) (fun v hv => List.mem_append_right _ (List.mem_cons_of_mem _ hv)) kx kk
  subst hyc
  have hst : (As.reverse ++ .ref b :: rest).map (zmr L) = (As.map (zmr L)).reverse ++ .ref (L b) :: rest.map (zmr L) := by
    rw [List.map_append, List.map_reverse]
    rfl
  refine ⟨(Value.ref (L b) :: As.map (zmr L)).toArray, ?_⟩
  rw [hst]
  exact vx_runV (As := As.map (zmr L)) (rest := rest.map (zmr L)) ⟨hx, hb, hml, hown, hts⟩ (hM L) ⟨zCB hts hw.1 hR, hts _ hw.2.1, hts _ hw.2.2⟩ ⟨zBlind G L _ M, z_recv hRep hLow.1 hm hc, fun U hU hW => ⟨rfl, hLow.warm hS hU hW, by rw [hU]; exact hRep, List.forall_mem_cons.mpr ⟨fun a e => by cases e; exact Or.inl (by rw [hm]; rfl), fun v hv => hs v (List.mem_append_left _ (List.mem_reverse.mpr hv))⟩⟩⟩ rfl ((List.length_map _).trans hn) hls rfl (lv_room (by rw [zmap_cat]; exact hrest)) d hcs
theorem z_callS (F : zF k G cc nL own wsL_law ret tb) {y : MethodName} {bytes : ByteArray} {maxL index n : Nat} {ret' : Option FieldType} {R' : Room} (As rest : List Value) (hM : zCn k.1.2.1 G y (.code y bytes maxL ret') R' As M Rc' Xc') (hw : zCS own index y bytes maxL ret' n) (hn : As.length = n) (hR : R'.frames + 1 ≤ R.frames ∧ 8 + (maxL + 11) + R'.locals ≤ R.locals) (hcs : cl + R'.cells ≤ R.cells ∧ sl + R'.slots ≤ R.slots) (hrest : (rest.map fun v => v.category).sum ≤ 8) (d : decode cc pc = .ok (.invokestatic index, 3))
    (kx : ∀ (E : String) (M' : zM), Xc' E M' → zJx k G R nL Q M' (cl + R'.cells) (sl + R'.slots) pc lv E) (kk : ∀ (r : Option Value) (M' : zM), Rc' r M' → zJ k G R nL Q M' (cl + R'.cells) (sl + R'.slots) (pc + 3) lv (r.toList ++ rest)) : zJ k G R nL Q M (cl) (sl) (pc) lv (As.reverse ++ rest) := by
  obtain ⟨⟨p, l, e, s, m⟩, ⟨args, below, meth, c⟩, L0, M0⟩ := k
  have F' := F
  obtain ⟨⟨hx, hb, hml, hown, hts⟩, hLow, hfl, hlk, hrt, htb⟩ := F
  refine z_run (a := #[]) (R' := R') (rest := rest) (Rc' := Rc') (Xc' := Xc') F' (fun L H locs ls hRep hs hS hls => ?_) (fun v hv => List.mem_append_right _ hv) kx kk
  have hst : (As.reverse ++ rest).map (zmr L) = (As.map (zmr L)).reverse ++ rest.map (zmr L) := by
    rw [List.map_append, List.map_reverse]
  refine ⟨(As.map (zmr L)).toArray, ?_⟩
  rw [hst]
  exact vx_runS (As := As.map (zmr L)) (rest := rest.map (zmr L)) ⟨hx, hb, hml, hown, hts⟩ (hM L) ⟨zCB hts hw.1 hR, hts _ hw.2⟩ ⟨zBlind G L _ M, fun U hU hW => ⟨rfl, hLow.warm hS hU hW, by rw [hU]; exact hRep, fun v hv => hs v (List.mem_append_left _ (List.mem_reverse.mpr hv))⟩⟩ rfl ((List.length_map _).trans hn) hls rfl (lv_room (by rw [zmap_cat]; exact hrest)) d hcs
theorem z_callI (F : zF k G cc nL own wsL_law ret tb) {y : MethodName} {bytes : ByteArray} {maxL index n b : Nat} {R' : Room} (As rest : List Value) (hM : zCn k.1.2.1 G y (.code y bytes maxL none) R' (.ref b :: As) M Rc' Xc') (hw : zCI own index y bytes maxL n) (hn : As.length = n) (hR : R'.frames + 1 ≤ R.frames ∧ 8 + (maxL + 11) + R'.locals ≤ R.locals) (hcs : cl + R'.cells ≤ R.cells ∧ sl + R'.slots ≤ R.slots) (hrest : (rest.map fun v => v.category).sum ≤ 8) (d : decode cc pc = .ok (.invokespecial index, 3))
    (kx : ∀ (E : String) (M' : zM), Xc' E M' → zJx k G R nL Q M' (cl + R'.cells) (sl + R'.slots) pc lv E) (kk : ∀ (r : Option Value) (M' : zM), Rc' r M' → zJ k G R nL Q M' (cl + R'.cells) (sl + R'.slots) (pc + 3) lv (r.toList ++ rest)) : zJ k G R nL Q M (cl) (sl) (pc) lv (As.reverse ++ .ref b :: rest) := by
  obtain ⟨⟨p, l, e, s, m⟩, ⟨args, below, meth, c⟩, L0, M0⟩ := k
  have F' := F
  obtain ⟨⟨hx, hb, hml, hown, hts⟩, hLow, hfl, hlk, hrt, htb⟩ := F
  refine z_run (a := #[]) (R' := R') (rest := rest) (Rc' := Rc') (Xc' := Xc') F' (fun L H locs ls hRep hs hS hls => ?_) (fun v hv => List.mem_append_right _ (List.mem_cons_of_mem _ hv)) kx kk
  have hst : (As.reverse ++ .ref b :: rest).map (zmr L) = (As.map (zmr L)).reverse ++ .ref (L b) :: rest.map (zmr L) := by
    rw [List.map_append, List.map_reverse]
    rfl
  refine ⟨(Value.ref (L b) :: As.map (zmr L)).toArray, ?_⟩
  rw [hst]
  exact vx_runI (As := As.map (zmr L)) (rest := rest.map (zmr L)) (b := L b) ⟨hx, hb, hml, hown, hts⟩ (hM L) ⟨zCB hts hw.1 hR, hw.2.1, hts _ hw.2.2⟩ ⟨zBlind G L _ M, fun U hU hW => ⟨rfl, hLow.warm hS hU hW, by rw [hU]; exact hRep, List.forall_mem_cons.mpr ⟨hs _ (List.mem_append_right _ List.mem_cons_self), fun v hv => hs v (List.mem_append_left _ (List.mem_reverse.mpr hv))⟩⟩⟩ rfl ((List.length_map _).trans hn) hls rfl (lv_room (by rw [zmap_cat]; exact hrest)) d hcs
theorem z_callSN (F : zF k G cc nL own wsL_law ret tb) {y : MethodName} {bytes : ByteArray} {maxL index n : Nat} {host : String} {ret' : Option FieldType} {R' : Room} (As rest : List Value) (hM : zCn k.1.2.1 G y (.code y bytes maxL ret') R' As M Rc' Xc') (hq : (own, index, y, host) ∈ zNM) (hq2 : Cond.code y bytes maxL ret' ∈ wsL_law ∧ Cond.initialized y.cls ∈ wsL_law ∧ Cond.static y ∈ wsL_law) (hd : y.cls ≠ "java/lang/invoke/MethodHandle" ∧ y.cls ≠ "java/lang/invoke/VarHandle" ∧ (parseMethodDescriptor y.desc).map (fun d => d.parameters.length) = some n) (hn : As.length = n) (hR : R'.frames + 1 ≤ R.frames ∧ 8 + (maxL + 11) + R'.locals ≤ R.locals) (hcs : cl + R'.cells ≤ R.cells ∧ sl + R'.slots ≤ R.slots) (hrest : (rest.map fun v => v.category).sum ≤ 8) (d : decode cc pc = .ok (.invokestatic index, 3))
    (kx : ∀ (E : String) (M' : zM), Xc' E M' → zJx k G R nL Q M' (cl + R'.cells) (sl + R'.slots) pc lv E) (kk : ∀ (r : Option Value) (M' : zM), Rc' r M' → zJ k G R nL Q M' (cl + R'.cells) (sl + R'.slots) (pc + 3) lv (r.toList ++ rest)) : zJ k G R nL Q M (cl) (sl) (pc) lv (As.reverse ++ rest) := by
  obtain ⟨⟨p, l, e, s, m⟩, ⟨args, below, meth, c⟩, L0, M0⟩ := k
  have F' := F
  obtain ⟨⟨hx, hb, hml, hown, hts⟩, hLow, hfl, hlk, hrt, htb⟩ := F
  refine z_run (a := #[]) (R' := R') (rest := rest) (Rc' := Rc') (Xc' := Xc') F' (fun L H locs ls hRep hs hS hls => ?_) (fun v hv => List.mem_append_right _ hv) kx kk
  have hst : (As.reverse ++ rest).map (zmr L) = (As.map (zmr L)).reverse ++ rest.map (zmr L) := by
    rw [List.map_append, List.map_reverse]
  refine ⟨(As.map (zmr L)).toArray, ?_⟩
  rw [hst]
  exact vx_runSN (As := As.map (zmr L)) (rest := rest.map (zmr L)) (ws := .code y bytes maxL ret' :: wsL_law) ⟨hx, hb, hml, hown, hts⟩ (hM L) ⟨va_cnB n hts (fun w h => by rcases List.mem_cons.mp h with rfl | h; exact zGood _ hq2.1; exact zGood w h) rfl rfl rfl (hLow.2.2.2.2.2.2.2.2.2.1 _ hq) (hts _ hq2.2.1) hd hR, hts _ hq2.2.2, trivial⟩ ⟨zBlind G L _ M, fun U hU hW => ⟨rfl, hLow.warm hS hU hW, by rw [hU]; exact hRep, fun v hv => hs v (List.mem_append_left _ (List.mem_reverse.mpr hv))⟩⟩ rfl ((List.length_map _).trans hn) hls rfl (lv_room (by rw [zmap_cat]; exact hrest)) d hcs
theorem z_callIN (F : zF k G cc nL own wsL_law ret tb) {y : MethodName} {bytes : ByteArray} {maxL index n b : Nat} {host : String} {R' : Room} (As rest : List Value) (hM : zCn k.1.2.1 G y (.code y bytes maxL none) R' (.ref b :: As) M Rc' Xc') (hq : (own, index, y, host) ∈ zNM) (hq2 : Cond.code y bytes maxL none ∈ wsL_law ∧ Cond.initialized y.cls ∈ wsL_law ∧ y.name = "<init>" ∧ Cond.instanceMethod y ∈ wsL_law) (hd : y.cls ≠ "java/lang/invoke/MethodHandle" ∧ y.cls ≠ "java/lang/invoke/VarHandle" ∧ (parseMethodDescriptor y.desc).map (fun d => d.parameters.length) = some n) (hn : As.length = n) (hR : R'.frames + 1 ≤ R.frames ∧ 8 + (maxL + 11) + R'.locals ≤ R.locals) (hcs : cl + R'.cells ≤ R.cells ∧ sl + R'.slots ≤ R.slots) (hrest : (rest.map fun v => v.category).sum ≤ 8) (d : decode cc pc = .ok (.invokespecial index, 3))
    (kx : ∀ (E : String) (M' : zM), Xc' E M' → zJx k G R nL Q M' (cl + R'.cells) (sl + R'.slots) pc lv E) (kk : ∀ (r : Option Value) (M' : zM), Rc' r M' → zJ k G R nL Q M' (cl + R'.cells) (sl + R'.slots) (pc + 3) lv (r.toList ++ rest)) : zJ k G R nL Q M (cl) (sl) (pc) lv (As.reverse ++ .ref b :: rest) := by
  obtain ⟨⟨p, l, e, s, m⟩, ⟨args, below, meth, c⟩, L0, M0⟩ := k
  have F' := F
  obtain ⟨⟨hx, hb, hml, hown, hts⟩, hLow, hfl, hlk, hrt, htb⟩ := F
  refine z_run (a := #[]) (R' := R') (rest := rest) (Rc' := Rc') (Xc' := Xc') F' (fun L H locs ls hRep hs hS hls => ?_) (fun v hv => List.mem_append_right _ (List.mem_cons_of_mem _ hv)) kx kk
  have hst : (As.reverse ++ .ref b :: rest).map (zmr L) = (As.map (zmr L)).reverse ++ .ref (L b) :: rest.map (zmr L) := by
    rw [List.map_append, List.map_reverse]
    rfl
  refine ⟨(Value.ref (L b) :: As.map (zmr L)).toArray, ?_⟩
  rw [hst]
  exact vx_runIN (As := As.map (zmr L)) (rest := rest.map (zmr L)) (b := L b) (ws := .code y bytes maxL none :: wsL_law) ⟨hx, hb, hml, hown, hts⟩ (hM L) ⟨va_cnB n hts (fun w h => by rcases List.mem_cons.mp h with rfl | h; exact zGood _ hq2.1; exact zGood w h) rfl rfl rfl (hLow.2.2.2.2.2.2.2.2.2.1 _ hq) (hts _ hq2.2.1) hd hR, hq2.2.2.1, hts _ hq2.2.2.2⟩ ⟨zBlind G L _ M, fun U hU hW => ⟨rfl, hLow.warm hS hU hW, by rw [hU]; exact hRep, List.forall_mem_cons.mpr ⟨hs _ (List.mem_append_right _ List.mem_cons_self), fun v hv => hs v (List.mem_append_left _ (List.mem_reverse.mpr hv))⟩⟩⟩ rfl ((List.length_map _).trans hn) hls rfl (lv_room (by rw [zmap_cat]; exact hrest)) d hcs
theorem z_objI (F : zF k G cc nL own wsL_law ret tb) {index b : Nat} (h1 : Cond.methodLink own index objectInit ∈ wsL_law) (h2 : Cond.instanceMethod objectInit ∈ wsL_law) (h3 : Cond.code objectInit ⟨#[0xb1]⟩ 1 none ∈ wsL_law) (hfr : 1 ≤ R.frames) (hlo : (rest.map fun v => v.category).sum + 12 ≤ R.locals) (d : decode cc pc = .ok (.invokespecial index, 3)) (kk : zJ k G R nL Q M (cl) (sl) (pc + 3) lv (rest)) : zJ k G R nL Q M (cl) (sl) (pc) lv (.ref b :: rest) := by
  obtain ⟨⟨p, l, e, s, m⟩, ⟨args, below, meth, c⟩, L0, M0⟩ := k
  obtain ⟨⟨hx, hb, hml, hown, hts⟩, hLow, hfl, hlk, hrt, htb⟩ := F
  intro L H locs ls hR hA hv hs hS hl
  refine W.objInit hx hb hown (hts _ h1) (hts _ h2) (hts _ h3) rfl (hl.1.trans hml.symm) rfl d hfr ?_ (kk L H locs ls hR hA hv (zs_t hs) hS hl)
  have e := zmap_cat (L := L) (st := rest)
  show 2 * 0 + _ + 12 ≤ _
  omega
theorem z_S {R : Room} {H : Heap} {locs : List Loc} {s t : State} (hS : va_S (zA G) s.heap H locs) (ht : t.heap = H) : va_F (zA G) s t := hS.F ht
theorem z_reti (F : zF k G cc nL own wsL_law ret tb) {z : Int} (hr : ret = some .int) (hcl : cl ≤ R.cells) (hsl : sl ≤ R.slots) (d : decode cc pc = .ok (.ireturn, 1)) (h : Rc (some (.int (zI z))) M) : zJ k G R nL (zMQ k G R Rc Xc) M (cl) (sl) (pc) lv ([.int (zI z)]) := by
  obtain ⟨⟨p, l, e, s, m⟩, ⟨args, below, meth, c⟩, L0, M0⟩ := k
  obtain ⟨⟨hx, hb, hml, hown, hts⟩, hLow, hfl, hlk, hrt, htb⟩ := F
  intro L H locs ls hR hA hv hs hS hl
  refine vx_ret ?_
  refine W.widen hcl hsl ?_
  exact W.iret (v := zI z) hx hb (hrt.trans hr) (fun t ht hW => ⟨⟨some (.int (zI z)), M, L, rfl, h, by rw [ht]; exact hR, hA, fun v e a e2 => by cases e; cases e2⟩, hS.F ht⟩) hS.2.2 d
theorem z_retz (F : zF k G cc nL own wsL_law ret tb) {z : Int} (hr : ret = some .boolean) (hb01 : z = 0 ∨ z = 1) (hcl : cl ≤ R.cells) (hsl : sl ≤ R.slots) (d : decode cc pc = .ok (.ireturn, 1)) (h : Rc (some (.int (zI z))) M) : zJ k G R nL (zMQ k G R Rc Xc) M (cl) (sl) (pc) lv ([.int (zI z)]) := by
  obtain ⟨⟨p, l, e, s, m⟩, ⟨args, below, meth, c⟩, L0, M0⟩ := k
  obtain ⟨⟨hx, hb, hml, hown, hts⟩, hLow, hfl, hlk, hrt, htb⟩ := F
  intro L H locs ls hR hA hv hs hS hl
  refine vx_ret ?_
  refine W.widen hcl hsl ?_
  exact W.zret (v := zI z) hx hb (hrt.trans hr) (by rcases hb01 with rfl | rfl <;> rfl) (fun t ht hW => ⟨⟨some (.int (zI z)), M, L, rfl, h, by rw [ht]; exact hR, hA, fun v e a e2 => by cases e; cases e2⟩, hS.F ht⟩) hS.2.2 d
theorem z_retv (F : zF k G cc nL own wsL_law ret tb) (hr : ret = none) (hcl : cl ≤ R.cells) (hsl : sl ≤ R.slots) (d : decode cc pc = .ok (.return_, 1)) (h : Rc none M) : zJ k G R nL (zMQ k G R Rc Xc) M (cl) (sl) (pc) lv ([]) := by
  obtain ⟨⟨p, l, e, s, m⟩, ⟨args, below, meth, c⟩, L0, M0⟩ := k
  obtain ⟨⟨hx, hb, hml, hown, hts⟩, hLow, hfl, hlk, hrt, htb⟩ := F
  intro L H locs ls hR hA hv hs hS hl
  refine vx_ret ?_
  refine W.widen hcl hsl ?_
  exact W.vret hx hb (hrt.trans hr) (fun t ht hW => ⟨⟨none, M, L, rfl, h, by rw [ht]; exact hR, hA, fun v e => by cases e⟩, hS.F ht⟩) hS.2.2 d
theorem z_reta (F : zF k G cc nL own wsL_law ret tb) {a : Nat} {rt : FieldType} (hr : ret = some rt) (hrt2 : (∃ n, rt = .object n) ∨ ∃ t, rt = .array t) (hcl : cl ≤ R.cells) (hsl : sl ≤ R.slots) (d : decode cc pc = .ok (.areturn, 1)) (h : Rc (some (.ref a)) M) : zJ k G R nL (zMQ k G R Rc Xc) M (cl) (sl) (pc) lv ([.ref a]) := by
  obtain ⟨⟨p, l, e, s, m⟩, ⟨args, below, meth, c⟩, L0, M0⟩ := k
  obtain ⟨⟨hx, hb, hml, hown, hts⟩, hLow, hfl, hlk, hrt, htb⟩ := F
  intro L H locs ls hR hA hv hs hS hl
  refine vx_ret ?_
  refine W.widen hcl hsl ?_
  exact W.aret (v := .ref (L a)) hx hb (hrt.trans hr) hrt2 (Or.inr ⟨_, rfl⟩) (fun t ht hW => ⟨⟨some (.ref a), M, L, rfl, h, by rw [ht]; exact hR, hA, fun v e => by cases e; exact zs_h hs⟩, hS.F ht⟩) hS.2.2 d
/-- what a callee throws goes on -/
theorem z_xo {E : String} (F : zF k G cc nL own wsL_law ret []) (hcl : cl ≤ R.cells) (hsl : sl ≤ R.slots) (h : Xc E M) : zJx k G R nL (zMQ k G R Rc Xc) M cl sl pc lv E := by
  obtain ⟨⟨p, l, e, s, m⟩, ⟨args, below, meth, c⟩, L0, M0⟩ := k
  obtain ⟨⟨hx, hb, hml, hown, hts⟩, hLow, hfl, hlk, hrt, htb⟩ := F
  intro L H locs ls st q ce hR hA hv hS hl hce hcv hcl9
  exact vx_out (fun x hx => by rw [htb] at hx; cases hx) hlk hce hcv hcl9 (fun t ht hal => ⟨⟨M, L, h, by rw [ht]; exact hR, hA⟩, hS.F ht⟩) hS.2.2 hcl hsl
/-- answers by kind -/
def zRi (P : Int → zM → Prop) : Option Value → zM → Prop := fun r M' => ∃ x : Int, r = some (.int (zI x)) ∧ P x M'
def zRv (P : zM → Prop) : Option Value → zM → Prop := fun r M' => r = none ∧ P M'
def zRr (P : Nat → zM → Prop) : Option Value → zM → Prop := fun r M' => ∃ a : Nat, r = some (.ref a) ∧ P a M'
theorem z_ki {P : Int → zM → Prop} {cl' sl' pc' : Nat} (h : ∀ (x : Int) (M' : zM), P x M' → zJ k G R nL Q M' cl' sl' pc' lv (.int (zI x) :: rest)) : ∀ (r : Option Value) (M' : zM), zRi P r M' → zJ k G R nL Q M' cl' sl' pc' lv (r.toList ++ rest) := by
  rintro r M' ⟨x, rfl, hp⟩
  exact h x M' hp
theorem z_kv {P : zM → Prop} {cl' sl' pc' : Nat} (h : ∀ (M' : zM), P M' → zJ k G R nL Q M' cl' sl' pc' lv rest) : ∀ (r : Option Value) (M' : zM), zRv P r M' → zJ k G R nL Q M' cl' sl' pc' lv (r.toList ++ rest) := by
  rintro r M' ⟨rfl, hp⟩
  exact h M' hp
theorem z_kr {P : Nat → zM → Prop} {cl' sl' pc' : Nat} (h : ∀ (a : Nat) (M' : zM), P a M' → zJ k G R nL Q M' cl' sl' pc' lv (.ref a :: rest)) : ∀ (r : Option Value) (M' : zM), zRr P r M' → zJ k G R nL Q M' cl' sl' pc' lv (r.toList ++ rest) := by
  rintro r M' ⟨a, rfl, hp⟩
  exact h a M' hp
/-- nothing is thrown -/
def zN : String → zM → Prop := fun _ _ => False
theorem z_nx {cl' sl' : Nat} : ∀ (E : String) (M' : zM), zN E M' → zJx k G R nL Q M' cl' sl' pc lv E := fun _ _ h => h.elim
end ZC
end
section
/-! ===== fields and calls, by their places in the tables' words ===== -/
theorem zr_1 : ∀ w ∈ wsL_law0_r1, w ∈ wsL_law := fun w h => List.mem_append_left _ (List.mem_append_left _ (List.mem_append_left _ (List.mem_append_left _ (show w ∈ wsL_law0 from List.mem_append_left _ (List.mem_append_left _ (List.mem_append_left _ (List.mem_append_left _ (List.mem_append_left _ (List.mem_append_left _ (List.mem_append_left _ (List.mem_append_left _ (List.mem_append_left _ (List.mem_append_left _ (List.mem_append_left _ h))))))))))))))
theorem zr_2 : ∀ w ∈ wsL_law0_r2, w ∈ wsL_law := fun w h => List.mem_append_left _ (List.mem_append_left _ (List.mem_append_left _ (List.mem_append_left _ (show w ∈ wsL_law0 from List.mem_append_left _ (List.mem_append_left _ (List.mem_append_left _ (List.mem_append_left _ (List.mem_append_left _ (List.mem_append_left _ (List.mem_append_left _ (List.mem_append_left _ (List.mem_append_left _ (List.mem_append_left _ (List.mem_append_right _ (List.mem_append_left _ h)))))))))))))))
theorem zr_3 : ∀ w ∈ wsL_law0_r3, w ∈ wsL_law := fun w h => List.mem_append_left _ (List.mem_append_left _ (List.mem_append_left _ (List.mem_append_left _ (show w ∈ wsL_law0 from List.mem_append_left _ (List.mem_append_left _ (List.mem_append_left _ (List.mem_append_left _ (List.mem_append_left _ (List.mem_append_left _ (List.mem_append_left _ (List.mem_append_left _ (List.mem_append_left _ (List.mem_append_left _ (List.mem_append_right _ (List.mem_append_right _ (List.mem_append_left _ h))))))))))))))))
theorem zr_4 : ∀ w ∈ wsL_law0_r4, w ∈ wsL_law := fun w h => List.mem_append_left _ (List.mem_append_left _ (List.mem_append_left _ (List.mem_append_left _ (show w ∈ wsL_law0 from List.mem_append_left _ (List.mem_append_left _ (List.mem_append_left _ (List.mem_append_left _ (List.mem_append_left _ (List.mem_append_left _ (List.mem_append_left _ (List.mem_append_left _ (List.mem_append_left _ (List.mem_append_left _ (List.mem_append_right _ (List.mem_append_right _ (List.mem_append_right _ (List.mem_append_left _ h)))))))))))))))))
theorem zr_5 : ∀ w ∈ wsL_law0_r5, w ∈ wsL_law := fun w h => List.mem_append_left _ (List.mem_append_left _ (List.mem_append_left _ (List.mem_append_left _ (show w ∈ wsL_law0 from List.mem_append_left _ (List.mem_append_left _ (List.mem_append_left _ (List.mem_append_left _ (List.mem_append_left _ (List.mem_append_left _ (List.mem_append_left _ (List.mem_append_left _ (List.mem_append_left _ (List.mem_append_left _ (List.mem_append_right _ (List.mem_append_right _ (List.mem_append_right _ (List.mem_append_right _ (List.mem_append_left _ h))))))))))))))))))
theorem zr_6 : ∀ w ∈ wsL_law0_r6, w ∈ wsL_law := fun w h => List.mem_append_left _ (List.mem_append_left _ (List.mem_append_left _ (List.mem_append_left _ (show w ∈ wsL_law0 from List.mem_append_left _ (List.mem_append_left _ (List.mem_append_left _ (List.mem_append_left _ (List.mem_append_left _ (List.mem_append_left _ (List.mem_append_left _ (List.mem_append_left _ (List.mem_append_left _ (List.mem_append_left _ (List.mem_append_right _ (List.mem_append_right _ (List.mem_append_right _ (List.mem_append_right _ (List.mem_append_right _ (List.mem_append_left _ h)))))))))))))))))))
theorem zr_7 : ∀ w ∈ wsL_law0_r7, w ∈ wsL_law := fun w h => List.mem_append_left _ (List.mem_append_left _ (List.mem_append_left _ (List.mem_append_left _ (show w ∈ wsL_law0 from List.mem_append_left _ (List.mem_append_left _ (List.mem_append_left _ (List.mem_append_left _ (List.mem_append_left _ (List.mem_append_left _ (List.mem_append_left _ (List.mem_append_left _ (List.mem_append_left _ (List.mem_append_left _ (List.mem_append_right _ (List.mem_append_right _ (List.mem_append_right _ (List.mem_append_right _ (List.mem_append_right _ (List.mem_append_right _ (List.mem_append_left _ h))))))))))))))))))))
theorem zr_8 : ∀ w ∈ wsL_law0_r8, w ∈ wsL_law := fun w h => List.mem_append_left _ (List.mem_append_left _ (List.mem_append_left _ (List.mem_append_left _ (show w ∈ wsL_law0 from List.mem_append_left _ (List.mem_append_left _ (List.mem_append_left _ (List.mem_append_left _ (List.mem_append_left _ (List.mem_append_left _ (List.mem_append_left _ (List.mem_append_left _ (List.mem_append_left _ (List.mem_append_left _ (List.mem_append_right _ (List.mem_append_right _ (List.mem_append_right _ (List.mem_append_right _ (List.mem_append_right _ (List.mem_append_right _ (List.mem_append_right _ (List.mem_append_left _ h)))))))))))))))))))))
theorem zr_9 : ∀ w ∈ wsL_law0_r9, w ∈ wsL_law := fun w h => List.mem_append_left _ (List.mem_append_left _ (List.mem_append_left _ (List.mem_append_left _ (show w ∈ wsL_law0 from List.mem_append_left _ (List.mem_append_left _ (List.mem_append_left _ (List.mem_append_left _ (List.mem_append_left _ (List.mem_append_left _ (List.mem_append_left _ (List.mem_append_left _ (List.mem_append_left _ (List.mem_append_left _ (List.mem_append_right _ (List.mem_append_right _ (List.mem_append_right _ (List.mem_append_right _ (List.mem_append_right _ (List.mem_append_right _ (List.mem_append_right _ (List.mem_append_right _ (List.mem_append_left _ h))))))))))))))))))))))
theorem zr_10 : ∀ w ∈ wsL_law0_r10, w ∈ wsL_law := fun w h => List.mem_append_left _ (List.mem_append_left _ (List.mem_append_left _ (List.mem_append_left _ (show w ∈ wsL_law0 from List.mem_append_left _ (List.mem_append_left _ (List.mem_append_left _ (List.mem_append_left _ (List.mem_append_left _ (List.mem_append_left _ (List.mem_append_left _ (List.mem_append_left _ (List.mem_append_left _ (List.mem_append_left _ (List.mem_append_right _ (List.mem_append_right _ (List.mem_append_right _ (List.mem_append_right _ (List.mem_append_right _ (List.mem_append_right _ (List.mem_append_right _ (List.mem_append_right _ (List.mem_append_right _ (List.mem_append_left _ h)))))))))))))))))))))))
theorem zr_11 : ∀ w ∈ wsL_law0_r11, w ∈ wsL_law := fun w h => List.mem_append_left _ (List.mem_append_left _ (List.mem_append_left _ (List.mem_append_left _ (show w ∈ wsL_law0 from List.mem_append_left _ (List.mem_append_left _ (List.mem_append_left _ (List.mem_append_left _ (List.mem_append_left _ (List.mem_append_left _ (List.mem_append_left _ (List.mem_append_left _ (List.mem_append_left _ (List.mem_append_left _ (List.mem_append_right _ (List.mem_append_right _ (List.mem_append_right _ (List.mem_append_right _ (List.mem_append_right _ (List.mem_append_right _ (List.mem_append_right _ (List.mem_append_right _ (List.mem_append_right _ (List.mem_append_right _ (List.mem_append_left _ h))))))))))))))))))))))))
theorem zr_12 : ∀ w ∈ wsL_law0_r12, w ∈ wsL_law := fun w h => List.mem_append_left _ (List.mem_append_left _ (List.mem_append_left _ (List.mem_append_left _ (show w ∈ wsL_law0 from List.mem_append_left _ (List.mem_append_left _ (List.mem_append_left _ (List.mem_append_left _ (List.mem_append_left _ (List.mem_append_left _ (List.mem_append_left _ (List.mem_append_left _ (List.mem_append_left _ (List.mem_append_left _ (List.mem_append_right _ (List.mem_append_right _ (List.mem_append_right _ (List.mem_append_right _ (List.mem_append_right _ (List.mem_append_right _ (List.mem_append_right _ (List.mem_append_right _ (List.mem_append_right _ (List.mem_append_right _ (List.mem_append_right _ (List.mem_append_left _ h)))))))))))))))))))))))))
theorem zr_13 : ∀ w ∈ wsL_law0_r13, w ∈ wsL_law := fun w h => List.mem_append_left _ (List.mem_append_left _ (List.mem_append_left _ (List.mem_append_left _ (show w ∈ wsL_law0 from List.mem_append_left _ (List.mem_append_left _ (List.mem_append_left _ (List.mem_append_left _ (List.mem_append_left _ (List.mem_append_left _ (List.mem_append_left _ (List.mem_append_left _ (List.mem_append_left _ (List.mem_append_left _ (List.mem_append_right _ (List.mem_append_right _ (List.mem_append_right _ (List.mem_append_right _ (List.mem_append_right _ (List.mem_append_right _ (List.mem_append_right _ (List.mem_append_right _ (List.mem_append_right _ (List.mem_append_right _ (List.mem_append_right _ (List.mem_append_right _ (List.mem_append_left _ h))))))))))))))))))))))))))
theorem zr_14 : ∀ w ∈ wsL_law0_r14, w ∈ wsL_law := fun w h => List.mem_append_left _ (List.mem_append_left _ (List.mem_append_left _ (List.mem_append_left _ (show w ∈ wsL_law0 from List.mem_append_left _ (List.mem_append_left _ (List.mem_append_left _ (List.mem_append_left _ (List.mem_append_left _ (List.mem_append_left _ (List.mem_append_left _ (List.mem_append_left _ (List.mem_append_left _ (List.mem_append_left _ (List.mem_append_right _ (List.mem_append_right _ (List.mem_append_right _ (List.mem_append_right _ (List.mem_append_right _ (List.mem_append_right _ (List.mem_append_right _ (List.mem_append_right _ (List.mem_append_right _ (List.mem_append_right _ (List.mem_append_right _ (List.mem_append_right _ (List.mem_append_right _ (List.mem_append_left _ h)))))))))))))))))))))))))))
theorem zr_15 : ∀ w ∈ wsL_law0_r15, w ∈ wsL_law := fun w h => List.mem_append_left _ (List.mem_append_left _ (List.mem_append_left _ (List.mem_append_left _ (show w ∈ wsL_law0 from List.mem_append_left _ (List.mem_append_left _ (List.mem_append_left _ (List.mem_append_left _ (List.mem_append_left _ (List.mem_append_left _ (List.mem_append_left _ (List.mem_append_left _ (List.mem_append_left _ (List.mem_append_left _ (List.mem_append_right _ (List.mem_append_right _ (List.mem_append_right _ (List.mem_append_right _ (List.mem_append_right _ (List.mem_append_right _ (List.mem_append_right _ (List.mem_append_right _ (List.mem_append_right _ (List.mem_append_right _ (List.mem_append_right _ (List.mem_append_right _ (List.mem_append_right _ (List.mem_append_right _ (List.mem_append_left _ h))))))))))))))))))))))))))))
theorem zr_16 : ∀ w ∈ wsL_law0_r16, w ∈ wsL_law := fun w h => List.mem_append_left _ (List.mem_append_left _ (List.mem_append_left _ (List.mem_append_left _ (show w ∈ wsL_law0 from List.mem_append_left _ (List.mem_append_left _ (List.mem_append_left _ (List.mem_append_left _ (List.mem_append_left _ (List.mem_append_left _ (List.mem_append_left _ (List.mem_append_left _ (List.mem_append_left _ (List.mem_append_left _ (List.mem_append_right _ (List.mem_append_right _ (List.mem_append_right _ (List.mem_append_right _ (List.mem_append_right _ (List.mem_append_right _ (List.mem_append_right _ (List.mem_append_right _ (List.mem_append_right _ (List.mem_append_right _ (List.mem_append_right _ (List.mem_append_right _ (List.mem_append_right _ (List.mem_append_right _ (List.mem_append_right _ (List.mem_append_left _ h)))))))))))))))))))))))))))))
theorem zr_17 : ∀ w ∈ wsL_law0_r17, w ∈ wsL_law := fun w h => List.mem_append_left _ (List.mem_append_left _ (List.mem_append_left _ (List.mem_append_left _ (show w ∈ wsL_law0 from List.mem_append_left _ (List.mem_append_left _ (List.mem_append_left _ (List.mem_append_left _ (List.mem_append_left _ (List.mem_append_left _ (List.mem_append_left _ (List.mem_append_left _ (List.mem_append_left _ (List.mem_append_left _ (List.mem_append_right _ (List.mem_append_right _ (List.mem_append_right _ (List.mem_append_right _ (List.mem_append_right _ (List.mem_append_right _ (List.mem_append_right _ (List.mem_append_right _ (List.mem_append_right _ (List.mem_append_right _ (List.mem_append_right _ (List.mem_append_right _ (List.mem_append_right _ (List.mem_append_right _ (List.mem_append_right _ (List.mem_append_right _ (List.mem_append_left _ h))))))))))))))))))))))))))))))
theorem zr_18 : ∀ w ∈ wsL_law0_r18, w ∈ wsL_law := fun w h => List.mem_append_left _ (List.mem_append_left _ (List.mem_append_left _ (List.mem_append_left _ (show w ∈ wsL_law0 from List.mem_append_left _ (List.mem_append_left _ (List.mem_append_left _ (List.mem_append_left _ (List.mem_append_left _ (List.mem_append_left _ (List.mem_append_left _ (List.mem_append_left _ (List.mem_append_left _ (List.mem_append_left _ (List.mem_append_right _ (List.mem_append_right _ (List.mem_append_right _ (List.mem_append_right _ (List.mem_append_right _ (List.mem_append_right _ (List.mem_append_right _ (List.mem_append_right _ (List.mem_append_right _ (List.mem_append_right _ (List.mem_append_right _ (List.mem_append_right _ (List.mem_append_right _ (List.mem_append_right _ (List.mem_append_right _ (List.mem_append_right _ (List.mem_append_right _ (List.mem_append_left _ h)))))))))))))))))))))))))))))))
theorem zr_19 : ∀ w ∈ wsL_law0_r19, w ∈ wsL_law := fun w h => List.mem_append_left _ (List.mem_append_left _ (List.mem_append_left _ (List.mem_append_left _ (show w ∈ wsL_law0 from List.mem_append_left _ (List.mem_append_left _ (List.mem_append_left _ (List.mem_append_left _ (List.mem_append_left _ (List.mem_append_left _ (List.mem_append_left _ (List.mem_append_left _ (List.mem_append_left _ (List.mem_append_left _ (List.mem_append_right _ (List.mem_append_right _ (List.mem_append_right _ (List.mem_append_right _ (List.mem_append_right _ (List.mem_append_right _ (List.mem_append_right _ (List.mem_append_right _ (List.mem_append_right _ (List.mem_append_right _ (List.mem_append_right _ (List.mem_append_right _ (List.mem_append_right _ (List.mem_append_right _ (List.mem_append_right _ (List.mem_append_right _ (List.mem_append_right _ (List.mem_append_right _ (List.mem_append_left _ h))))))))))))))))))))))))))))))))
theorem zr_20 : ∀ w ∈ wsL_law0_r20, w ∈ wsL_law := fun w h => List.mem_append_left _ (List.mem_append_left _ (List.mem_append_left _ (List.mem_append_left _ (show w ∈ wsL_law0 from List.mem_append_left _ (List.mem_append_left _ (List.mem_append_left _ (List.mem_append_left _ (List.mem_append_left _ (List.mem_append_left _ (List.mem_append_left _ (List.mem_append_left _ (List.mem_append_left _ (List.mem_append_left _ (List.mem_append_right _ (List.mem_append_right _ (List.mem_append_right _ (List.mem_append_right _ (List.mem_append_right _ (List.mem_append_right _ (List.mem_append_right _ (List.mem_append_right _ (List.mem_append_right _ (List.mem_append_right _ (List.mem_append_right _ (List.mem_append_right _ (List.mem_append_right _ (List.mem_append_right _ (List.mem_append_right _ (List.mem_append_right _ (List.mem_append_right _ (List.mem_append_right _ (List.mem_append_right _ (List.mem_append_left _ h)))))))))))))))))))))))))))))))))
theorem zr_21 : ∀ w ∈ wsL_law0_r21, w ∈ wsL_law := fun w h => List.mem_append_left _ (List.mem_append_left _ (List.mem_append_left _ (List.mem_append_left _ (show w ∈ wsL_law0 from List.mem_append_left _ (List.mem_append_left _ (List.mem_append_left _ (List.mem_append_left _ (List.mem_append_left _ (List.mem_append_left _ (List.mem_append_left _ (List.mem_append_left _ (List.mem_append_left _ (List.mem_append_left _ (List.mem_append_right _ (List.mem_append_right _ (List.mem_append_right _ (List.mem_append_right _ (List.mem_append_right _ (List.mem_append_right _ (List.mem_append_right _ (List.mem_append_right _ (List.mem_append_right _ (List.mem_append_right _ (List.mem_append_right _ (List.mem_append_right _ (List.mem_append_right _ (List.mem_append_right _ (List.mem_append_right _ (List.mem_append_right _ (List.mem_append_right _ (List.mem_append_right _ (List.mem_append_right _ (List.mem_append_right _ (List.mem_append_left _ h))))))))))))))))))))))))))))))))))
theorem zr_22 : ∀ w ∈ wsL_law0_r22, w ∈ wsL_law := fun w h => List.mem_append_left _ (List.mem_append_left _ (List.mem_append_left _ (List.mem_append_left _ (show w ∈ wsL_law0 from List.mem_append_left _ (List.mem_append_left _ (List.mem_append_left _ (List.mem_append_left _ (List.mem_append_left _ (List.mem_append_left _ (List.mem_append_left _ (List.mem_append_left _ (List.mem_append_left _ (List.mem_append_left _ (List.mem_append_right _ (List.mem_append_right _ (List.mem_append_right _ (List.mem_append_right _ (List.mem_append_right _ (List.mem_append_right _ (List.mem_append_right _ (List.mem_append_right _ (List.mem_append_right _ (List.mem_append_right _ (List.mem_append_right _ (List.mem_append_right _ (List.mem_append_right _ (List.mem_append_right _ (List.mem_append_right _ (List.mem_append_right _ (List.mem_append_right _ (List.mem_append_right _ (List.mem_append_right _ (List.mem_append_right _ (List.mem_append_right _ (List.mem_append_left _ h)))))))))))))))))))))))))))))))))))
theorem zr_23 : ∀ w ∈ wsL_law0_r23, w ∈ wsL_law := fun w h => List.mem_append_left _ (List.mem_append_left _ (List.mem_append_left _ (List.mem_append_left _ (show w ∈ wsL_law0 from List.mem_append_left _ (List.mem_append_left _ (List.mem_append_left _ (List.mem_append_left _ (List.mem_append_left _ (List.mem_append_left _ (List.mem_append_left _ (List.mem_append_left _ (List.mem_append_left _ (List.mem_append_left _ (List.mem_append_right _ (List.mem_append_right _ (List.mem_append_right _ (List.mem_append_right _ (List.mem_append_right _ (List.mem_append_right _ (List.mem_append_right _ (List.mem_append_right _ (List.mem_append_right _ (List.mem_append_right _ (List.mem_append_right _ (List.mem_append_right _ (List.mem_append_right _ (List.mem_append_right _ (List.mem_append_right _ (List.mem_append_right _ (List.mem_append_right _ (List.mem_append_right _ (List.mem_append_right _ (List.mem_append_right _ (List.mem_append_right _ (List.mem_append_right _ (List.mem_append_left _ h))))))))))))))))))))))))))))))))))))
theorem zr_24 : ∀ w ∈ wsL_law0_r24, w ∈ wsL_law := fun w h => List.mem_append_left _ (List.mem_append_left _ (List.mem_append_left _ (List.mem_append_left _ (show w ∈ wsL_law0 from List.mem_append_left _ (List.mem_append_left _ (List.mem_append_left _ (List.mem_append_left _ (List.mem_append_left _ (List.mem_append_left _ (List.mem_append_left _ (List.mem_append_left _ (List.mem_append_left _ (List.mem_append_left _ (List.mem_append_right _ (List.mem_append_right _ (List.mem_append_right _ (List.mem_append_right _ (List.mem_append_right _ (List.mem_append_right _ (List.mem_append_right _ (List.mem_append_right _ (List.mem_append_right _ (List.mem_append_right _ (List.mem_append_right _ (List.mem_append_right _ (List.mem_append_right _ (List.mem_append_right _ (List.mem_append_right _ (List.mem_append_right _ (List.mem_append_right _ (List.mem_append_right _ (List.mem_append_right _ (List.mem_append_right _ (List.mem_append_right _ (List.mem_append_right _ (List.mem_append_right _ (List.mem_append_left _ h)))))))))))))))))))))))))))))))))))))
theorem zr_25 : ∀ w ∈ wsL_law0_r25, w ∈ wsL_law := fun w h => List.mem_append_left _ (List.mem_append_left _ (List.mem_append_left _ (List.mem_append_left _ (show w ∈ wsL_law0 from List.mem_append_left _ (List.mem_append_left _ (List.mem_append_left _ (List.mem_append_left _ (List.mem_append_left _ (List.mem_append_left _ (List.mem_append_left _ (List.mem_append_left _ (List.mem_append_left _ (List.mem_append_left _ (List.mem_append_right _ (List.mem_append_right _ (List.mem_append_right _ (List.mem_append_right _ (List.mem_append_right _ (List.mem_append_right _ (List.mem_append_right _ (List.mem_append_right _ (List.mem_append_right _ (List.mem_append_right _ (List.mem_append_right _ (List.mem_append_right _ (List.mem_append_right _ (List.mem_append_right _ (List.mem_append_right _ (List.mem_append_right _ (List.mem_append_right _ (List.mem_append_right _ (List.mem_append_right _ (List.mem_append_right _ (List.mem_append_right _ (List.mem_append_right _ (List.mem_append_right _ (List.mem_append_right _ (List.mem_append_left _ h))))))))))))))))))))))))))))))))))))))
theorem zr_26 : ∀ w ∈ wsL_law0_r26, w ∈ wsL_law := fun w h => List.mem_append_left _ (List.mem_append_left _ (List.mem_append_left _ (List.mem_append_left _ (show w ∈ wsL_law0 from List.mem_append_left _ (List.mem_append_left _ (List.mem_append_left _ (List.mem_append_left _ (List.mem_append_left _ (List.mem_append_left _ (List.mem_append_left _ (List.mem_append_left _ (List.mem_append_left _ (List.mem_append_left _ (List.mem_append_right _ (List.mem_append_right _ (List.mem_append_right _ (List.mem_append_right _ (List.mem_append_right _ (List.mem_append_right _ (List.mem_append_right _ (List.mem_append_right _ (List.mem_append_right _ (List.mem_append_right _ (List.mem_append_right _ (List.mem_append_right _ (List.mem_append_right _ (List.mem_append_right _ (List.mem_append_right _ (List.mem_append_right _ (List.mem_append_right _ (List.mem_append_right _ (List.mem_append_right _ (List.mem_append_right _ (List.mem_append_right _ (List.mem_append_right _ (List.mem_append_right _ (List.mem_append_right _ (List.mem_append_right _ (List.mem_append_left _ h)))))))))))))))))))))))))))))))))))))))
theorem zr_27 : ∀ w ∈ wsL_law0_r27, w ∈ wsL_law := fun w h => List.mem_append_left _ (List.mem_append_left _ (List.mem_append_left _ (List.mem_append_left _ (show w ∈ wsL_law0 from List.mem_append_left _ (List.mem_append_left _ (List.mem_append_left _ (List.mem_append_left _ (List.mem_append_left _ (List.mem_append_left _ (List.mem_append_left _ (List.mem_append_left _ (List.mem_append_left _ (List.mem_append_left _ (List.mem_append_right _ (List.mem_append_right _ (List.mem_append_right _ (List.mem_append_right _ (List.mem_append_right _ (List.mem_append_right _ (List.mem_append_right _ (List.mem_append_right _ (List.mem_append_right _ (List.mem_append_right _ (List.mem_append_right _ (List.mem_append_right _ (List.mem_append_right _ (List.mem_append_right _ (List.mem_append_right _ (List.mem_append_right _ (List.mem_append_right _ (List.mem_append_right _ (List.mem_append_right _ (List.mem_append_right _ (List.mem_append_right _ (List.mem_append_right _ (List.mem_append_right _ (List.mem_append_right _ (List.mem_append_right _ (List.mem_append_right _ (List.mem_append_left _ h))))))))))))))))))))))))))))))))))))))))
theorem zr_28 : ∀ w ∈ wsL_law0_r28, w ∈ wsL_law := fun w h => List.mem_append_left _ (List.mem_append_left _ (List.mem_append_left _ (List.mem_append_left _ (show w ∈ wsL_law0 from List.mem_append_left _ (List.mem_append_left _ (List.mem_append_left _ (List.mem_append_left _ (List.mem_append_left _ (List.mem_append_left _ (List.mem_append_left _ (List.mem_append_left _ (List.mem_append_left _ (List.mem_append_left _ (List.mem_append_right _ (List.mem_append_right _ (List.mem_append_right _ (List.mem_append_right _ (List.mem_append_right _ (List.mem_append_right _ (List.mem_append_right _ (List.mem_append_right _ (List.mem_append_right _ (List.mem_append_right _ (List.mem_append_right _ (List.mem_append_right _ (List.mem_append_right _ (List.mem_append_right _ (List.mem_append_right _ (List.mem_append_right _ (List.mem_append_right _ (List.mem_append_right _ (List.mem_append_right _ (List.mem_append_right _ (List.mem_append_right _ (List.mem_append_right _ (List.mem_append_right _ (List.mem_append_right _ (List.mem_append_right _ (List.mem_append_right _ (List.mem_append_right _ (List.mem_append_left _ h)))))))))))))))))))))))))))))))))))))))))
theorem zr_29 : ∀ w ∈ wsL_law0_r29, w ∈ wsL_law := fun w h => List.mem_append_left _ (List.mem_append_left _ (List.mem_append_left _ (List.mem_append_left _ (show w ∈ wsL_law0 from List.mem_append_left _ (List.mem_append_left _ (List.mem_append_left _ (List.mem_append_left _ (List.mem_append_left _ (List.mem_append_left _ (List.mem_append_left _ (List.mem_append_left _ (List.mem_append_left _ (List.mem_append_left _ (List.mem_append_right _ (List.mem_append_right _ (List.mem_append_right _ (List.mem_append_right _ (List.mem_append_right _ (List.mem_append_right _ (List.mem_append_right _ (List.mem_append_right _ (List.mem_append_right _ (List.mem_append_right _ (List.mem_append_right _ (List.mem_append_right _ (List.mem_append_right _ (List.mem_append_right _ (List.mem_append_right _ (List.mem_append_right _ (List.mem_append_right _ (List.mem_append_right _ (List.mem_append_right _ (List.mem_append_right _ (List.mem_append_right _ (List.mem_append_right _ (List.mem_append_right _ (List.mem_append_right _ (List.mem_append_right _ (List.mem_append_right _ (List.mem_append_right _ (List.mem_append_right _ (List.mem_append_left _ h))))))))))))))))))))))))))))))))))))))))))
theorem zr_30 : ∀ w ∈ wsL_law0_r30, w ∈ wsL_law := fun w h => List.mem_append_left _ (List.mem_append_left _ (List.mem_append_left _ (List.mem_append_left _ (show w ∈ wsL_law0 from List.mem_append_left _ (List.mem_append_left _ (List.mem_append_left _ (List.mem_append_left _ (List.mem_append_left _ (List.mem_append_left _ (List.mem_append_left _ (List.mem_append_left _ (List.mem_append_left _ (List.mem_append_left _ (List.mem_append_right _ (List.mem_append_right _ (List.mem_append_right _ (List.mem_append_right _ (List.mem_append_right _ (List.mem_append_right _ (List.mem_append_right _ (List.mem_append_right _ (List.mem_append_right _ (List.mem_append_right _ (List.mem_append_right _ (List.mem_append_right _ (List.mem_append_right _ (List.mem_append_right _ (List.mem_append_right _ (List.mem_append_right _ (List.mem_append_right _ (List.mem_append_right _ (List.mem_append_right _ (List.mem_append_right _ (List.mem_append_right _ (List.mem_append_right _ (List.mem_append_right _ (List.mem_append_right _ (List.mem_append_right _ (List.mem_append_right _ (List.mem_append_right _ (List.mem_append_right _ (List.mem_append_right _ (List.mem_append_left _ h)))))))))))))))))))))))))))))))))))))))))))
theorem zr_31 : ∀ w ∈ wsL_law0_r31, w ∈ wsL_law := fun w h => List.mem_append_left _ (List.mem_append_left _ (List.mem_append_left _ (List.mem_append_left _ (show w ∈ wsL_law0 from List.mem_append_left _ (List.mem_append_left _ (List.mem_append_left _ (List.mem_append_left _ (List.mem_append_left _ (List.mem_append_left _ (List.mem_append_left _ (List.mem_append_left _ (List.mem_append_left _ (List.mem_append_left _ (List.mem_append_right _ (List.mem_append_right _ (List.mem_append_right _ (List.mem_append_right _ (List.mem_append_right _ (List.mem_append_right _ (List.mem_append_right _ (List.mem_append_right _ (List.mem_append_right _ (List.mem_append_right _ (List.mem_append_right _ (List.mem_append_right _ (List.mem_append_right _ (List.mem_append_right _ (List.mem_append_right _ (List.mem_append_right _ (List.mem_append_right _ (List.mem_append_right _ (List.mem_append_right _ (List.mem_append_right _ (List.mem_append_right _ (List.mem_append_right _ (List.mem_append_right _ (List.mem_append_right _ (List.mem_append_right _ (List.mem_append_right _ (List.mem_append_right _ (List.mem_append_right _ (List.mem_append_right _ (List.mem_append_right _ (List.mem_append_left _ h))))))))))))))))))))))))))))))))))))))))))))
theorem zr_32 : ∀ w ∈ wsL_law0_r32, w ∈ wsL_law := fun w h => List.mem_append_left _ (List.mem_append_left _ (List.mem_append_left _ (List.mem_append_left _ (show w ∈ wsL_law0 from List.mem_append_left _ (List.mem_append_left _ (List.mem_append_left _ (List.mem_append_left _ (List.mem_append_left _ (List.mem_append_left _ (List.mem_append_left _ (List.mem_append_left _ (List.mem_append_left _ (List.mem_append_left _ (List.mem_append_right _ (List.mem_append_right _ (List.mem_append_right _ (List.mem_append_right _ (List.mem_append_right _ (List.mem_append_right _ (List.mem_append_right _ (List.mem_append_right _ (List.mem_append_right _ (List.mem_append_right _ (List.mem_append_right _ (List.mem_append_right _ (List.mem_append_right _ (List.mem_append_right _ (List.mem_append_right _ (List.mem_append_right _ (List.mem_append_right _ (List.mem_append_right _ (List.mem_append_right _ (List.mem_append_right _ (List.mem_append_right _ (List.mem_append_right _ (List.mem_append_right _ (List.mem_append_right _ (List.mem_append_right _ (List.mem_append_right _ (List.mem_append_right _ (List.mem_append_right _ (List.mem_append_right _ (List.mem_append_right _ (List.mem_append_right _ (List.mem_append_left _ h)))))))))))))))))))))))))))))))))))))))))))))
theorem zr_33 : ∀ w ∈ wsL_law0_r33, w ∈ wsL_law := fun w h => List.mem_append_left _ (List.mem_append_left _ (List.mem_append_left _ (List.mem_append_left _ (show w ∈ wsL_law0 from List.mem_append_left _ (List.mem_append_left _ (List.mem_append_left _ (List.mem_append_left _ (List.mem_append_left _ (List.mem_append_left _ (List.mem_append_left _ (List.mem_append_left _ (List.mem_append_left _ (List.mem_append_left _ (List.mem_append_right _ (List.mem_append_right _ (List.mem_append_right _ (List.mem_append_right _ (List.mem_append_right _ (List.mem_append_right _ (List.mem_append_right _ (List.mem_append_right _ (List.mem_append_right _ (List.mem_append_right _ (List.mem_append_right _ (List.mem_append_right _ (List.mem_append_right _ (List.mem_append_right _ (List.mem_append_right _ (List.mem_append_right _ (List.mem_append_right _ (List.mem_append_right _ (List.mem_append_right _ (List.mem_append_right _ (List.mem_append_right _ (List.mem_append_right _ (List.mem_append_right _ (List.mem_append_right _ (List.mem_append_right _ (List.mem_append_right _ (List.mem_append_right _ (List.mem_append_right _ (List.mem_append_right _ (List.mem_append_right _ (List.mem_append_right _ (List.mem_append_right _ (List.mem_append_left _ h))))))))))))))))))))))))))))))))))))))))))))))
theorem zr_34 : ∀ w ∈ wsL_law0_r34, w ∈ wsL_law := fun w h => List.mem_append_left _ (List.mem_append_left _ (List.mem_append_left _ (List.mem_append_left _ (show w ∈ wsL_law0 from List.mem_append_left _ (List.mem_append_left _ (List.mem_append_left _ (List.mem_append_left _ (List.mem_append_left _ (List.mem_append_left _ (List.mem_append_left _ (List.mem_append_left _ (List.mem_append_left _ (List.mem_append_left _ (List.mem_append_right _ (List.mem_append_right _ (List.mem_append_right _ (List.mem_append_right _ (List.mem_append_right _ (List.mem_append_right _ (List.mem_append_right _ (List.mem_append_right _ (List.mem_append_right _ (List.mem_append_right _ (List.mem_append_right _ (List.mem_append_right _ (List.mem_append_right _ (List.mem_append_right _ (List.mem_append_right _ (List.mem_append_right _ (List.mem_append_right _ (List.mem_append_right _ (List.mem_append_right _ (List.mem_append_right _ (List.mem_append_right _ (List.mem_append_right _ (List.mem_append_right _ (List.mem_append_right _ (List.mem_append_right _ (List.mem_append_right _ (List.mem_append_right _ (List.mem_append_right _ (List.mem_append_right _ (List.mem_append_right _ (List.mem_append_right _ (List.mem_append_right _ (List.mem_append_right _ (h)))))))))))))))))))))))))))))))))))))))))))))))
theorem fl_X6_10 : zFl RX6 10 7 RX6 TX6 6 0 := ⟨rfl, inlX6, by decide, zr_1 _ (List.mem_of_getElem? (i := 16) rfl)⟩
theorem fl_X6_16 : zFl RX6 16 7 RX6 TX6 6 1 := ⟨rfl, inlX6, by decide, zr_1 _ (List.mem_of_getElem? (i := 17) rfl)⟩
theorem fl_X6_19 : zFl RX6 19 7 RX6 TX6 6 2 := ⟨rfl, inlX6, by decide, zr_1 _ (List.mem_of_getElem? (i := 18) rfl)⟩
theorem fl_X6_22 : zFl RX6 22 7 RX6 TX6 6 3 := ⟨rfl, inlX6, by decide, zr_1 _ (List.mem_of_getElem? (i := 19) rfl)⟩
theorem fl_X6_27 : zFl RX6 27 7 RX6 TX6 6 4 := ⟨rfl, inlX6, by decide, zr_1 _ (List.mem_of_getElem? (i := 21) rfl)⟩
theorem fl_X6_35 : zFl RX6 35 7 RX6 TX6 6 5 := ⟨rfl, inlX6, by decide, zr_2 _ (List.mem_of_getElem? (i := 3) rfl)⟩
theorem fl_Jx4a65c_9 : zFl RJx4a65c 9 0 RJx4a65c TJx4a65c 3 1 := ⟨rfl, inlJx4a65c, by decide, zr_2 _ (List.mem_of_getElem? (i := 8) rfl)⟩
theorem fl_Jxc12de_7 : zFl RJxc12de 7 0 RJx4a65c TJx4a65c 3 0 := ⟨rfl, inlJx4a65c, by decide, zr_2 _ (List.mem_of_getElem? (i := 13) rfl)⟩
theorem fl_X0_9 : zFl RX0 9 1 RX0 TX0 2 0 := ⟨rfl, inlX0, by decide, zr_3 _ (List.mem_of_getElem? (i := 0) rfl)⟩
theorem fl_X0_15 : zFl RX0 15 1 RX0 TX0 2 1 := ⟨rfl, inlX0, by decide, zr_3 _ (List.mem_of_getElem? (i := 1) rfl)⟩
theorem fl_X2_9 : zFl RX2 9 3 RX2 TX2 1 0 := ⟨rfl, inlX2, by decide, zr_3 _ (List.mem_of_getElem? (i := 6) rfl)⟩
theorem fl_X7_7 : zFl RX7 7 8 RX7 TX7 22 0 := ⟨rfl, inlX7, by decide, zr_3 _ (List.mem_of_getElem? (i := 11) rfl)⟩
theorem fl_X7_13 : zFl RX7 13 8 RX7 TX7 22 1 := ⟨rfl, inlX7, by decide, zr_3 _ (List.mem_of_getElem? (i := 12) rfl)⟩
theorem fl_X7_16 : zFl RX7 16 8 RX7 TX7 22 2 := ⟨rfl, inlX7, by decide, zr_3 _ (List.mem_of_getElem? (i := 13) rfl)⟩
theorem fl_X7_19 : zFl RX7 19 8 RX7 TX7 22 4 := ⟨rfl, inlX7, by decide, zr_3 _ (List.mem_of_getElem? (i := 14) rfl)⟩
theorem fl_X7_22 : zFl RX7 22 8 RX7 TX7 22 5 := ⟨rfl, inlX7, by decide, zr_3 _ (List.mem_of_getElem? (i := 15) rfl)⟩
theorem fl_X7_25 : zFl RX7 25 8 RX7 TX7 22 6 := ⟨rfl, inlX7, by decide, zr_3 _ (List.mem_of_getElem? (i := 16) rfl)⟩
theorem fl_X7_28 : zFl RX7 28 8 RX7 TX7 22 7 := ⟨rfl, inlX7, by decide, zr_3 _ (List.mem_of_getElem? (i := 17) rfl)⟩
theorem fl_X7_32 : zFl RX7 32 8 RX7 TX7 22 9 := ⟨rfl, inlX7, by decide, zr_3 _ (List.mem_of_getElem? (i := 18) rfl)⟩
theorem fl_X7_35 : zFl RX7 35 8 RX7 TX7 22 10 := ⟨rfl, inlX7, by decide, zr_3 _ (List.mem_of_getElem? (i := 19) rfl)⟩
theorem fl_X7_38 : zFl RX7 38 8 RX7 TX7 22 11 := ⟨rfl, inlX7, by decide, zr_3 _ (List.mem_of_getElem? (i := 20) rfl)⟩
theorem fl_X7_41 : zFl RX7 41 8 RX7 TX7 22 12 := ⟨rfl, inlX7, by decide, zr_3 _ (List.mem_of_getElem? (i := 21) rfl)⟩
theorem fl_X7_44 : zFl RX7 44 8 RX7 TX7 22 14 := ⟨rfl, inlX7, by decide, zr_3 _ (List.mem_of_getElem? (i := 22) rfl)⟩
theorem fl_X7_47 : zFl RX7 47 8 RX7 TX7 22 15 := ⟨rfl, inlX7, by decide, zr_3 _ (List.mem_of_getElem? (i := 23) rfl)⟩
theorem fl_X7_50 : zFl RX7 50 8 RX7 TX7 22 16 := ⟨rfl, inlX7, by decide, zr_4 _ (List.mem_of_getElem? (i := 0) rfl)⟩
theorem fl_X7_53 : zFl RX7 53 8 RX7 TX7 22 17 := ⟨rfl, inlX7, by decide, zr_4 _ (List.mem_of_getElem? (i := 1) rfl)⟩
theorem fl_Jx4a65c_48 : zFl RJx4a65c 48 0 RJx4a65c TJx4a65c 3 2 := ⟨rfl, inlJx4a65c, by decide, zr_5 _ (List.mem_of_getElem? (i := 2) rfl)⟩
theorem fl_X1_10 : zFl RX1 10 2 RX1 TX1 4 3 := ⟨rfl, inlX1, by decide, zr_5 _ (List.mem_of_getElem? (i := 8) rfl)⟩
theorem fl_X1_16 : zFl RX1 16 2 RX1 TX1 4 0 := ⟨rfl, inlX1, by decide, zr_5 _ (List.mem_of_getElem? (i := 9) rfl)⟩
theorem fl_X1_20 : zFl RX1 20 2 RX1 TX1 4 1 := ⟨rfl, inlX1, by decide, zr_5 _ (List.mem_of_getElem? (i := 10) rfl)⟩
theorem fl_X1_23 : zFl RX1 23 2 RX1 TX1 4 2 := ⟨rfl, inlX1, by decide, zr_5 _ (List.mem_of_getElem? (i := 11) rfl)⟩
theorem fl_X7_67 : zFl RX7 67 8 RX7 TX7 22 3 := ⟨rfl, inlX7, by decide, zr_7 _ (List.mem_of_getElem? (i := 21) rfl)⟩
theorem fl_X7_56 : zFl RX7 56 8 RX7 TX7 22 21 := ⟨rfl, inlX7, by decide, zr_8 _ (List.mem_of_getElem? (i := 5) rfl)⟩
theorem fl_X6_92 : zFl RX6 92 5 RX4 TX4 9 0 := ⟨rfl, inlX4, by decide, zr_8 _ (List.mem_of_getElem? (i := 17) rfl)⟩
theorem fl_X4_9 : zFl RX4 9 5 RX4 TX4 9 1 := ⟨rfl, inlX4, by decide, zr_9 _ (List.mem_of_getElem? (i := 15) rfl)⟩
theorem fl_X4_15 : zFl RX4 15 5 RX4 TX4 9 2 := ⟨rfl, inlX4, by decide, zr_9 _ (List.mem_of_getElem? (i := 16) rfl)⟩
theorem fl_X4_18 : zFl RX4 18 5 RX4 TX4 9 3 := ⟨rfl, inlX4, by decide, zr_9 _ (List.mem_of_getElem? (i := 17) rfl)⟩
theorem fl_X4_21 : zFl RX4 21 5 RX4 TX4 9 0 := ⟨rfl, inlX4, by decide, zr_9 _ (List.mem_of_getElem? (i := 18) rfl)⟩
theorem fl_X4_25 : zFl RX4 25 5 RX4 TX4 9 4 := ⟨rfl, inlX4, by decide, zr_9 _ (List.mem_of_getElem? (i := 23) rfl)⟩
theorem fl_X4_28 : zFl RX4 28 5 RX4 TX4 9 5 := ⟨rfl, inlX4, by decide, zr_10 _ (List.mem_of_getElem? (i := 0) rfl)⟩
theorem fl_X4_31 : zFl RX4 31 5 RX4 TX4 9 6 := ⟨rfl, inlX4, by decide, zr_10 _ (List.mem_of_getElem? (i := 1) rfl)⟩
theorem fl_X4_34 : zFl RX4 34 5 RX4 TX4 9 7 := ⟨rfl, inlX4, by decide, zr_10 _ (List.mem_of_getElem? (i := 2) rfl)⟩
theorem fl_X7_60 : zFl RX7 60 8 RX7 TX7 22 8 := ⟨rfl, inlX7, by decide, zr_10 _ (List.mem_of_getElem? (i := 7) rfl)⟩
theorem fl_X6_103 : zFl RX6 103 5 RX4 TX4 9 4 := ⟨rfl, inlX4, by decide, zr_10 _ (List.mem_of_getElem? (i := 21) rfl)⟩
theorem fl_X6_108 : zFl RX6 108 5 RX4 TX4 9 8 := ⟨rfl, inlX4, by decide, zr_10 _ (List.mem_of_getElem? (i := 22) rfl)⟩
theorem fl_X6_186 : zFl RX6 186 5 RX4 TX4 9 5 := ⟨rfl, inlX4, by decide, zr_13 _ (List.mem_of_getElem? (i := 20) rfl)⟩
theorem fl_X6_301 : zFl RX6 301 2 RX1 TX1 4 1 := ⟨rfl, inlX1, by decide, zr_14 _ (List.mem_of_getElem? (i := 2) rfl)⟩
theorem fl_X6_144 : zFl RX6 144 6 RX5 TX5 5 4 := ⟨rfl, inlX5, by decide, zr_14 _ (List.mem_of_getElem? (i := 4) rfl)⟩
theorem fl_X6_151 : zFl RX6 151 6 RX5 TX5 5 1 := ⟨rfl, inlX5, by decide, zr_14 _ (List.mem_of_getElem? (i := 5) rfl)⟩
theorem fl_X5_18 : zFl RX5 18 6 RX5 TX5 5 4 := ⟨rfl, inlX5, by decide, zr_14 _ (List.mem_of_getElem? (i := 19) rfl)⟩
theorem fl_X1_26 : zFl RX1 26 5 RX4 TX4 9 7 := ⟨rfl, inlX4, by decide, zr_16 _ (List.mem_of_getElem? (i := 12) rfl)⟩
theorem fl_X1_29 : zFl RX1 29 5 RX4 TX4 9 5 := ⟨rfl, inlX4, by decide, zr_16 _ (List.mem_of_getElem? (i := 13) rfl)⟩
theorem fl_X1_32 : zFl RX1 32 5 RX4 TX4 9 4 := ⟨rfl, inlX4, by decide, zr_16 _ (List.mem_of_getElem? (i := 14) rfl)⟩
theorem fl_X6_138 : zFl RX6 138 6 RX5 TX5 5 2 := ⟨rfl, inlX5, by decide, zr_16 _ (List.mem_of_getElem? (i := 23) rfl)⟩
theorem fl_X6_189 : zFl RX6 189 5 RX4 TX4 9 6 := ⟨rfl, inlX4, by decide, zr_17 _ (List.mem_of_getElem? (i := 0) rfl)⟩
theorem fl_X6_269 : zFl RX6 269 6 RX5 TX5 5 0 := ⟨rfl, inlX5, by decide, zr_17 _ (List.mem_of_getElem? (i := 7) rfl)⟩
theorem fl_X5_9 : zFl RX5 9 6 RX5 TX5 5 2 := ⟨rfl, inlX5, by decide, zr_17 _ (List.mem_of_getElem? (i := 12) rfl)⟩
theorem fl_X5_15 : zFl RX5 15 6 RX5 TX5 5 3 := ⟨rfl, inlX5, by decide, zr_17 _ (List.mem_of_getElem? (i := 13) rfl)⟩
theorem fl_X5_21 : zFl RX5 21 6 RX5 TX5 5 0 := ⟨rfl, inlX5, by decide, zr_17 _ (List.mem_of_getElem? (i := 14) rfl)⟩
theorem fl_X5_24 : zFl RX5 24 6 RX5 TX5 5 1 := ⟨rfl, inlX5, by decide, zr_17 _ (List.mem_of_getElem? (i := 15) rfl)⟩
theorem fl_X6_141 : zFl RX6 141 6 RX5 TX5 5 3 := ⟨rfl, inlX5, by decide, zr_18 _ (List.mem_of_getElem? (i := 0) rfl)⟩
theorem fl_X6_202 : zFl RX6 202 2 RX1 TX1 4 3 := ⟨rfl, inlX1, by decide, zr_18 _ (List.mem_of_getElem? (i := 5) rfl)⟩
theorem fl_X7_70 : zFl RX7 70 8 RX7 TX7 22 13 := ⟨rfl, inlX7, by decide, zr_18 _ (List.mem_of_getElem? (i := 21) rfl)⟩
theorem fl_X7_107 : zFl RX7 107 8 RX7 TX7 22 19 := ⟨rfl, inlX7, by decide, zr_19 _ (List.mem_of_getElem? (i := 5) rfl)⟩
theorem fl_X7_114 : zFl RX7 114 8 RX7 TX7 22 20 := ⟨rfl, inlX7, by decide, zr_19 _ (List.mem_of_getElem? (i := 6) rfl)⟩
theorem fl_X6_185 : zFl RX6 185 4 RX3 TX3 2 0 := ⟨rfl, inlX3, by decide, zr_22 _ (List.mem_of_getElem? (i := 18) rfl)⟩
theorem fl_X6_280 : zFl RX6 280 4 RX3 TX3 2 1 := ⟨rfl, inlX3, by decide, zr_22 _ (List.mem_of_getElem? (i := 19) rfl)⟩
theorem fl_X7_136 : zFl RX7 136 8 RX7 TX7 22 18 := ⟨rfl, inlX7, by decide, zr_23 _ (List.mem_of_getElem? (i := 21) rfl)⟩
theorem fl_X3_7 : zFl RX3 7 4 RX3 TX3 2 0 := ⟨rfl, inlX3, by decide, zr_24 _ (List.mem_of_getElem? (i := 23) rfl)⟩
theorem fl_X3_13 : zFl RX3 13 4 RX3 TX3 2 1 := ⟨rfl, inlX3, by decide, zr_25 _ (List.mem_of_getElem? (i := 0) rfl)⟩
theorem fl_X6_192 : zFl RX6 192 5 RX4 TX4 9 7 := ⟨rfl, inlX4, by decide, zr_27 _ (List.mem_of_getElem? (i := 5) rfl)⟩
theorem ci_L_95 : zCI RL 95 yX6_init cX6_init 2 0 := ⟨⟨zr_1 _ (List.mem_of_getElem? (i := 7) rfl), zr_1 _ (List.mem_of_getElem? (i := 9) rfl), zr_1 _ (List.mem_of_getElem? (i := 2) rfl), by decide⟩, rfl, zr_1 _ (List.mem_of_getElem? (i := 8) rfl)⟩
theorem ci_X6_9 : zCI RX6 9 yJx4a65c_init_da8c8 cJx4a65c_init_da8c8 1 0 := ⟨⟨zr_2 _ (List.mem_of_getElem? (i := 4) rfl), zr_2 _ (List.mem_of_getElem? (i := 6) rfl), zr_1 _ (List.mem_of_getElem? (i := 15) rfl), by decide⟩, rfl, zr_2 _ (List.mem_of_getElem? (i := 5) rfl)⟩
theorem ci_Jx4a65c_1 : zCI RJx4a65c 1 yJxc12de_init_da8c8 cJxc12de_init_da8c8 1 0 := ⟨⟨zr_2 _ (List.mem_of_getElem? (i := 9) rfl), zr_2 _ (List.mem_of_getElem? (i := 12) rfl), zr_2 _ (List.mem_of_getElem? (i := 11) rfl), by decide⟩, rfl, zr_2 _ (List.mem_of_getElem? (i := 10) rfl)⟩
theorem ci_Jxc12de_1 : zCI RJxc12de 1 yJxa1e45_init_da8c8 cJxa1e45_init_da8c8 1 0 := ⟨⟨zr_2 _ (List.mem_of_getElem? (i := 14) rfl), zr_2 _ (List.mem_of_getElem? (i := 17) rfl), zr_2 _ (List.mem_of_getElem? (i := 16) rfl), by decide⟩, rfl, zr_2 _ (List.mem_of_getElem? (i := 15) rfl)⟩
theorem ci_X6_31 : zCI RX6 31 yX0_init cX0_init 2 0 := ⟨⟨zr_2 _ (List.mem_of_getElem? (i := 19) rfl), zr_2 _ (List.mem_of_getElem? (i := 21) rfl), zr_1 _ (List.mem_of_getElem? (i := 23) rfl), by decide⟩, rfl, zr_2 _ (List.mem_of_getElem? (i := 20) rfl)⟩
theorem ci_L_98 : zCI RL 98 yX7_init cX7_init 2 0 := ⟨⟨zr_3 _ (List.mem_of_getElem? (i := 7) rfl), zr_3 _ (List.mem_of_getElem? (i := 9) rfl), zr_1 _ (List.mem_of_getElem? (i := 5) rfl), by decide⟩, rfl, zr_3 _ (List.mem_of_getElem? (i := 8) rfl)⟩
theorem cv_L_7 : zCV RL 7 yX6_hire cX6_hire 4 (some .int) 3 := ⟨⟨zr_4 _ (List.mem_of_getElem? (i := 8) rfl), zr_4 _ (List.mem_of_getElem? (i := 11) rfl), zr_1 _ (List.mem_of_getElem? (i := 2) rfl), by decide⟩, zr_4 _ (List.mem_of_getElem? (i := 9) rfl), zr_4 _ (List.mem_of_getElem? (i := 10) rfl)⟩
theorem cs_X6_46 : zCS RX6 46 yX6_isMinute cX6_isMinute 1 (some .boolean) 1 := ⟨⟨zr_4 _ (List.mem_of_getElem? (i := 19) rfl), zr_4 _ (List.mem_of_getElem? (i := 21) rfl), zr_1 _ (List.mem_of_getElem? (i := 2) rfl), by decide⟩, zr_4 _ (List.mem_of_getElem? (i := 20) rfl)⟩
theorem cv_X6_52 : zCV RX6 52 yJx4a65c_size_8abf5 cJx4a65c_size_8abf5 1 (some .int) 0 := ⟨⟨zr_4 _ (List.mem_of_getElem? (i := 22) rfl), zr_5 _ (List.mem_of_getElem? (i := 1) rfl), zr_1 _ (List.mem_of_getElem? (i := 15) rfl), by decide⟩, zr_4 _ (List.mem_of_getElem? (i := 23) rfl), zr_5 _ (List.mem_of_getElem? (i := 0) rfl)⟩
theorem ci_X6_63 : zCI RX6 63 yX1_init cX1_init 4 3 := ⟨⟨zr_5 _ (List.mem_of_getElem? (i := 3) rfl), zr_5 _ (List.mem_of_getElem? (i := 5) rfl), zr_4 _ (List.mem_of_getElem? (i := 18) rfl), by decide⟩, rfl, zr_5 _ (List.mem_of_getElem? (i := 4) rfl)⟩
theorem ci_X1_9 : zCI RX1 9 yX0_init cX0_init 2 0 := ⟨⟨zr_5 _ (List.mem_of_getElem? (i := 12) rfl), zr_2 _ (List.mem_of_getElem? (i := 21) rfl), zr_1 _ (List.mem_of_getElem? (i := 23) rfl), by decide⟩, rfl, zr_2 _ (List.mem_of_getElem? (i := 20) rfl)⟩
theorem cv_X6_66 : zCV RX6 66 yJx4a65c_add_9ea2d cJx4a65c_add_9ea2d 2 (some .boolean) 1 := ⟨⟨zr_5 _ (List.mem_of_getElem? (i := 13) rfl), zr_5 _ (List.mem_of_getElem? (i := 16) rfl), zr_1 _ (List.mem_of_getElem? (i := 15) rfl), by decide⟩, zr_5 _ (List.mem_of_getElem? (i := 14) rfl), zr_5 _ (List.mem_of_getElem? (i := 15) rfl)⟩
theorem cv_Jx4a65c_131 : zCV RJx4a65c 131 yJx4a65c_add_72be8 cJx4a65c_add_72be8 4 none 3 := ⟨⟨zr_5 _ (List.mem_of_getElem? (i := 19) rfl), zr_5 _ (List.mem_of_getElem? (i := 22) rfl), zr_1 _ (List.mem_of_getElem? (i := 15) rfl), by decide⟩, zr_5 _ (List.mem_of_getElem? (i := 20) rfl), zr_5 _ (List.mem_of_getElem? (i := 21) rfl)⟩
theorem cv_Jx4a65c_129 : zCV RJx4a65c 129 yJx4a65c_grow_d5877 cJx4a65c_grow_d5877 1 (some (.array (.object "java/lang/Object"))) 0 := ⟨⟨zr_5 _ (List.mem_of_getElem? (i := 23) rfl), zr_6 _ (List.mem_of_getElem? (i := 2) rfl), zr_1 _ (List.mem_of_getElem? (i := 15) rfl), by decide⟩, zr_6 _ (List.mem_of_getElem? (i := 0) rfl), zr_6 _ (List.mem_of_getElem? (i := 1) rfl)⟩
theorem cv_Jx4a65c_69 : zCV RJx4a65c 69 yJx4a65c_grow_92f84 cJx4a65c_grow_92f84 4 (some (.array (.object "java/lang/Object"))) 1 := ⟨⟨zr_6 _ (List.mem_of_getElem? (i := 3) rfl), zr_6 _ (List.mem_of_getElem? (i := 6) rfl), zr_1 _ (List.mem_of_getElem? (i := 15) rfl), by decide⟩, zr_6 _ (List.mem_of_getElem? (i := 4) rfl), zr_6 _ (List.mem_of_getElem? (i := 5) rfl)⟩
theorem cs_Jx4a65c_73 : zCS RJx4a65c 73 yJ8_newLength_cabcc cJ8_newLength_cabcc 4 (some .int) 3 := ⟨⟨zr_6 _ (List.mem_of_getElem? (i := 12) rfl), zr_6 _ (List.mem_of_getElem? (i := 15) rfl), zr_6 _ (List.mem_of_getElem? (i := 14) rfl), by decide⟩, zr_6 _ (List.mem_of_getElem? (i := 13) rfl)⟩
theorem cs_J8_201 : zCS RJ8 201 yJ8_hugeLength_7cf53 cJ8_hugeLength_7cf53 3 (some .int) 2 := ⟨⟨zr_6 _ (List.mem_of_getElem? (i := 18) rfl), zr_6 _ (List.mem_of_getElem? (i := 20) rfl), zr_6 _ (List.mem_of_getElem? (i := 14) rfl), by decide⟩, zr_6 _ (List.mem_of_getElem? (i := 19) rfl)⟩
theorem cs_Jx4a65c_66 : zCS RJx4a65c 66 yJ7_copyOf_1904c cJ7_copyOf_1904c 2 (some (.array (.object "java/lang/Object"))) 2 := ⟨⟨zr_6 _ (List.mem_of_getElem? (i := 21) rfl), zr_7 _ (List.mem_of_getElem? (i := 0) rfl), zr_6 _ (List.mem_of_getElem? (i := 23) rfl), by decide⟩, zr_6 _ (List.mem_of_getElem? (i := 22) rfl)⟩
theorem cs_J7_300 : zCS RJ7 300 yJ7_copyOf_6403c cJ7_copyOf_6403c 4 (some (.array (.object "java/lang/Object"))) 3 := ⟨⟨zr_7 _ (List.mem_of_getElem? (i := 5) rfl), zr_7 _ (List.mem_of_getElem? (i := 7) rfl), zr_6 _ (List.mem_of_getElem? (i := 23) rfl), by decide⟩, zr_7 _ (List.mem_of_getElem? (i := 6) rfl)⟩
theorem cv_L_104 : zCV RL 104 yX7_hire cX7_hire 5 (some .int) 3 := ⟨⟨zr_7 _ (List.mem_of_getElem? (i := 17) rfl), zr_7 _ (List.mem_of_getElem? (i := 20) rfl), zr_1 _ (List.mem_of_getElem? (i := 5) rfl), by decide⟩, zr_7 _ (List.mem_of_getElem? (i := 18) rfl), zr_7 _ (List.mem_of_getElem? (i := 19) rfl)⟩
theorem cs_X7_63 : zCS RX7 63 yX7_in cX7_in 3 (some .boolean) 3 := ⟨⟨zr_7 _ (List.mem_of_getElem? (i := 22) rfl), zr_8 _ (List.mem_of_getElem? (i := 0) rfl), zr_1 _ (List.mem_of_getElem? (i := 5) rfl), by decide⟩, zr_7 _ (List.mem_of_getElem? (i := 23) rfl)⟩
theorem cv_X7_77 : zCV RX7 77 yX7_isFine cX7_isFine 2 (some .boolean) 1 := ⟨⟨zr_8 _ (List.mem_of_getElem? (i := 1) rfl), zr_8 _ (List.mem_of_getElem? (i := 4) rfl), zr_1 _ (List.mem_of_getElem? (i := 5) rfl), by decide⟩, zr_8 _ (List.mem_of_getElem? (i := 2) rfl), zr_8 _ (List.mem_of_getElem? (i := 3) rfl)⟩
theorem cv_L_105 : zCV RL 105 yX7_thrown cX7_thrown 1 (some .int) 0 := ⟨⟨zr_8 _ (List.mem_of_getElem? (i := 6) rfl), zr_8 _ (List.mem_of_getElem? (i := 9) rfl), zr_1 _ (List.mem_of_getElem? (i := 5) rfl), by decide⟩, zr_8 _ (List.mem_of_getElem? (i := 7) rfl), zr_8 _ (List.mem_of_getElem? (i := 8) rfl)⟩
theorem cv_L_17 : zCV RL 17 yX6_addService cX6_addService 4 (some .int) 2 := ⟨⟨zr_8 _ (List.mem_of_getElem? (i := 13) rfl), zr_8 _ (List.mem_of_getElem? (i := 16) rfl), zr_1 _ (List.mem_of_getElem? (i := 2) rfl), by decide⟩, zr_8 _ (List.mem_of_getElem? (i := 14) rfl), zr_8 _ (List.mem_of_getElem? (i := 15) rfl)⟩
theorem cs_X6_70 : zCS RX6 70 yX6_isSkill cX6_isSkill 1 (some .boolean) 1 := ⟨⟨zr_8 _ (List.mem_of_getElem? (i := 18) rfl), zr_8 _ (List.mem_of_getElem? (i := 20) rfl), zr_1 _ (List.mem_of_getElem? (i := 2) rfl), by decide⟩, zr_8 _ (List.mem_of_getElem? (i := 19) rfl)⟩
theorem cs_X6_75 : zCS RX6 75 yX6_requireStepMinutes cX6_requireStepMinutes 1 none 1 := ⟨⟨zr_8 _ (List.mem_of_getElem? (i := 21) rfl), zr_8 _ (List.mem_of_getElem? (i := 23) rfl), zr_1 _ (List.mem_of_getElem? (i := 2) rfl), by decide⟩, zr_8 _ (List.mem_of_getElem? (i := 22) rfl)⟩
theorem cv_X6_79 : zCV RX6 79 yX6_requireRoomForService cX6_requireRoomForService 1 none 0 := ⟨⟨zr_9 _ (List.mem_of_getElem? (i := 0) rfl), zr_9 _ (List.mem_of_getElem? (i := 3) rfl), zr_1 _ (List.mem_of_getElem? (i := 2) rfl), by decide⟩, zr_9 _ (List.mem_of_getElem? (i := 1) rfl), zr_9 _ (List.mem_of_getElem? (i := 2) rfl)⟩
theorem cv_X6_82 : zCV RX6 82 yX6_newService cX6_newService 2 (some (.object "SalonBook$Service")) 0 := ⟨⟨zr_9 _ (List.mem_of_getElem? (i := 4) rfl), zr_9 _ (List.mem_of_getElem? (i := 7) rfl), zr_1 _ (List.mem_of_getElem? (i := 2) rfl), by decide⟩, zr_9 _ (List.mem_of_getElem? (i := 5) rfl), zr_9 _ (List.mem_of_getElem? (i := 6) rfl)⟩
theorem ci_X6_259 : zCI RX6 259 yX4_init cX4_init 2 1 := ⟨⟨zr_9 _ (List.mem_of_getElem? (i := 11) rfl), zr_9 _ (List.mem_of_getElem? (i := 13) rfl), zr_9 _ (List.mem_of_getElem? (i := 10) rfl), by decide⟩, rfl, zr_9 _ (List.mem_of_getElem? (i := 12) rfl)⟩
theorem cv_X6_86 : zCV RX6 86 yX4_append cX4_append 3 none 2 := ⟨⟨zr_9 _ (List.mem_of_getElem? (i := 19) rfl), zr_9 _ (List.mem_of_getElem? (i := 22) rfl), zr_9 _ (List.mem_of_getElem? (i := 10) rfl), by decide⟩, zr_9 _ (List.mem_of_getElem? (i := 20) rfl), zr_9 _ (List.mem_of_getElem? (i := 21) rfl)⟩
theorem cv_L_112 : zCV RL 112 yX7_addService cX7_addService 3 (some .int) 2 := ⟨⟨zr_10 _ (List.mem_of_getElem? (i := 3) rfl), zr_10 _ (List.mem_of_getElem? (i := 6) rfl), zr_1 _ (List.mem_of_getElem? (i := 5) rfl), by decide⟩, zr_10 _ (List.mem_of_getElem? (i := 4) rfl), zr_10 _ (List.mem_of_getElem? (i := 5) rfl)⟩
theorem cv_X7_80 : zCV RX7 80 yX7_puts cX7_puts 4 none 3 := ⟨⟨zr_10 _ (List.mem_of_getElem? (i := 8) rfl), zr_10 _ (List.mem_of_getElem? (i := 11) rfl), zr_1 _ (List.mem_of_getElem? (i := 5) rfl), by decide⟩, zr_10 _ (List.mem_of_getElem? (i := 9) rfl), zr_10 _ (List.mem_of_getElem? (i := 10) rfl)⟩
theorem cv_L_21 : zCV RL 21 yX6_addStep cX6_addStep 5 (some .int) 3 := ⟨⟨zr_10 _ (List.mem_of_getElem? (i := 16) rfl), zr_10 _ (List.mem_of_getElem? (i := 19) rfl), zr_1 _ (List.mem_of_getElem? (i := 2) rfl), by decide⟩, zr_10 _ (List.mem_of_getElem? (i := 17) rfl), zr_10 _ (List.mem_of_getElem? (i := 18) rfl)⟩
theorem cv_X6_96 : zCV RX6 96 yX6_requireService cX6_requireService 2 none 1 := ⟨⟨zr_10 _ (List.mem_of_getElem? (i := 23) rfl), zr_11 _ (List.mem_of_getElem? (i := 2) rfl), zr_1 _ (List.mem_of_getElem? (i := 2) rfl), by decide⟩, zr_11 _ (List.mem_of_getElem? (i := 0) rfl), zr_11 _ (List.mem_of_getElem? (i := 1) rfl)⟩
theorem cv_X6_99 : zCV RX6 99 yJx4a65c_get_915e3 cJx4a65c_get_915e3 2 (some (.object "java/lang/Object")) 1 := ⟨⟨zr_11 _ (List.mem_of_getElem? (i := 5) rfl), zr_11 _ (List.mem_of_getElem? (i := 8) rfl), zr_1 _ (List.mem_of_getElem? (i := 15) rfl), by decide⟩, zr_11 _ (List.mem_of_getElem? (i := 6) rfl), zr_11 _ (List.mem_of_getElem? (i := 7) rfl)⟩
theorem cs_Jx4a65c_118 : zCS RJx4a65c 118 yJ15_checkIndex_7cf53 cJ15_checkIndex_7cf53 2 (some .int) 2 := ⟨⟨zr_11 _ (List.mem_of_getElem? (i := 9) rfl), zr_11 _ (List.mem_of_getElem? (i := 12) rfl), zr_11 _ (List.mem_of_getElem? (i := 11) rfl), by decide⟩, zr_11 _ (List.mem_of_getElem? (i := 10) rfl)⟩
theorem cs_J15_105 : zCS RJ15 105 yJ3_checkIndex_8e157 cJ3_checkIndex_8e157 3 (some .int) 3 := ⟨⟨zr_11 _ (List.mem_of_getElem? (i := 13) rfl), zr_11 _ (List.mem_of_getElem? (i := 16) rfl), zr_11 _ (List.mem_of_getElem? (i := 15) rfl), by decide⟩, zr_11 _ (List.mem_of_getElem? (i := 14) rfl)⟩
theorem cv_Jx4a65c_123 : zCV RJx4a65c 123 yJx4a65c_elementData_915e3 cJx4a65c_elementData_915e3 2 (some (.object "java/lang/Object")) 1 := ⟨⟨zr_11 _ (List.mem_of_getElem? (i := 17) rfl), zr_11 _ (List.mem_of_getElem? (i := 20) rfl), zr_1 _ (List.mem_of_getElem? (i := 15) rfl), by decide⟩, zr_11 _ (List.mem_of_getElem? (i := 18) rfl), zr_11 _ (List.mem_of_getElem? (i := 19) rfl)⟩
theorem cv_L_115 : zCV RL 115 yX7_addStep cX7_addStep 5 (some .int) 3 := ⟨⟨zr_11 _ (List.mem_of_getElem? (i := 21) rfl), zr_12 _ (List.mem_of_getElem? (i := 0) rfl), zr_1 _ (List.mem_of_getElem? (i := 5) rfl), by decide⟩, zr_11 _ (List.mem_of_getElem? (i := 22) rfl), zr_11 _ (List.mem_of_getElem? (i := 23) rfl)⟩
theorem cv_X7_84 : zCV RX7 84 yX7_isService cX7_isService 2 (some .boolean) 1 := ⟨⟨zr_12 _ (List.mem_of_getElem? (i := 1) rfl), zr_12 _ (List.mem_of_getElem? (i := 4) rfl), zr_1 _ (List.mem_of_getElem? (i := 5) rfl), by decide⟩, zr_12 _ (List.mem_of_getElem? (i := 2) rfl), zr_12 _ (List.mem_of_getElem? (i := 3) rfl)⟩
theorem cv_L_26 : zCV RL 26 yX6_addUsual cX6_addUsual 3 (some .int) 1 := ⟨⟨zr_12 _ (List.mem_of_getElem? (i := 8) rfl), zr_12 _ (List.mem_of_getElem? (i := 11) rfl), zr_1 _ (List.mem_of_getElem? (i := 2) rfl), by decide⟩, zr_12 _ (List.mem_of_getElem? (i := 9) rfl), zr_12 _ (List.mem_of_getElem? (i := 10) rfl)⟩
theorem cs_X6_116 : zCS RX6 116 yX6_appendUsualSteps cX6_appendUsualSteps 2 none 2 := ⟨⟨zr_12 _ (List.mem_of_getElem? (i := 12) rfl), zr_12 _ (List.mem_of_getElem? (i := 14) rfl), zr_1 _ (List.mem_of_getElem? (i := 2) rfl), by decide⟩, zr_12 _ (List.mem_of_getElem? (i := 13) rfl)⟩
theorem cv_L_119 : zCV RL 119 yX7_addUsual cX7_addUsual 2 (some .int) 1 := ⟨⟨zr_12 _ (List.mem_of_getElem? (i := 15) rfl), zr_12 _ (List.mem_of_getElem? (i := 18) rfl), zr_1 _ (List.mem_of_getElem? (i := 5) rfl), by decide⟩, zr_12 _ (List.mem_of_getElem? (i := 16) rfl), zr_12 _ (List.mem_of_getElem? (i := 17) rfl)⟩
theorem cv_L_30 : zCV RL 30 yX6_book cX6_book 3 (some .int) 2 := ⟨⟨zr_12 _ (List.mem_of_getElem? (i := 23) rfl), zr_13 _ (List.mem_of_getElem? (i := 2) rfl), zr_1 _ (List.mem_of_getElem? (i := 2) rfl), by decide⟩, zr_13 _ (List.mem_of_getElem? (i := 0) rfl), zr_13 _ (List.mem_of_getElem? (i := 1) rfl)⟩
theorem cs_X6_120 : zCS RX6 120 yX6_requireMinute cX6_requireMinute 1 none 1 := ⟨⟨zr_13 _ (List.mem_of_getElem? (i := 3) rfl), zr_13 _ (List.mem_of_getElem? (i := 5) rfl), zr_1 _ (List.mem_of_getElem? (i := 2) rfl), by decide⟩, zr_13 _ (List.mem_of_getElem? (i := 4) rfl)⟩
theorem cv_X6_123 : zCV RX6 123 yX6_requireRoomForVisit cX6_requireRoomForVisit 1 none 0 := ⟨⟨zr_13 _ (List.mem_of_getElem? (i := 6) rfl), zr_13 _ (List.mem_of_getElem? (i := 9) rfl), zr_1 _ (List.mem_of_getElem? (i := 2) rfl), by decide⟩, zr_13 _ (List.mem_of_getElem? (i := 7) rfl), zr_13 _ (List.mem_of_getElem? (i := 8) rfl)⟩
theorem cv_X6_126 : zCV RX6 126 yX6_bookFirst cX6_bookFirst 5 (some .int) 3 := ⟨⟨zr_13 _ (List.mem_of_getElem? (i := 10) rfl), zr_13 _ (List.mem_of_getElem? (i := 13) rfl), zr_1 _ (List.mem_of_getElem? (i := 2) rfl), by decide⟩, zr_13 _ (List.mem_of_getElem? (i := 11) rfl), zr_13 _ (List.mem_of_getElem? (i := 12) rfl)⟩
theorem cv_X6_155 : zCV RX6 155 yX6_firstStart cX6_firstStart 5 (some .int) 3 := ⟨⟨zr_13 _ (List.mem_of_getElem? (i := 16) rfl), zr_13 _ (List.mem_of_getElem? (i := 19) rfl), zr_1 _ (List.mem_of_getElem? (i := 2) rfl), by decide⟩, zr_13 _ (List.mem_of_getElem? (i := 17) rfl), zr_13 _ (List.mem_of_getElem? (i := 18) rfl)⟩
theorem cv_X6_286 : zCV RX6 286 yX6_gatherCandidates cX6_gatherCandidates 5 none 2 := ⟨⟨zr_13 _ (List.mem_of_getElem? (i := 21) rfl), zr_14 _ (List.mem_of_getElem? (i := 0) rfl), zr_1 _ (List.mem_of_getElem? (i := 2) rfl), by decide⟩, zr_13 _ (List.mem_of_getElem? (i := 22) rfl), zr_13 _ (List.mem_of_getElem? (i := 23) rfl)⟩
theorem cv_X6_296 : zCV RX6 296 yX2_clear cX2_clear 2 none 0 := ⟨⟨zr_14 _ (List.mem_of_getElem? (i := 6) rfl), zr_14 _ (List.mem_of_getElem? (i := 9) rfl), zr_2 _ (List.mem_of_getElem? (i := 2) rfl), by decide⟩, zr_14 _ (List.mem_of_getElem? (i := 7) rfl), zr_14 _ (List.mem_of_getElem? (i := 8) rfl)⟩
theorem cv_X6_299 : zCV RX6 299 yX2_add cX2_add 2 none 1 := ⟨⟨zr_14 _ (List.mem_of_getElem? (i := 10) rfl), zr_14 _ (List.mem_of_getElem? (i := 13) rfl), zr_2 _ (List.mem_of_getElem? (i := 2) rfl), by decide⟩, zr_14 _ (List.mem_of_getElem? (i := 11) rfl), zr_14 _ (List.mem_of_getElem? (i := 12) rfl)⟩
theorem cv_X6_249 : zCV RX6 249 yX5_isDropped cX5_isDropped 1 (some .boolean) 0 := ⟨⟨zr_14 _ (List.mem_of_getElem? (i := 14) rfl), zr_14 _ (List.mem_of_getElem? (i := 18) rfl), zr_14 _ (List.mem_of_getElem? (i := 17) rfl), by decide⟩, zr_14 _ (List.mem_of_getElem? (i := 15) rfl), zr_14 _ (List.mem_of_getElem? (i := 16) rfl)⟩
theorem cv_X6_304 : zCV RX6 304 yX6_addStartsBehindSteps cX6_addStartsBehindSteps 6 none 2 := ⟨⟨zr_14 _ (List.mem_of_getElem? (i := 20) rfl), zr_14 _ (List.mem_of_getElem? (i := 23) rfl), zr_1 _ (List.mem_of_getElem? (i := 2) rfl), by decide⟩, zr_14 _ (List.mem_of_getElem? (i := 21) rfl), zr_14 _ (List.mem_of_getElem? (i := 22) rfl)⟩
theorem cv_X6_227 : zCV RX6 227 yX4_stepTo cX4_stepTo 2 (some .int) 1 := ⟨⟨zr_15 _ (List.mem_of_getElem? (i := 0) rfl), zr_15 _ (List.mem_of_getElem? (i := 3) rfl), zr_9 _ (List.mem_of_getElem? (i := 10) rfl), by decide⟩, zr_15 _ (List.mem_of_getElem? (i := 1) rfl), zr_15 _ (List.mem_of_getElem? (i := 2) rfl)⟩
theorem cv_X6_221 : zCV RX6 221 yX4_isRest cX4_isRest 2 (some .boolean) 1 := ⟨⟨zr_15 _ (List.mem_of_getElem? (i := 4) rfl), zr_15 _ (List.mem_of_getElem? (i := 7) rfl), zr_9 _ (List.mem_of_getElem? (i := 10) rfl), by decide⟩, zr_15 _ (List.mem_of_getElem? (i := 5) rfl), zr_15 _ (List.mem_of_getElem? (i := 6) rfl)⟩
theorem cv_X6_224 : zCV RX6 224 yX4_stepFrom cX4_stepFrom 2 (some .int) 1 := ⟨⟨zr_15 _ (List.mem_of_getElem? (i := 8) rfl), zr_15 _ (List.mem_of_getElem? (i := 11) rfl), zr_9 _ (List.mem_of_getElem? (i := 10) rfl), by decide⟩, zr_15 _ (List.mem_of_getElem? (i := 9) rfl), zr_15 _ (List.mem_of_getElem? (i := 10) rfl)⟩
theorem cv_X6_289 : zCV RX6 289 yX2_has cX2_has 2 (some .boolean) 1 := ⟨⟨zr_15 _ (List.mem_of_getElem? (i := 12) rfl), zr_15 _ (List.mem_of_getElem? (i := 15) rfl), zr_2 _ (List.mem_of_getElem? (i := 2) rfl), by decide⟩, zr_15 _ (List.mem_of_getElem? (i := 13) rfl), zr_15 _ (List.mem_of_getElem? (i := 14) rfl)⟩
theorem cv_X6_292 : zCV RX6 292 yX6_hasRoom cX6_hasRoom 4 (some .boolean) 3 := ⟨⟨zr_15 _ (List.mem_of_getElem? (i := 16) rfl), zr_15 _ (List.mem_of_getElem? (i := 19) rfl), zr_1 _ (List.mem_of_getElem? (i := 2) rfl), by decide⟩, zr_15 _ (List.mem_of_getElem? (i := 17) rfl), zr_15 _ (List.mem_of_getElem? (i := 18) rfl)⟩
theorem cv_X6_270 : zCV RX6 270 yX6_chairFor cX6_chairFor 4 (some .int) 2 := ⟨⟨zr_15 _ (List.mem_of_getElem? (i := 20) rfl), zr_15 _ (List.mem_of_getElem? (i := 23) rfl), zr_1 _ (List.mem_of_getElem? (i := 2) rfl), by decide⟩, zr_15 _ (List.mem_of_getElem? (i := 21) rfl), zr_15 _ (List.mem_of_getElem? (i := 22) rfl)⟩
theorem cv_X6_312 : zCV RX6 312 yX0_isFree cX0_isFree 3 (some .boolean) 2 := ⟨⟨zr_16 _ (List.mem_of_getElem? (i := 0) rfl), zr_16 _ (List.mem_of_getElem? (i := 3) rfl), zr_1 _ (List.mem_of_getElem? (i := 23) rfl), by decide⟩, zr_16 _ (List.mem_of_getElem? (i := 1) rfl), zr_16 _ (List.mem_of_getElem? (i := 2) rfl)⟩
theorem cv_X6_218 : zCV RX6 218 yX6_memberFor cX6_memberFor 8 (some .int) 3 := ⟨⟨zr_16 _ (List.mem_of_getElem? (i := 4) rfl), zr_16 _ (List.mem_of_getElem? (i := 7) rfl), zr_1 _ (List.mem_of_getElem? (i := 2) rfl), by decide⟩, zr_16 _ (List.mem_of_getElem? (i := 5) rfl), zr_16 _ (List.mem_of_getElem? (i := 6) rfl)⟩
theorem cv_X6_308 : zCV RX6 308 yX1_canTake cX1_canTake 6 (some .boolean) 2 := ⟨⟨zr_16 _ (List.mem_of_getElem? (i := 8) rfl), zr_16 _ (List.mem_of_getElem? (i := 11) rfl), zr_4 _ (List.mem_of_getElem? (i := 18) rfl), by decide⟩, zr_16 _ (List.mem_of_getElem? (i := 9) rfl), zr_16 _ (List.mem_of_getElem? (i := 10) rfl)⟩
theorem cv_X1_35 : zCV RX1 35 yX4_stepFrom cX4_stepFrom 2 (some .int) 1 := ⟨⟨zr_16 _ (List.mem_of_getElem? (i := 15) rfl), zr_15 _ (List.mem_of_getElem? (i := 11) rfl), zr_9 _ (List.mem_of_getElem? (i := 10) rfl), by decide⟩, zr_15 _ (List.mem_of_getElem? (i := 9) rfl), zr_15 _ (List.mem_of_getElem? (i := 10) rfl)⟩
theorem cv_X1_39 : zCV RX1 39 yX4_stepTo cX4_stepTo 2 (some .int) 1 := ⟨⟨zr_16 _ (List.mem_of_getElem? (i := 16) rfl), zr_15 _ (List.mem_of_getElem? (i := 3) rfl), zr_9 _ (List.mem_of_getElem? (i := 10) rfl), by decide⟩, zr_15 _ (List.mem_of_getElem? (i := 1) rfl), zr_15 _ (List.mem_of_getElem? (i := 2) rfl)⟩
theorem cv_X1_42 : zCV RX1 42 yX4_isRest cX4_isRest 2 (some .boolean) 1 := ⟨⟨zr_16 _ (List.mem_of_getElem? (i := 17) rfl), zr_15 _ (List.mem_of_getElem? (i := 7) rfl), zr_9 _ (List.mem_of_getElem? (i := 10) rfl), by decide⟩, zr_15 _ (List.mem_of_getElem? (i := 5) rfl), zr_15 _ (List.mem_of_getElem? (i := 6) rfl)⟩
theorem cv_X1_46 : zCV RX1 46 yX0_isFree cX0_isFree 3 (some .boolean) 2 := ⟨⟨zr_16 _ (List.mem_of_getElem? (i := 18) rfl), zr_16 _ (List.mem_of_getElem? (i := 3) rfl), zr_1 _ (List.mem_of_getElem? (i := 23) rfl), by decide⟩, zr_16 _ (List.mem_of_getElem? (i := 1) rfl), zr_16 _ (List.mem_of_getElem? (i := 2) rfl)⟩
theorem cv_X6_198 : zCV RX6 198 yX6_workBookedWith cX6_workBookedWith 5 (some .int) 1 := ⟨⟨zr_16 _ (List.mem_of_getElem? (i := 19) rfl), zr_16 _ (List.mem_of_getElem? (i := 22) rfl), zr_1 _ (List.mem_of_getElem? (i := 2) rfl), by decide⟩, zr_16 _ (List.mem_of_getElem? (i := 20) rfl), zr_16 _ (List.mem_of_getElem? (i := 21) rfl)⟩
theorem cv_X6_263 : zCV RX6 263 yX6_bookAt cX6_bookAt 5 (some .int) 3 := ⟨⟨zr_17 _ (List.mem_of_getElem? (i := 1) rfl), zr_17 _ (List.mem_of_getElem? (i := 4) rfl), zr_1 _ (List.mem_of_getElem? (i := 2) rfl), by decide⟩, zr_17 _ (List.mem_of_getElem? (i := 2) rfl), zr_17 _ (List.mem_of_getElem? (i := 3) rfl)⟩
theorem ci_X6_266 : zCI RX6 266 yX5_init cX5_init 3 2 := ⟨⟨zr_17 _ (List.mem_of_getElem? (i := 8) rfl), zr_17 _ (List.mem_of_getElem? (i := 10) rfl), zr_14 _ (List.mem_of_getElem? (i := 17) rfl), by decide⟩, rfl, zr_17 _ (List.mem_of_getElem? (i := 9) rfl)⟩
theorem cv_X6_167 : zCV RX6 167 yX6_putAt cX6_putAt 6 none 3 := ⟨⟨zr_17 _ (List.mem_of_getElem? (i := 16) rfl), zr_17 _ (List.mem_of_getElem? (i := 19) rfl), zr_1 _ (List.mem_of_getElem? (i := 2) rfl), by decide⟩, zr_17 _ (List.mem_of_getElem? (i := 17) rfl), zr_17 _ (List.mem_of_getElem? (i := 18) rfl)⟩
theorem cv_X6_158 : zCV RX6 158 yX6_put cX6_put 5 none 4 := ⟨⟨zr_17 _ (List.mem_of_getElem? (i := 20) rfl), zr_17 _ (List.mem_of_getElem? (i := 23) rfl), zr_1 _ (List.mem_of_getElem? (i := 2) rfl), by decide⟩, zr_17 _ (List.mem_of_getElem? (i := 21) rfl), zr_17 _ (List.mem_of_getElem? (i := 22) rfl)⟩
theorem cv_X6_274 : zCV RX6 274 yX6_write cX6_write 8 none 2 := ⟨⟨zr_18 _ (List.mem_of_getElem? (i := 1) rfl), zr_18 _ (List.mem_of_getElem? (i := 4) rfl), zr_1 _ (List.mem_of_getElem? (i := 2) rfl), by decide⟩, zr_18 _ (List.mem_of_getElem? (i := 2) rfl), zr_18 _ (List.mem_of_getElem? (i := 3) rfl)⟩
theorem cv_X6_242 : zCV RX6 242 yX6_isMember cX6_isMember 2 (some .boolean) 1 := ⟨⟨zr_18 _ (List.mem_of_getElem? (i := 6) rfl), zr_18 _ (List.mem_of_getElem? (i := 9) rfl), zr_1 _ (List.mem_of_getElem? (i := 2) rfl), by decide⟩, zr_18 _ (List.mem_of_getElem? (i := 7) rfl), zr_18 _ (List.mem_of_getElem? (i := 8) rfl)⟩
theorem cs_X6_209 : zCS RX6 209 yX6_isChair cX6_isChair 1 (some .boolean) 1 := ⟨⟨zr_18 _ (List.mem_of_getElem? (i := 10) rfl), zr_18 _ (List.mem_of_getElem? (i := 12) rfl), zr_1 _ (List.mem_of_getElem? (i := 2) rfl), by decide⟩, zr_18 _ (List.mem_of_getElem? (i := 11) rfl)⟩
theorem cv_X6_278 : zCV RX6 278 yX0_write cX0_write 5 none 3 := ⟨⟨zr_18 _ (List.mem_of_getElem? (i := 13) rfl), zr_18 _ (List.mem_of_getElem? (i := 16) rfl), zr_1 _ (List.mem_of_getElem? (i := 23) rfl), by decide⟩, zr_18 _ (List.mem_of_getElem? (i := 14) rfl), zr_18 _ (List.mem_of_getElem? (i := 15) rfl)⟩
theorem cv_L_122 : zCV RL 122 yX7_book cX7_book 5 (some .int) 2 := ⟨⟨zr_18 _ (List.mem_of_getElem? (i := 17) rfl), zr_18 _ (List.mem_of_getElem? (i := 20) rfl), zr_1 _ (List.mem_of_getElem? (i := 5) rfl), by decide⟩, zr_18 _ (List.mem_of_getElem? (i := 18) rfl), zr_18 _ (List.mem_of_getElem? (i := 19) rfl)⟩
theorem cs_X7_124 : zCS RX7 124 yX7_isMinute cX7_isMinute 1 (some .boolean) 1 := ⟨⟨zr_18 _ (List.mem_of_getElem? (i := 22) rfl), zr_19 _ (List.mem_of_getElem? (i := 0) rfl), zr_1 _ (List.mem_of_getElem? (i := 5) rfl), by decide⟩, zr_18 _ (List.mem_of_getElem? (i := 23) rfl)⟩
theorem cv_X7_127 : zCV RX7 127 yX7_find cX7_find 5 (some .int) 3 := ⟨⟨zr_19 _ (List.mem_of_getElem? (i := 1) rfl), zr_19 _ (List.mem_of_getElem? (i := 4) rfl), zr_1 _ (List.mem_of_getElem? (i := 5) rfl), by decide⟩, zr_19 _ (List.mem_of_getElem? (i := 2) rfl), zr_19 _ (List.mem_of_getElem? (i := 3) rfl)⟩
theorem cv_X7_87 : zCV RX7 87 yX7_length cX7_length 4 (some .int) 1 := ⟨⟨zr_19 _ (List.mem_of_getElem? (i := 7) rfl), zr_19 _ (List.mem_of_getElem? (i := 10) rfl), zr_1 _ (List.mem_of_getElem? (i := 5) rfl), by decide⟩, zr_19 _ (List.mem_of_getElem? (i := 8) rfl), zr_19 _ (List.mem_of_getElem? (i := 9) rfl)⟩
theorem cv_X7_103 : zCV RX7 103 yX7_takerOf cX7_takerOf 7 (some .int) 3 := ⟨⟨zr_19 _ (List.mem_of_getElem? (i := 11) rfl), zr_19 _ (List.mem_of_getElem? (i := 14) rfl), zr_1 _ (List.mem_of_getElem? (i := 5) rfl), by decide⟩, zr_19 _ (List.mem_of_getElem? (i := 12) rfl), zr_19 _ (List.mem_of_getElem? (i := 13) rfl)⟩
theorem cv_X7_97 : zCV RX7 97 yX7_canTake cX7_canTake 9 (some .boolean) 3 := ⟨⟨zr_19 _ (List.mem_of_getElem? (i := 15) rfl), zr_19 _ (List.mem_of_getElem? (i := 18) rfl), zr_1 _ (List.mem_of_getElem? (i := 5) rfl), by decide⟩, zr_19 _ (List.mem_of_getElem? (i := 16) rfl), zr_19 _ (List.mem_of_getElem? (i := 17) rfl)⟩
theorem cv_X7_91 : zCV RX7 91 yX7_asked cX7_asked 5 (some .int) 1 := ⟨⟨zr_19 _ (List.mem_of_getElem? (i := 19) rfl), zr_19 _ (List.mem_of_getElem? (i := 22) rfl), zr_1 _ (List.mem_of_getElem? (i := 5) rfl), by decide⟩, zr_19 _ (List.mem_of_getElem? (i := 20) rfl), zr_19 _ (List.mem_of_getElem? (i := 21) rfl)⟩
theorem cv_X7_100 : zCV RX7 100 yX7_load cX7_load 4 (some .int) 1 := ⟨⟨zr_19 _ (List.mem_of_getElem? (i := 23) rfl), zr_20 _ (List.mem_of_getElem? (i := 2) rfl), zr_1 _ (List.mem_of_getElem? (i := 5) rfl), by decide⟩, zr_20 _ (List.mem_of_getElem? (i := 0) rfl), zr_20 _ (List.mem_of_getElem? (i := 1) rfl)⟩
theorem cv_X7_94 : zCV RX7 94 yX7_work cX7_work 4 (some .int) 1 := ⟨⟨zr_20 _ (List.mem_of_getElem? (i := 3) rfl), zr_20 _ (List.mem_of_getElem? (i := 6) rfl), zr_1 _ (List.mem_of_getElem? (i := 5) rfl), by decide⟩, zr_20 _ (List.mem_of_getElem? (i := 4) rfl), zr_20 _ (List.mem_of_getElem? (i := 5) rfl)⟩
theorem cv_X7_110 : zCV RX7 110 yX7_chairFor cX7_chairFor 7 (some .int) 2 := ⟨⟨zr_20 _ (List.mem_of_getElem? (i := 7) rfl), zr_20 _ (List.mem_of_getElem? (i := 10) rfl), zr_1 _ (List.mem_of_getElem? (i := 5) rfl), by decide⟩, zr_20 _ (List.mem_of_getElem? (i := 8) rfl), zr_20 _ (List.mem_of_getElem? (i := 9) rfl)⟩
theorem cv_X7_130 : zCV RX7 130 yX7_books cX7_books 3 (some .int) 2 := ⟨⟨zr_20 _ (List.mem_of_getElem? (i := 11) rfl), zr_20 _ (List.mem_of_getElem? (i := 14) rfl), zr_1 _ (List.mem_of_getElem? (i := 5) rfl), by decide⟩, zr_20 _ (List.mem_of_getElem? (i := 12) rfl), zr_20 _ (List.mem_of_getElem? (i := 13) rfl)⟩
theorem cv_X7_121 : zCV RX7 121 yX7_lays cX7_lays 4 none 3 := ⟨⟨zr_20 _ (List.mem_of_getElem? (i := 15) rfl), zr_20 _ (List.mem_of_getElem? (i := 18) rfl), zr_1 _ (List.mem_of_getElem? (i := 5) rfl), by decide⟩, zr_20 _ (List.mem_of_getElem? (i := 16) rfl), zr_20 _ (List.mem_of_getElem? (i := 17) rfl)⟩
theorem cv_X7_117 : zCV RX7 117 yX7_marks cX7_marks 7 none 2 := ⟨⟨zr_20 _ (List.mem_of_getElem? (i := 19) rfl), zr_20 _ (List.mem_of_getElem? (i := 22) rfl), zr_1 _ (List.mem_of_getElem? (i := 5) rfl), by decide⟩, zr_20 _ (List.mem_of_getElem? (i := 20) rfl), zr_20 _ (List.mem_of_getElem? (i := 21) rfl)⟩
theorem cv_L_35 : zCV RL 35 yX6_bookWith cX6_bookWith 4 (some .int) 3 := ⟨⟨zr_21 _ (List.mem_of_getElem? (i := 2) rfl), zr_21 _ (List.mem_of_getElem? (i := 5) rfl), zr_1 _ (List.mem_of_getElem? (i := 2) rfl), by decide⟩, zr_21 _ (List.mem_of_getElem? (i := 3) rfl), zr_21 _ (List.mem_of_getElem? (i := 4) rfl)⟩
theorem cv_X6_130 : zCV RX6 130 yX6_requireMember cX6_requireMember 2 none 1 := ⟨⟨zr_21 _ (List.mem_of_getElem? (i := 6) rfl), zr_21 _ (List.mem_of_getElem? (i := 9) rfl), zr_1 _ (List.mem_of_getElem? (i := 2) rfl), by decide⟩, zr_21 _ (List.mem_of_getElem? (i := 7) rfl), zr_21 _ (List.mem_of_getElem? (i := 8) rfl)⟩
theorem cv_L_125 : zCV RL 125 yX7_bookWith cX7_bookWith 6 (some .int) 3 := ⟨⟨zr_21 _ (List.mem_of_getElem? (i := 10) rfl), zr_21 _ (List.mem_of_getElem? (i := 13) rfl), zr_1 _ (List.mem_of_getElem? (i := 5) rfl), by decide⟩, zr_21 _ (List.mem_of_getElem? (i := 11) rfl), zr_21 _ (List.mem_of_getElem? (i := 12) rfl)⟩
theorem cv_X7_133 : zCV RX7 133 yX7_isStaff cX7_isStaff 2 (some .boolean) 1 := ⟨⟨zr_21 _ (List.mem_of_getElem? (i := 14) rfl), zr_21 _ (List.mem_of_getElem? (i := 17) rfl), zr_1 _ (List.mem_of_getElem? (i := 5) rfl), by decide⟩, zr_21 _ (List.mem_of_getElem? (i := 15) rfl), zr_21 _ (List.mem_of_getElem? (i := 16) rfl)⟩
theorem cv_L_38 : zCV RL 38 yX6_move cX6_move 8 (some .int) 2 := ⟨⟨zr_21 _ (List.mem_of_getElem? (i := 21) rfl), zr_22 _ (List.mem_of_getElem? (i := 0) rfl), zr_1 _ (List.mem_of_getElem? (i := 2) rfl), by decide⟩, zr_21 _ (List.mem_of_getElem? (i := 22) rfl), zr_21 _ (List.mem_of_getElem? (i := 23) rfl)⟩
theorem cv_X6_133 : zCV RX6 133 yX6_requireUndropped cX6_requireUndropped 2 none 1 := ⟨⟨zr_22 _ (List.mem_of_getElem? (i := 1) rfl), zr_22 _ (List.mem_of_getElem? (i := 4) rfl), zr_1 _ (List.mem_of_getElem? (i := 2) rfl), by decide⟩, zr_22 _ (List.mem_of_getElem? (i := 2) rfl), zr_22 _ (List.mem_of_getElem? (i := 3) rfl)⟩
theorem cv_X6_195 : zCV RX6 195 yX6_requireVisit cX6_requireVisit 2 none 1 := ⟨⟨zr_22 _ (List.mem_of_getElem? (i := 5) rfl), zr_22 _ (List.mem_of_getElem? (i := 8) rfl), zr_1 _ (List.mem_of_getElem? (i := 2) rfl), by decide⟩, zr_22 _ (List.mem_of_getElem? (i := 6) rfl), zr_22 _ (List.mem_of_getElem? (i := 7) rfl)⟩
theorem cv_X6_147 : zCV RX6 147 yX6_takeOut cX6_takeOut 2 none 1 := ⟨⟨zr_22 _ (List.mem_of_getElem? (i := 9) rfl), zr_22 _ (List.mem_of_getElem? (i := 12) rfl), zr_1 _ (List.mem_of_getElem? (i := 2) rfl), by decide⟩, zr_22 _ (List.mem_of_getElem? (i := 10) rfl), zr_22 _ (List.mem_of_getElem? (i := 11) rfl)⟩
theorem cv_X6_171 : zCV RX6 171 yX6_serveWaiting cX6_serveWaiting 8 (some .int) 0 := ⟨⟨zr_22 _ (List.mem_of_getElem? (i := 13) rfl), zr_22 _ (List.mem_of_getElem? (i := 16) rfl), zr_1 _ (List.mem_of_getElem? (i := 2) rfl), by decide⟩, zr_22 _ (List.mem_of_getElem? (i := 14) rfl), zr_22 _ (List.mem_of_getElem? (i := 15) rfl)⟩
theorem cv_X6_283 : zCV RX6 283 yJx4a65c_remove_915e3 cJx4a65c_remove_915e3 4 (some (.object "java/lang/Object")) 1 := ⟨⟨zr_22 _ (List.mem_of_getElem? (i := 20) rfl), zr_22 _ (List.mem_of_getElem? (i := 23) rfl), zr_1 _ (List.mem_of_getElem? (i := 15) rfl), by decide⟩, zr_22 _ (List.mem_of_getElem? (i := 21) rfl), zr_22 _ (List.mem_of_getElem? (i := 22) rfl)⟩
theorem cv_Jx4a65c_144 : zCV RJx4a65c 144 yJx4a65c_fastRemove_b59b0 cJx4a65c_fastRemove_b59b0 4 none 2 := ⟨⟨zr_23 _ (List.mem_of_getElem? (i := 0) rfl), zr_23 _ (List.mem_of_getElem? (i := 3) rfl), zr_1 _ (List.mem_of_getElem? (i := 15) rfl), by decide⟩, zr_23 _ (List.mem_of_getElem? (i := 1) rfl), zr_23 _ (List.mem_of_getElem? (i := 2) rfl)⟩
theorem cv_L_128 : zCV RL 128 yX7_move cX7_move 5 (some .int) 2 := ⟨⟨zr_23 _ (List.mem_of_getElem? (i := 5) rfl), zr_23 _ (List.mem_of_getElem? (i := 8) rfl), zr_1 _ (List.mem_of_getElem? (i := 5) rfl), by decide⟩, zr_23 _ (List.mem_of_getElem? (i := 6) rfl), zr_23 _ (List.mem_of_getElem? (i := 7) rfl)⟩
theorem cv_X7_139 : zCV RX7 139 yX7_isThere cX7_isThere 2 (some .boolean) 1 := ⟨⟨zr_23 _ (List.mem_of_getElem? (i := 9) rfl), zr_23 _ (List.mem_of_getElem? (i := 12) rfl), zr_1 _ (List.mem_of_getElem? (i := 5) rfl), by decide⟩, zr_23 _ (List.mem_of_getElem? (i := 10) rfl), zr_23 _ (List.mem_of_getElem? (i := 11) rfl)⟩
theorem cv_X7_73 : zCV RX7 73 yX7_isVisit cX7_isVisit 2 (some .boolean) 1 := ⟨⟨zr_23 _ (List.mem_of_getElem? (i := 13) rfl), zr_23 _ (List.mem_of_getElem? (i := 16) rfl), zr_1 _ (List.mem_of_getElem? (i := 5) rfl), by decide⟩, zr_23 _ (List.mem_of_getElem? (i := 14) rfl), zr_23 _ (List.mem_of_getElem? (i := 15) rfl)⟩
theorem cv_X7_142 : zCV RX7 142 yX7_serves cX7_serves 6 (some .int) 0 := ⟨⟨zr_23 _ (List.mem_of_getElem? (i := 17) rfl), zr_23 _ (List.mem_of_getElem? (i := 20) rfl), zr_1 _ (List.mem_of_getElem? (i := 5) rfl), by decide⟩, zr_23 _ (List.mem_of_getElem? (i := 18) rfl), zr_23 _ (List.mem_of_getElem? (i := 19) rfl)⟩
theorem cv_L_41 : zCV RL 41 yX6_drop cX6_drop 2 (some .int) 1 := ⟨⟨zr_24 _ (List.mem_of_getElem? (i := 1) rfl), zr_24 _ (List.mem_of_getElem? (i := 4) rfl), zr_1 _ (List.mem_of_getElem? (i := 2) rfl), by decide⟩, zr_24 _ (List.mem_of_getElem? (i := 2) rfl), zr_24 _ (List.mem_of_getElem? (i := 3) rfl)⟩
theorem cv_L_131 : zCV RL 131 yX7_drop cX7_drop 2 (some .int) 1 := ⟨⟨zr_24 _ (List.mem_of_getElem? (i := 5) rfl), zr_24 _ (List.mem_of_getElem? (i := 8) rfl), zr_1 _ (List.mem_of_getElem? (i := 5) rfl), by decide⟩, zr_24 _ (List.mem_of_getElem? (i := 6) rfl), zr_24 _ (List.mem_of_getElem? (i := 7) rfl)⟩
theorem cv_L_44 : zCV RL 44 yX6_request cX6_request 4 (some .int) 2 := ⟨⟨zr_24 _ (List.mem_of_getElem? (i := 12) rfl), zr_24 _ (List.mem_of_getElem? (i := 15) rfl), zr_1 _ (List.mem_of_getElem? (i := 2) rfl), by decide⟩, zr_24 _ (List.mem_of_getElem? (i := 13) rfl), zr_24 _ (List.mem_of_getElem? (i := 14) rfl)⟩
theorem ci_X6_178 : zCI RX6 178 yX3_init cX3_init 3 2 := ⟨⟨zr_24 _ (List.mem_of_getElem? (i := 19) rfl), zr_24 _ (List.mem_of_getElem? (i := 21) rfl), zr_24 _ (List.mem_of_getElem? (i := 18) rfl), by decide⟩, rfl, zr_24 _ (List.mem_of_getElem? (i := 20) rfl)⟩
theorem cv_L_134 : zCV RL 134 yX7_request cX7_request 3 (some .int) 2 := ⟨⟨zr_25 _ (List.mem_of_getElem? (i := 1) rfl), zr_25 _ (List.mem_of_getElem? (i := 4) rfl), zr_1 _ (List.mem_of_getElem? (i := 5) rfl), by decide⟩, zr_25 _ (List.mem_of_getElem? (i := 2) rfl), zr_25 _ (List.mem_of_getElem? (i := 3) rfl)⟩
theorem cv_L_135 : zCV RL 135 yX6_requests cX6_requests 1 (some .int) 0 := ⟨⟨zr_25 _ (List.mem_of_getElem? (i := 5) rfl), zr_25 _ (List.mem_of_getElem? (i := 8) rfl), zr_1 _ (List.mem_of_getElem? (i := 2) rfl), by decide⟩, zr_25 _ (List.mem_of_getElem? (i := 6) rfl), zr_25 _ (List.mem_of_getElem? (i := 7) rfl)⟩
theorem cv_L_138 : zCV RL 138 yX7_requests cX7_requests 1 (some .int) 0 := ⟨⟨zr_25 _ (List.mem_of_getElem? (i := 9) rfl), zr_25 _ (List.mem_of_getElem? (i := 12) rfl), zr_1 _ (List.mem_of_getElem? (i := 5) rfl), by decide⟩, zr_25 _ (List.mem_of_getElem? (i := 10) rfl), zr_25 _ (List.mem_of_getElem? (i := 11) rfl)⟩
theorem cv_L_47 : zCV RL 47 yX6_requestAt cX6_requestAt 2 (some .int) 1 := ⟨⟨zr_25 _ (List.mem_of_getElem? (i := 16) rfl), zr_25 _ (List.mem_of_getElem? (i := 19) rfl), zr_1 _ (List.mem_of_getElem? (i := 2) rfl), by decide⟩, zr_25 _ (List.mem_of_getElem? (i := 17) rfl), zr_25 _ (List.mem_of_getElem? (i := 18) rfl)⟩
theorem cv_L_141 : zCV RL 141 yX7_requestAt cX7_requestAt 2 (some .int) 1 := ⟨⟨zr_25 _ (List.mem_of_getElem? (i := 20) rfl), zr_25 _ (List.mem_of_getElem? (i := 23) rfl), zr_1 _ (List.mem_of_getElem? (i := 5) rfl), by decide⟩, zr_25 _ (List.mem_of_getElem? (i := 21) rfl), zr_25 _ (List.mem_of_getElem? (i := 22) rfl)⟩
theorem cv_L_50 : zCV RL 50 yX6_lengthOf cX6_lengthOf 2 (some .int) 1 := ⟨⟨zr_26 _ (List.mem_of_getElem? (i := 3) rfl), zr_26 _ (List.mem_of_getElem? (i := 6) rfl), zr_1 _ (List.mem_of_getElem? (i := 2) rfl), by decide⟩, zr_26 _ (List.mem_of_getElem? (i := 4) rfl), zr_26 _ (List.mem_of_getElem? (i := 5) rfl)⟩
theorem cv_L_144 : zCV RL 144 yX7_lengthOf cX7_lengthOf 2 (some .int) 1 := ⟨⟨zr_26 _ (List.mem_of_getElem? (i := 7) rfl), zr_26 _ (List.mem_of_getElem? (i := 10) rfl), zr_1 _ (List.mem_of_getElem? (i := 5) rfl), by decide⟩, zr_26 _ (List.mem_of_getElem? (i := 8) rfl), zr_26 _ (List.mem_of_getElem? (i := 9) rfl)⟩
theorem cv_L_53 : zCV RL 53 yX6_workOf cX6_workOf 2 (some .int) 1 := ⟨⟨zr_26 _ (List.mem_of_getElem? (i := 14) rfl), zr_26 _ (List.mem_of_getElem? (i := 17) rfl), zr_1 _ (List.mem_of_getElem? (i := 2) rfl), by decide⟩, zr_26 _ (List.mem_of_getElem? (i := 15) rfl), zr_26 _ (List.mem_of_getElem? (i := 16) rfl)⟩
theorem cv_L_147 : zCV RL 147 yX7_workOf cX7_workOf 2 (some .int) 1 := ⟨⟨zr_26 _ (List.mem_of_getElem? (i := 18) rfl), zr_26 _ (List.mem_of_getElem? (i := 21) rfl), zr_1 _ (List.mem_of_getElem? (i := 5) rfl), by decide⟩, zr_26 _ (List.mem_of_getElem? (i := 19) rfl), zr_26 _ (List.mem_of_getElem? (i := 20) rfl)⟩
theorem cv_L_56 : zCV RL 56 yX6_skillsOf cX6_skillsOf 2 (some .int) 1 := ⟨⟨zr_27 _ (List.mem_of_getElem? (i := 1) rfl), zr_27 _ (List.mem_of_getElem? (i := 4) rfl), zr_1 _ (List.mem_of_getElem? (i := 2) rfl), by decide⟩, zr_27 _ (List.mem_of_getElem? (i := 2) rfl), zr_27 _ (List.mem_of_getElem? (i := 3) rfl)⟩
theorem cv_L_150 : zCV RL 150 yX7_skillsOf cX7_skillsOf 2 (some .int) 1 := ⟨⟨zr_27 _ (List.mem_of_getElem? (i := 6) rfl), zr_27 _ (List.mem_of_getElem? (i := 9) rfl), zr_1 _ (List.mem_of_getElem? (i := 5) rfl), by decide⟩, zr_27 _ (List.mem_of_getElem? (i := 7) rfl), zr_27 _ (List.mem_of_getElem? (i := 8) rfl)⟩
theorem cv_L_151 : zCV RL 151 yX6_visits cX6_visits 1 (some .int) 0 := ⟨⟨zr_27 _ (List.mem_of_getElem? (i := 10) rfl), zr_27 _ (List.mem_of_getElem? (i := 13) rfl), zr_1 _ (List.mem_of_getElem? (i := 2) rfl), by decide⟩, zr_27 _ (List.mem_of_getElem? (i := 11) rfl), zr_27 _ (List.mem_of_getElem? (i := 12) rfl)⟩
theorem cv_L_154 : zCV RL 154 yX7_visits cX7_visits 1 (some .int) 0 := ⟨⟨zr_27 _ (List.mem_of_getElem? (i := 14) rfl), zr_27 _ (List.mem_of_getElem? (i := 17) rfl), zr_1 _ (List.mem_of_getElem? (i := 5) rfl), by decide⟩, zr_27 _ (List.mem_of_getElem? (i := 15) rfl), zr_27 _ (List.mem_of_getElem? (i := 16) rfl)⟩
theorem cv_L_59 : zCV RL 59 yX6_startOf cX6_startOf 2 (some .int) 1 := ⟨⟨zr_27 _ (List.mem_of_getElem? (i := 21) rfl), zr_28 _ (List.mem_of_getElem? (i := 0) rfl), zr_1 _ (List.mem_of_getElem? (i := 2) rfl), by decide⟩, zr_27 _ (List.mem_of_getElem? (i := 22) rfl), zr_27 _ (List.mem_of_getElem? (i := 23) rfl)⟩
theorem cv_L_157 : zCV RL 157 yX7_startOf cX7_startOf 2 (some .int) 1 := ⟨⟨zr_28 _ (List.mem_of_getElem? (i := 1) rfl), zr_28 _ (List.mem_of_getElem? (i := 4) rfl), zr_1 _ (List.mem_of_getElem? (i := 5) rfl), by decide⟩, zr_28 _ (List.mem_of_getElem? (i := 2) rfl), zr_28 _ (List.mem_of_getElem? (i := 3) rfl)⟩
theorem cv_L_62 : zCV RL 62 yX6_staffOf cX6_staffOf 2 (some .int) 1 := ⟨⟨zr_28 _ (List.mem_of_getElem? (i := 8) rfl), zr_28 _ (List.mem_of_getElem? (i := 11) rfl), zr_1 _ (List.mem_of_getElem? (i := 2) rfl), by decide⟩, zr_28 _ (List.mem_of_getElem? (i := 9) rfl), zr_28 _ (List.mem_of_getElem? (i := 10) rfl)⟩
theorem cv_L_160 : zCV RL 160 yX7_staffOf cX7_staffOf 2 (some .int) 1 := ⟨⟨zr_28 _ (List.mem_of_getElem? (i := 12) rfl), zr_28 _ (List.mem_of_getElem? (i := 15) rfl), zr_1 _ (List.mem_of_getElem? (i := 5) rfl), by decide⟩, zr_28 _ (List.mem_of_getElem? (i := 13) rfl), zr_28 _ (List.mem_of_getElem? (i := 14) rfl)⟩
theorem cv_L_65 : zCV RL 65 yX6_chairOf cX6_chairOf 2 (some .int) 1 := ⟨⟨zr_28 _ (List.mem_of_getElem? (i := 19) rfl), zr_28 _ (List.mem_of_getElem? (i := 22) rfl), zr_1 _ (List.mem_of_getElem? (i := 2) rfl), by decide⟩, zr_28 _ (List.mem_of_getElem? (i := 20) rfl), zr_28 _ (List.mem_of_getElem? (i := 21) rfl)⟩
theorem cv_L_163 : zCV RL 163 yX7_chairOf cX7_chairOf 2 (some .int) 1 := ⟨⟨zr_28 _ (List.mem_of_getElem? (i := 23) rfl), zr_29 _ (List.mem_of_getElem? (i := 2) rfl), zr_1 _ (List.mem_of_getElem? (i := 5) rfl), by decide⟩, zr_29 _ (List.mem_of_getElem? (i := 0) rfl), zr_29 _ (List.mem_of_getElem? (i := 1) rfl)⟩
theorem cv_L_68 : zCV RL 68 yX6_serviceOf cX6_serviceOf 2 (some .int) 1 := ⟨⟨zr_29 _ (List.mem_of_getElem? (i := 6) rfl), zr_29 _ (List.mem_of_getElem? (i := 9) rfl), zr_1 _ (List.mem_of_getElem? (i := 2) rfl), by decide⟩, zr_29 _ (List.mem_of_getElem? (i := 7) rfl), zr_29 _ (List.mem_of_getElem? (i := 8) rfl)⟩
theorem cv_L_166 : zCV RL 166 yX7_serviceOf cX7_serviceOf 2 (some .int) 1 := ⟨⟨zr_29 _ (List.mem_of_getElem? (i := 10) rfl), zr_29 _ (List.mem_of_getElem? (i := 13) rfl), zr_1 _ (List.mem_of_getElem? (i := 5) rfl), by decide⟩, zr_29 _ (List.mem_of_getElem? (i := 11) rfl), zr_29 _ (List.mem_of_getElem? (i := 12) rfl)⟩
theorem cv_L_71 : zCV RL 71 yX6_loadOf cX6_loadOf 2 (some .int) 1 := ⟨⟨zr_29 _ (List.mem_of_getElem? (i := 17) rfl), zr_29 _ (List.mem_of_getElem? (i := 20) rfl), zr_1 _ (List.mem_of_getElem? (i := 2) rfl), by decide⟩, zr_29 _ (List.mem_of_getElem? (i := 18) rfl), zr_29 _ (List.mem_of_getElem? (i := 19) rfl)⟩
theorem cv_L_169 : zCV RL 169 yX7_loadOf cX7_loadOf 2 (some .int) 1 := ⟨⟨zr_29 _ (List.mem_of_getElem? (i := 21) rfl), zr_30 _ (List.mem_of_getElem? (i := 0) rfl), zr_1 _ (List.mem_of_getElem? (i := 5) rfl), by decide⟩, zr_29 _ (List.mem_of_getElem? (i := 22) rfl), zr_29 _ (List.mem_of_getElem? (i := 23) rfl)⟩
theorem cv_L_74 : zCV RL 74 yX6_staffAt cX6_staffAt 3 (some .int) 2 := ⟨⟨zr_30 _ (List.mem_of_getElem? (i := 4) rfl), zr_30 _ (List.mem_of_getElem? (i := 7) rfl), zr_1 _ (List.mem_of_getElem? (i := 2) rfl), by decide⟩, zr_30 _ (List.mem_of_getElem? (i := 5) rfl), zr_30 _ (List.mem_of_getElem? (i := 6) rfl)⟩
theorem cv_X6_206 : zCV RX6 206 yX0_at cX0_at 2 (some .int) 1 := ⟨⟨zr_30 _ (List.mem_of_getElem? (i := 8) rfl), zr_30 _ (List.mem_of_getElem? (i := 11) rfl), zr_1 _ (List.mem_of_getElem? (i := 23) rfl), by decide⟩, zr_30 _ (List.mem_of_getElem? (i := 9) rfl), zr_30 _ (List.mem_of_getElem? (i := 10) rfl)⟩
theorem cv_L_172 : zCV RL 172 yX7_staffAt cX7_staffAt 3 (some .int) 2 := ⟨⟨zr_30 _ (List.mem_of_getElem? (i := 12) rfl), zr_30 _ (List.mem_of_getElem? (i := 15) rfl), zr_1 _ (List.mem_of_getElem? (i := 5) rfl), by decide⟩, zr_30 _ (List.mem_of_getElem? (i := 13) rfl), zr_30 _ (List.mem_of_getElem? (i := 14) rfl)⟩
theorem cv_L_77 : zCV RL 77 yX6_chairAt cX6_chairAt 3 (some .int) 2 := ⟨⟨zr_30 _ (List.mem_of_getElem? (i := 19) rfl), zr_30 _ (List.mem_of_getElem? (i := 22) rfl), zr_1 _ (List.mem_of_getElem? (i := 2) rfl), by decide⟩, zr_30 _ (List.mem_of_getElem? (i := 20) rfl), zr_30 _ (List.mem_of_getElem? (i := 21) rfl)⟩
theorem cv_L_175 : zCV RL 175 yX7_chairAt cX7_chairAt 3 (some .int) 2 := ⟨⟨zr_30 _ (List.mem_of_getElem? (i := 23) rfl), zr_31 _ (List.mem_of_getElem? (i := 2) rfl), zr_1 _ (List.mem_of_getElem? (i := 5) rfl), by decide⟩, zr_31 _ (List.mem_of_getElem? (i := 0) rfl), zr_31 _ (List.mem_of_getElem? (i := 1) rfl)⟩
theorem cv_L_80 : zCV RL 80 yX6_earliest cX6_earliest 3 (some .int) 2 := ⟨⟨zr_31 _ (List.mem_of_getElem? (i := 6) rfl), zr_31 _ (List.mem_of_getElem? (i := 9) rfl), zr_1 _ (List.mem_of_getElem? (i := 2) rfl), by decide⟩, zr_31 _ (List.mem_of_getElem? (i := 7) rfl), zr_31 _ (List.mem_of_getElem? (i := 8) rfl)⟩
theorem cv_L_178 : zCV RL 178 yX7_earliest cX7_earliest 3 (some .int) 2 := ⟨⟨zr_31 _ (List.mem_of_getElem? (i := 10) rfl), zr_31 _ (List.mem_of_getElem? (i := 13) rfl), zr_1 _ (List.mem_of_getElem? (i := 5) rfl), by decide⟩, zr_31 _ (List.mem_of_getElem? (i := 11) rfl), zr_31 _ (List.mem_of_getElem? (i := 12) rfl)⟩
theorem cv_L_83 : zCV RL 83 yX6_earliestByScan cX6_earliestByScan 3 (some .int) 2 := ⟨⟨zr_31 _ (List.mem_of_getElem? (i := 17) rfl), zr_31 _ (List.mem_of_getElem? (i := 20) rfl), zr_1 _ (List.mem_of_getElem? (i := 2) rfl), by decide⟩, zr_31 _ (List.mem_of_getElem? (i := 18) rfl), zr_31 _ (List.mem_of_getElem? (i := 19) rfl)⟩
theorem cv_X6_214 : zCV RX6 214 yX6_firstStartByScan cX6_firstStartByScan 6 (some .int) 4 := ⟨⟨zr_31 _ (List.mem_of_getElem? (i := 21) rfl), zr_32 _ (List.mem_of_getElem? (i := 0) rfl), zr_1 _ (List.mem_of_getElem? (i := 2) rfl), by decide⟩, zr_31 _ (List.mem_of_getElem? (i := 22) rfl), zr_31 _ (List.mem_of_getElem? (i := 23) rfl)⟩
theorem cv_L_181 : zCV RL 181 yX7_earliestByScan cX7_earliestByScan 3 (some .int) 2 := ⟨⟨zr_32 _ (List.mem_of_getElem? (i := 1) rfl), zr_32 _ (List.mem_of_getElem? (i := 4) rfl), zr_1 _ (List.mem_of_getElem? (i := 5) rfl), by decide⟩, zr_32 _ (List.mem_of_getElem? (i := 2) rfl), zr_32 _ (List.mem_of_getElem? (i := 3) rfl)⟩
theorem cv_X7_146 : zCV RX7 146 yX7_earliest cX7_earliest 3 (some .int) 2 := ⟨⟨zr_32 _ (List.mem_of_getElem? (i := 5) rfl), zr_31 _ (List.mem_of_getElem? (i := 13) rfl), zr_1 _ (List.mem_of_getElem? (i := 5) rfl), by decide⟩, zr_31 _ (List.mem_of_getElem? (i := 11) rfl), zr_31 _ (List.mem_of_getElem? (i := 12) rfl)⟩
theorem cv_L_86 : zCV RL 86 yX6_staffFor cX6_staffFor 5 (some .int) 2 := ⟨⟨zr_32 _ (List.mem_of_getElem? (i := 9) rfl), zr_32 _ (List.mem_of_getElem? (i := 12) rfl), zr_1 _ (List.mem_of_getElem? (i := 2) rfl), by decide⟩, zr_32 _ (List.mem_of_getElem? (i := 10) rfl), zr_32 _ (List.mem_of_getElem? (i := 11) rfl)⟩
theorem cv_L_184 : zCV RL 184 yX7_staffFor cX7_staffFor 3 (some .int) 2 := ⟨⟨zr_32 _ (List.mem_of_getElem? (i := 13) rfl), zr_32 _ (List.mem_of_getElem? (i := 16) rfl), zr_1 _ (List.mem_of_getElem? (i := 5) rfl), by decide⟩, zr_32 _ (List.mem_of_getElem? (i := 14) rfl), zr_32 _ (List.mem_of_getElem? (i := 15) rfl)⟩
theorem cv_L_89 : zCV RL 89 yX6_inRest cX6_inRest 9 (some .int) 2 := ⟨⟨zr_32 _ (List.mem_of_getElem? (i := 20) rfl), zr_32 _ (List.mem_of_getElem? (i := 23) rfl), zr_1 _ (List.mem_of_getElem? (i := 2) rfl), by decide⟩, zr_32 _ (List.mem_of_getElem? (i := 21) rfl), zr_32 _ (List.mem_of_getElem? (i := 22) rfl)⟩
theorem cv_L_187 : zCV RL 187 yX7_inRest cX7_inRest 8 (some .int) 2 := ⟨⟨zr_33 _ (List.mem_of_getElem? (i := 0) rfl), zr_33 _ (List.mem_of_getElem? (i := 3) rfl), zr_1 _ (List.mem_of_getElem? (i := 5) rfl), by decide⟩, zr_33 _ (List.mem_of_getElem? (i := 1) rfl), zr_33 _ (List.mem_of_getElem? (i := 2) rfl)⟩
theorem cv_L_92 : zCV RL 92 yX6_fill cX6_fill 7 (some .int) 1 := ⟨⟨zr_33 _ (List.mem_of_getElem? (i := 7) rfl), zr_33 _ (List.mem_of_getElem? (i := 10) rfl), zr_1 _ (List.mem_of_getElem? (i := 2) rfl), by decide⟩, zr_33 _ (List.mem_of_getElem? (i := 8) rfl), zr_33 _ (List.mem_of_getElem? (i := 9) rfl)⟩
theorem cv_X6_232 : zCV RX6 232 yX6_lengthOfAll cX6_lengthOfAll 4 (some .int) 1 := ⟨⟨zr_33 _ (List.mem_of_getElem? (i := 11) rfl), zr_33 _ (List.mem_of_getElem? (i := 14) rfl), zr_1 _ (List.mem_of_getElem? (i := 2) rfl), by decide⟩, zr_33 _ (List.mem_of_getElem? (i := 12) rfl), zr_33 _ (List.mem_of_getElem? (i := 13) rfl)⟩
theorem cv_L_190 : zCV RL 190 yX7_fill cX7_fill 7 (some .int) 1 := ⟨⟨zr_33 _ (List.mem_of_getElem? (i := 15) rfl), zr_33 _ (List.mem_of_getElem? (i := 18) rfl), zr_1 _ (List.mem_of_getElem? (i := 5) rfl), by decide⟩, zr_33 _ (List.mem_of_getElem? (i := 16) rfl), zr_33 _ (List.mem_of_getElem? (i := 17) rfl)⟩
theorem cv_L_191 : zCV RL 191 yX6_peak cX6_peak 5 (some .int) 0 := ⟨⟨zr_33 _ (List.mem_of_getElem? (i := 19) rfl), zr_33 _ (List.mem_of_getElem? (i := 22) rfl), zr_1 _ (List.mem_of_getElem? (i := 2) rfl), by decide⟩, zr_33 _ (List.mem_of_getElem? (i := 20) rfl), zr_33 _ (List.mem_of_getElem? (i := 21) rfl)⟩
theorem cv_X6_235 : zCV RX6 235 yX6_chairsTakenAt cX6_chairsTakenAt 4 (some .int) 1 := ⟨⟨zr_33 _ (List.mem_of_getElem? (i := 23) rfl), zr_34 _ (List.mem_of_getElem? (i := 2) rfl), zr_1 _ (List.mem_of_getElem? (i := 2) rfl), by decide⟩, zr_34 _ (List.mem_of_getElem? (i := 0) rfl), zr_34 _ (List.mem_of_getElem? (i := 1) rfl)⟩
theorem cv_L_194 : zCV RL 194 yX7_peak cX7_peak 6 (some .int) 0 := ⟨⟨zr_34 _ (List.mem_of_getElem? (i := 3) rfl), zr_34 _ (List.mem_of_getElem? (i := 6) rfl), zr_1 _ (List.mem_of_getElem? (i := 5) rfl), by decide⟩, zr_34 _ (List.mem_of_getElem? (i := 4) rfl), zr_34 _ (List.mem_of_getElem? (i := 5) rfl)⟩
theorem zq_isMinute : Cond.code yX6_isMinute cX6_isMinute 1 (some .boolean) ∈ wsL_law ∧ Cond.initialized yX6_isMinute.cls ∈ wsL_law ∧ Cond.static yX6_isMinute ∈ wsL_law := ⟨zr_4 _ (List.mem_of_getElem? (i := 21) rfl), zr_1 _ (List.mem_of_getElem? (i := 2) rfl), zr_4 _ (List.mem_of_getElem? (i := 20) rfl)⟩
theorem zq_MS : Cond.code yX2_init cX2_init 1 none ∈ wsL_law ∧ Cond.initialized yX2_init.cls ∈ wsL_law ∧ yX2_init.name = "<init>" ∧ Cond.instanceMethod yX2_init ∈ wsL_law := ⟨zr_3 _ (List.mem_of_getElem? (i := 3) rfl), zr_2 _ (List.mem_of_getElem? (i := 2) rfl), rfl, zr_3 _ (List.mem_of_getElem? (i := 2) rfl)⟩
end
section
/-! ===== the state: what the book holds, as numbers; and the heap that holds it ===== -/
/-- field, place, second place. 0 members, 1 skills, 2 from, 3 to; 4 services, 5 steps, 6 a step's skill, 7 its minutes, 8 used; 9 visits, 10 service, 11 member, 12 chair, 13 start (-1: dropped); 14 requests, 15 service, 16 latest; 17 the request's number, 18 how many were ever made, 19 service, 20 latest of the request so numbered; 21 the visit of a day's minute (days 0 to 3 chairs, 4 on members); 22 candidates; 23 found member, 24 found chair, 25 thrown -/
abbrev zS : Type := Nat → Nat → Nat → Int
def zsu (s : zS) (f i j : Nat) (v : Int) : zS := fun g a b => if g = f ∧ a = i ∧ b = j then v else s g a b
theorem zsu_s (s : zS) (f i j : Nat) (v : Int) : zsu s f i j v f i j = v := if_pos ⟨rfl, rfl, rfl⟩
theorem zsu_n {s : zS} {f i j g a b : Nat} {v : Int} (h : ¬ (g = f ∧ a = i ∧ b = j)) : zsu s f i j v g a b = s g a b := if_neg h
def zsm (f : Nat → Int) : Nat → Int
  | 0 => 0
  | n + 1 => zsm f n + f n
theorem zsm_cong {f g : Nat → Int} : ∀ {n : Nat}, (∀ k, k < n → f k = g k) → zsm f n = zsm g n
  | 0, _ => rfl
  | n + 1, h => by rw [zsm, zsm, zsm_cong (fun k hk => h k (by omega)), h n (by omega)]
/-- minutes of the steps ahead of step k -/
def zOff (s : zS) (a k : Nat) : Int := zsm (s 7 a) k
def zSc (s : zS) (a : Nat) : Nat := (s 5 a 0).toNat
def zLen (s : zS) (a : Nat) : Int := zOff s a (zSc s a)
def zWork (s : zS) (a : Nat) : Int := zsm (fun k => if s 6 a k = -1 then 0 else s 7 a k) (zSc s a)
def zAskN (s : zS) (a : Nat) : Nat → Nat
  | 0 => 0
  | k + 1 => zAskN s a k ||| (if s 6 a k = -1 then 0 else 2 ^ (s 6 a k).toNat)
def zAsk (s : zS) (a : Nat) : Int := (zAskN s a (zSc s a) : Nat)
/-- how many minutes of a day before m are taken -/
def zTk (f : Nat → Int) : Nat → Int
  | 0 => 0
  | m + 1 => zTk f m + if f m = -1 then 0 else 1
def zCap : Nat → Nat
  | 0 => 10
  | 1 => 15
  | 2 => 22
  | _ => 33
/-- which array of the visits' list stands -/
def zVer (n : Int) : Nat := if n ≤ 10 then 0 else if n ≤ 15 then 1 else if n ≤ 22 then 2 else 3
/-- the least count at which the v-th array of the visits' list has been made -/
def zMin : Nat → Int
  | 0 => 1
  | 1 => 11
  | 2 => 16
  | _ => 23
def zDat (s : zS) : Nat → Nat
  | 0 => if s 0 0 0 = 0 then zE else 2
  | 1 => if s 4 0 0 = 0 then zE else 66
  | 2 => if s 9 0 0 = 0 then zE else 256 * zVer (s 9 0 0) + 130
  | _ => if s 18 0 0 = 0 then zE else 194
/-- the class's part of the heap: kind, number -/
def zCls (s : zS) (kd i : Nat) : Option zO := match kd with
  | 0 => if i = 0 then some (zOb 7 [.ref 1, .ref 65, .ref 129, .ref 193, .ref 3, .ref 4]) else none
  | 1 => if i = 0 then some (zOb 0 [.int (zI (s 0 0 0)), .ref (zDat s 0), .int (zI (s 0 0 0))]) else if i = 1 then some (zOb 0 [.int (zI (s 4 0 0)), .ref (zDat s 1), .int (zI (s 4 0 0))]) else if i = 2 then some (zOb 0 [.int (zI (s 9 0 0)), .ref (zDat s 2), .int (zI (s 9 0 0))]) else if i = 3 then some (zOb 0 [.int (zI (2 * s 18 0 0 - s 14 0 0)), .ref (zDat s 3), .int (zI (s 14 0 0))]) else none
  | 2 => if i % 4 = 0 then (if i = 0 ∧ 0 < s 0 0 0 then some (zAr 4 10 (fun j => if (j : Int) < s 0 0 0 then some (64 * j + 9) else none)) else none)
    else if i % 4 = 1 then (if i = 1 ∧ 0 < s 4 0 0 then some (zAr 4 10 (fun j => if (j : Int) < s 4 0 0 then some (64 * j + 10) else none)) else none)
    else if i % 4 = 2 then (if i / 4 ≤ 3 ∧ zMin (i / 4) ≤ s 9 0 0 then some (zAr 4 (zCap (i / 4)) (fun j => if (j : Int) < s 9 0 0 then some (64 * j + 14) else none)) else none)
    else (if i = 3 ∧ 0 < s 18 0 0 then some (zAr 4 10 (fun j => if (j : Int) < s 14 0 0 then some (64 * (s 17 j 0).toNat + 15) else none)) else none)
  | 3 => if i = 0 then some (zAr 3 4 (fun j => some (64 * j + 6))) else none
  | 4 => if i = 0 then some (zOb 3 [.ref 5]) else none
  | 5 => if i = 0 then some (zAi 1 600 (fun m => s 22 m 0)) else none
  | 6 => if (i : Int) < 4 + s 0 0 0 then some (zOb 1 [.ref (64 * i + 7), .ref (64 * i + 8)]) else none
  | 7 => if (i : Int) < 4 + s 0 0 0 then some (zAi 0 600 (s 21 i)) else none
  | 8 => if (i : Int) < 4 + s 0 0 0 then some (zAi 0 601 (zTk (s 21 i))) else none
  | 9 => if (i : Int) < s 0 0 0 then some (zOb 2 [.int (zI (s 1 i 0)), .int (zI (s 2 i 0)), .int (zI (s 3 i 0)), .ref (64 * (i + 4) + 6)]) else none
  | 10 => if (i : Int) < s 4 0 0 then some (zOb 5 [.int (zI i), .ref (64 * i + 11), .ref (64 * i + 12), .ref (64 * i + 13), .int (zI (s 5 i 0)), .int (zI (zLen s i)), .int (zI (zWork s i)), .int (zI (zAsk s i)), .int (zI (s 8 i 0))]) else none
  | 11 => if (i : Int) < s 4 0 0 then some (zAi 0 5 (fun k => if (k : Int) < s 5 i 0 then s 6 i k else 0)) else none
  | 12 => if (i : Int) < s 4 0 0 then some (zAi 0 5 (fun k => if (k : Int) < s 5 i 0 then zOff s i k else 0)) else none
  | 13 => if (i : Int) < s 4 0 0 then some (zAi 0 5 (fun k => if (k : Int) < s 5 i 0 then zOff s i (k + 1) else 0)) else none
  | 14 => if (i : Int) < s 9 0 0 then some (zOb 6 [.int (zI i), .ref (64 * (s 10 i 0).toNat + 10), .int (zI (if s 13 i 0 = -1 then -1 else s 11 i 0)), .int (zI (if s 13 i 0 = -1 then -1 else s 12 i 0)), .int (zI (s 13 i 0))]) else none
  | 15 => if (i : Int) < s 18 0 0 then some (zOb 4 [.ref (64 * (s 19 i 0).toNat + 10), .int (zI (s 20 i 0))]) else none
  | _ => none
/-- the model's part -/
def zMod (s : zS) (kd i : Nat) : Option zO := if i ≠ 0 then none else match kd with
  | 16 => some (zOb 8 [.ref 17, .ref 18, .ref 19, .int (zI (s 0 0 0)), .ref 20, .ref 21, .ref 22, .ref 23, .int (zI (s 4 0 0)), .ref 24, .ref 25, .ref 26, .ref 27, .int (zI (s 9 0 0)), .ref 28, .ref 29, .ref 30, .ref 31, .int (zI (s 14 0 0)), .int (zI (s 23 0 0)), .int (zI (s 24 0 0)), .int (zI (s 25 0 0))])
  | 17 => some (zAi 0 5 (fun j => s 1 j 0))
  | 18 => some (zAi 0 5 (fun j => s 2 j 0))
  | 19 => some (zAi 0 5 (fun j => s 3 j 0))
  | 20 => some (zAi 0 40 (fun j => s 6 (j / 5) (j % 5)))
  | 21 => some (zAi 0 40 (fun j => s 7 (j / 5) (j % 5)))
  | 22 => some (zAi 0 8 (fun j => s 5 j 0))
  | 23 => some (zAi 1 8 (fun j => s 8 j 0))
  | 24 => some (zAi 0 30 (fun j => s 10 j 0))
  | 25 => some (zAi 0 30 (fun j => s 11 j 0))
  | 26 => some (zAi 0 30 (fun j => s 12 j 0))
  | 27 => some (zAi 0 30 (fun j => s 13 j 0))
  | 28 => some (zAi 0 3000 (fun j => s 21 (j / 600 + 4) (j % 600)))
  | 29 => some (zAi 0 2400 (fun j => s 21 (j / 600) (j % 600)))
  | 30 => some (zAi 0 6 (fun j => s 15 j 0))
  | 31 => some (zAi 0 6 (fun j => s 16 j 0))
  | _ => none
/-- the heap: the class's part of s, the model's part of t, the law's cell o -/
def zAll (s t : zS) (o : Int) : zM := fun a => if a % 64 < 16 then zCls s (a % 64) (a / 64) else if a % 64 = 33 then (if a / 64 = 0 then some (zAi 2 1 (fun _ => o)) else none) else zMod t (a % 64) (a / 64)
theorem zAll_c {s t : zS} {o : Int} {kd i : Nat} (h : kd < 16) : zAll s t o (64 * i + kd) = zCls s kd i := by
  have h1 : (64 * i + kd) % 64 = kd := by omega
  have h2 : (64 * i + kd) / 64 = i := by omega
  simp only [zAll, h1, h2, if_pos h]
theorem zAll_0 (s t : zS) (o : Int) : zAll s t o 0 = some (zOb 7 [.ref 1, .ref 65, .ref 129, .ref 193, .ref 3, .ref 4]) := rfl
theorem zAll_1 (s t : zS) (o : Int) : zAll s t o 1 = some (zOb 0 [.int (zI (s 0 0 0)), .ref (zDat s 0), .int (zI (s 0 0 0))]) := rfl
theorem zAll_65 (s t : zS) (o : Int) : zAll s t o 65 = some (zOb 0 [.int (zI (s 4 0 0)), .ref (zDat s 1), .int (zI (s 4 0 0))]) := rfl
theorem zAll_129 (s t : zS) (o : Int) : zAll s t o 129 = some (zOb 0 [.int (zI (s 9 0 0)), .ref (zDat s 2), .int (zI (s 9 0 0))]) := rfl
theorem zAll_193 (s t : zS) (o : Int) : zAll s t o 193 = some (zOb 0 [.int (zI (2 * s 18 0 0 - s 14 0 0)), .ref (zDat s 3), .int (zI (s 14 0 0))]) := rfl
theorem zAll_3 (s t : zS) (o : Int) : zAll s t o 3 = some (zAr 3 4 (fun j => some (64 * j + 6))) := rfl
theorem zAll_4 (s t : zS) (o : Int) : zAll s t o 4 = some (zOb 3 [.ref 5]) := rfl
theorem zAll_5 (s t : zS) (o : Int) : zAll s t o 5 = some (zAi 1 600 (fun m => s 22 m 0)) := rfl
theorem zAll_33 (s t : zS) (o : Int) : zAll s t o 33 = some (zAi 2 1 (fun _ => o)) := rfl
theorem zAll_d6 {s : zS} (t : zS) (o : Int) {i : Nat} (h : (i : Int) < 4 + s 0 0 0) : zAll s t o (64 * i + 6) = some (zOb 1 [.ref (64 * i + 7), .ref (64 * i + 8)]) := (zAll_c (by decide)).trans (if_pos h)
theorem zAll_d7 {s : zS} (t : zS) (o : Int) {i : Nat} (h : (i : Int) < 4 + s 0 0 0) : zAll s t o (64 * i + 7) = some (zAi 0 600 (s 21 i)) := (zAll_c (by decide)).trans (if_pos h)
theorem zAll_d8 {s : zS} (t : zS) (o : Int) {i : Nat} (h : (i : Int) < 4 + s 0 0 0) : zAll s t o (64 * i + 8) = some (zAi 0 601 (zTk (s 21 i))) := (zAll_c (by decide)).trans (if_pos h)
theorem zAll_m {s : zS} (t : zS) (o : Int) {i : Nat} (h : (i : Int) < s 0 0 0) : zAll s t o (64 * i + 9) = some (zOb 2 [.int (zI (s 1 i 0)), .int (zI (s 2 i 0)), .int (zI (s 3 i 0)), .ref (64 * (i + 4) + 6)]) := (zAll_c (by decide)).trans (if_pos h)
theorem zAll_s {s : zS} (t : zS) (o : Int) {i : Nat} (h : (i : Int) < s 4 0 0) : zAll s t o (64 * i + 10) = some (zOb 5 [.int (zI i), .ref (64 * i + 11), .ref (64 * i + 12), .ref (64 * i + 13), .int (zI (s 5 i 0)), .int (zI (zLen s i)), .int (zI (zWork s i)), .int (zI (zAsk s i)), .int (zI (s 8 i 0))]) := (zAll_c (by decide)).trans (if_pos h)
theorem zAll_s1 {s : zS} (t : zS) (o : Int) {i : Nat} (h : (i : Int) < s 4 0 0) : zAll s t o (64 * i + 11) = some (zAi 0 5 (fun k => if (k : Int) < s 5 i 0 then s 6 i k else 0)) := (zAll_c (by decide)).trans (if_pos h)
theorem zAll_s2 {s : zS} (t : zS) (o : Int) {i : Nat} (h : (i : Int) < s 4 0 0) : zAll s t o (64 * i + 12) = some (zAi 0 5 (fun k => if (k : Int) < s 5 i 0 then zOff s i k else 0)) := (zAll_c (by decide)).trans (if_pos h)
theorem zAll_s3 {s : zS} (t : zS) (o : Int) {i : Nat} (h : (i : Int) < s 4 0 0) : zAll s t o (64 * i + 13) = some (zAi 0 5 (fun k => if (k : Int) < s 5 i 0 then zOff s i (k + 1) else 0)) := (zAll_c (by decide)).trans (if_pos h)
theorem zAll_v {s : zS} (t : zS) (o : Int) {i : Nat} (h : (i : Int) < s 9 0 0) : zAll s t o (64 * i + 14) = some (zOb 6 [.int (zI i), .ref (64 * (s 10 i 0).toNat + 10), .int (zI (if s 13 i 0 = -1 then -1 else s 11 i 0)), .int (zI (if s 13 i 0 = -1 then -1 else s 12 i 0)), .int (zI (s 13 i 0))]) := (zAll_c (by decide)).trans (if_pos h)
theorem zAll_q {s : zS} (t : zS) (o : Int) {i : Nat} (h : (i : Int) < s 18 0 0) : zAll s t o (64 * i + 15) = some (zOb 4 [.ref (64 * (s 19 i 0).toNat + 10), .int (zI (s 20 i 0))]) := (zAll_c (by decide)).trans (if_pos h)
end
section
/-! ===== further rules ===== -/
theorem zu_zu (M : zM) (t : Nat) (o o' : zO) : zu (zu M t o) t o' = zu M t o' := by
  funext q
  simp only [zu]
  split <;> rfl
theorem zu_id {M : zM} {t : Nat} {o : zO} (h : M t = some o) : zu M t o = M := by
  funext q
  simp only [zu]
  split
  · rename_i e; rw [e, h]
  · rfl
theorem zu_cm {M : zM} {t u : Nat} {o o' : zO} (h : t ≠ u) : zu (zu M t o) u o' = zu (zu M u o') t o := by
  funext q
  simp only [zu]
  split
  · rename_i e; rw [if_neg (by rw [e]; exact Ne.symm h)]
  · rfl
/-- two heaps that agree but at one place -/
theorem zu_ext {M M' : zM} {t : Nat} {o : zO} (h1 : M' t = some o) (h2 : ∀ q, q ≠ t → M' q = M q) : zu M t o = M' := by
  funext q
  simp only [zu]
  split
  · rename_i e; rw [e, h1]
  · rename_i e; exact (h2 q e).symm
section ZM
variable {k : zC} {G : zG} {R : Room} {nL : Nat} {Q : State → Prop} {M : zM} {cl sl pc : Nat} {lv : List (Nat × Value)} {st : List Value} {cc : ByteArray} {own : String} {ret : Option FieldType} {tb : List ExceptionTableEntry} {Rc Rc' : Option Value → zM → Prop} {Xc Xc' : String → zM → Prop}
theorem arrV_ext {c : ClassId} {n : Nat} {f g : Nat → Value} (h : ∀ j, j < n → f j = g j) : arrV c n f = arrV c n g := by
  have e : (Array.ofFn (n := n) fun j => f j.val) = Array.ofFn (n := n) fun j => g j.val := congrArg Array.ofFn (funext fun j => h j.val j.isLt)
  show ({ cls := c, slots := Array.ofFn (n := n) fun j => f j.val, vm := .none } : Cell) = { cls := c, slots := Array.ofFn (n := n) fun j => g j.val, vm := .none }
  rw [e]
theorem zRep_ext {L : Nat → Nat} {H : Heap} {t : Nat} {o o' : zO} (hm : M t = some o) (ho : zoo M o') (hat : ∀ q : Nat, va_at G.1 vwCl (q, zme G L o) H → va_at G.1 vwCl (q, zme G L o') H) (hR : zRep G L M H) : zRep G L (zu M t o') H := by
  obtain ⟨e1, hz, hi, ws, hP, hD, hw⟩ := id hR
  obtain ⟨j, hj⟩ := hw t _ hm
  have hP1 : va_P G.1 vwCl (ws.set j (L t, zme G L o')) H := hP.set hD hj (hat _ (hP j _ hj)) (fun _ _ => rfl)
  exact zRep_set hm ho hR hD hw hj hP1 (hD.set hj)
/-- what an array holds beyond its end is free -/
theorem z_ext {t n kd : Nat} {f : Nat → Int} (f' : Nat → Int) (hm : M t = some (zAi kd n f)) (h : ∀ j, j < n → f j = f' j) (kk : zJ k G R nL Q (zu M t (zAi kd n f')) cl sl pc lv st) : zJ k G R nL Q M cl sl pc lv st := by
  intro L H locs ls hR hA hv hs hS hl
  refine kk L H locs ls (zRep_ext hm trivial (fun q hq => ?_) hR) (zAg_u hA) (fun q hq => zok_u (hv q hq)) (fun v hv => zok_u (hs v hv)) hS hl
  by_cases e : kd = 2
  · have e2 : ∀ g : Nat → Int, zme G L (zAi kd n g) = .inl (G.2.1 kd, n, .inr (.inl (fun j => zL (g j)))) := fun g => if_pos e
    rw [e2] at hq ⊢
    show H[q]? = some (vp_cell _ _)
    rw [show H[q]? = some (vp_cell _ _) from hq, vp_cell_l, vp_cell_l]
    exact congrArg some (arrV_ext fun j hj => by rw [h j hj])
  · have e2 : ∀ g : Nat → Int, zme G L (zAi kd n g) = .inl (G.2.1 kd, n, .inl (fun j => zI (g j))) := fun g => if_neg e
    rw [e2] at hq ⊢
    show H[q]? = some (vp_cell _ _)
    rw [show H[q]? = some (vp_cell _ _) from hq, vp_cell_i, vp_cell_i]
    exact congrArg some (arrV_ext fun j hj => by rw [h j hj])
theorem z_extr {t n kd : Nat} {f : Nat → Option Nat} (f' : Nat → Option Nat) (hm : M t = some (zAr kd n f)) (h : ∀ j, j < n → f j = f' j) (h0 : ∀ j, n ≤ j → f' j = none) (kk : zJ k G R nL Q (zu M t (zAr kd n f')) cl sl pc lv st) : zJ k G R nL Q M cl sl pc lv st := by
  intro L H locs ls hR hA hv hs hS hl
  refine kk L H locs ls (zRep_ext hm (fun j a e => ?_) (fun q hq => ?_) hR) (zAg_u hA) (fun q hq => zok_u (hv q hq)) (fun v hv => zok_u (hs v hv)) hS hl
  · rcases Nat.lt_or_ge j n with hj | hj
    · exact hR.2.1 t _ hm j a ((h j hj).trans e)
    · rw [h0 j hj] at e; cases e
  · show H[q]? = some (vp_cell _ _)
    rw [show H[q]? = some (vp_cell _ _) from hq, vp_cell_q, vp_cell_q]
    exact congrArg some (arrV_ext fun j hj => by rw [h j hj])
/-- a cast to the object's own class -/
theorem z_cast (F : zF k G cc nL own wsL_law ret tb) {t ci N index : Nat} {C : String} {T : u_T} {fs : List Value} (hw9 : Cond.classLink own index C ∈ wsL_law) (hm : M t = some (zOb ci fs)) (hc : vwCl[ci]? = some (C, T, N)) (d : decode cc pc = .ok (.checkcast index, 3)) (kk : zJ k G R nL Q M (cl) (sl) (pc + 3) lv (.ref t :: st)) : zJ k G R nL Q M (cl) (sl) (pc) lv (.ref t :: st) := by
  obtain ⟨⟨p, l, e, s, m⟩, ⟨args, below, meth, c⟩, L0, M0⟩ := k
  obtain ⟨⟨hx, hb, hml, hown, hts⟩, hLow, hfl, hlk, hrt, htb⟩ := F
  intro L H locs ls hR hA hv hs hS hl
  obtain ⟨cell, g1, g2, g3⟩ := z_recv hR hLow.1 hm hc
  have hat := (hLow.1.1 ci _ hc).2
  intro T9 hT X
  obtain ⟨vm', X', stp⟩ := X.checkcastYes hx hown (hts _ hw9) (by rw [hT]; exact g1) g2 g3 (va_assign (s := s) ⟨g3, by have e9 := Option.some.inj (hat.1.symm.trans g3); rw [← e9]; exact hat.2⟩) (g := F0 m pc ls ((Value.ref t :: st).map (zmr L))) rfl rfl (by rw [hb]; exact d)
  obtain ⟨t9, a1, b1⟩ := kk L H locs ls hR hA hv hs hS hl (T9.setVm vm') hT X'
  exact ⟨t9, stp t9 a1, b1⟩
/-- the empty array that every list begins with -/
theorem z_gets (F : zF k G cc nL own wsL_law ret tb) {index : Nat} (hown9 : own = RJx4a65c) (hw9 : Cond.fieldLink own index "java/util/ArrayList" "DEFAULTCAPACITY_EMPTY_ELEMENTDATA" "[Ljava/lang/Object;" ∈ wsL_law) (d : decode cc pc = .ok (.getstatic index, 3)) (kk : zJ k G R nL Q M (cl) (sl) (pc + 3) lv (.ref 63 :: st)) : zJ k G R nL Q M (cl) (sl) (pc) lv (st) := by
  obtain ⟨⟨p, l, e, s, m⟩, ⟨args, below, meth, c⟩, L0, M0⟩ := k
  obtain ⟨⟨hx, hb, hml, hown, hts⟩, hLow, hfl, hlk, hrt, htb⟩ := F
  intro L H locs ls hR hA hv hs hS hl
  obtain ⟨e1, hz, hi, ws, hP, hD, hw⟩ := id hR
  refine va_gets hx hb hLow.2.2.2.1 hS hown (hts _ hw9) (fun _ h => h) d ?_
  have key := kk L H locs ls hR hA hv (zs_r (Or.inr rfl) hs) hS hl
  rw [List.map_cons, show zmr L (.ref 63) = .ref (G.2.2.2 63) from congrArg Value.ref (e1 63 rfl).1] at key
  exact key
/-! ===== lists of numbers: a stretch written over ===== -/
def zfil (f : Nat → Int) (a b : Int) (v : Int) : Nat → Int := fun j => if a ≤ (j : Int) ∧ (j : Int) < b then v else f j
theorem zfil_0 (f : Nat → Int) {a b : Int} (v : Int) (h : b ≤ a) : zfil f a b v = f := by
  funext j
  exact if_neg (by omega)
theorem zfil_s (f : Nat → Int) {a i : Int} (v : Int) (h0 : 0 ≤ i) (h : a ≤ i) : zup (zfil f a i v) i.toNat v = zfil f a (i + 1) v := by
  funext j
  simp only [zup, zfil]
  by_cases e : j = i.toNat
  · rw [if_pos e, if_pos (by omega)]
  · rw [if_neg e]
    by_cases e2 : a ≤ (j : Int) ∧ (j : Int) < i
    · rw [if_pos e2, if_pos (by omega)]
    · rw [if_neg e2, if_neg (by omega)]
theorem zTk_cong {f g : Nat → Int} : ∀ {m : Nat}, (∀ j, j < m → f j = g j) → zTk f m = zTk g m
  | 0, _ => rfl
  | m + 1, h => by rw [zTk, zTk, zTk_cong (fun j hj => h j (by omega)), h m (by omega)]
theorem zTk_r (f : Nat → Int) : ∀ m, 0 ≤ zTk f m ∧ zTk f m ≤ m
  | 0 => ⟨by simp [zTk], by simp [zTk]⟩
  | m + 1 => by
    have ih := zTk_r f m
    rw [zTk]
    constructor <;> split <;> omega
theorem zTk_mono (f : Nat → Int) (a : Nat) : ∀ b, zTk f a ≤ zTk f (a + b)
  | 0 => Int.le_refl _
  | b + 1 => by
    have ih := zTk_mono f a b
    rw [← Nat.add_assoc, zTk]
    split <;> omega
/-- nothing is taken in a stretch iff the counts at its ends are the same -/
theorem zTk_free (f : Nat → Int) (a : Nat) : ∀ b, zTk f a = zTk f (a + b) ↔ ∀ j, a ≤ j → j < a + b → f j = -1
  | 0 => ⟨fun _ j h1 h2 => absurd h2 (by omega), fun _ => rfl⟩
  | b + 1 => by
    have ih := zTk_free f a b
    have hm := zTk_mono f a b
    rw [← Nat.add_assoc, zTk]
    constructor
    · intro h j h1 h2
      have hc : f (a + b) = -1 := by
        by_cases hc : f (a + b) = -1
        · exact hc
        · rw [if_neg hc] at h; omega
      rw [if_pos hc, Int.add_zero] at h
      by_cases e : j = a + b
      · rw [e]; exact hc
      · exact ih.mp h j h1 (by omega)
    · intro h
      rw [if_pos (h (a + b) (by omega) (by omega)), Int.add_zero]
      exact ih.mpr fun j h1 h2 => h j h1 (by omega)
theorem zTk_step {f f' : Nat → Int} {w x : Int} (h0 : 0 ≤ w) (hx : x = (if (w.toNat : Int) ≤ w then zTk f' w.toNat else zTk f w.toNat) + (if f' w.toNat = -1 then 0 else 1)) : zup (fun (j : Nat) => if (j : Int) ≤ w then zTk f' j else zTk f j) (w + 1).toNat x = fun (j : Nat) => if (j : Int) ≤ w + 1 then zTk f' j else zTk f j := by
  funext j
  simp only [zup]
  have e : (w + 1).toNat = w.toNat + 1 := by omega
  by_cases hj : j = (w + 1).toNat
  · rw [if_pos hj, if_pos (by omega), hx, if_pos (by omega), hj, e, zTk]
  · rw [if_neg hj]
    by_cases h : (j : Int) ≤ w
    · rw [if_pos h, if_pos (by omega)]
    · rw [if_neg h, if_neg (by omega)]
end ZM
end
section
/-! ===== bits; laws of kit/laws/NUMBERS.to-paste turned to zI ===== -/
theorem zI_nat (n : Nat) : zI (n : Int) = nI n := by
  apply Int32.toBitVec_inj.1
  show BitVec.ofInt 32 (n : Int) = BitVec.ofNat 32 n
  exact BitVec.ofInt_natCast 32 n
theorem zI_and (a b : Nat) : zI (a : Int) &&& zI (b : Int) = zI ((a &&& b : Nat) : Int) := by
  rw [zI_nat, zI_nat, zI_nat]
  apply Int32.toBitVec_inj.1
  show BitVec.ofNat 32 a &&& BitVec.ofNat 32 b = BitVec.ofNat 32 (a &&& b)
  apply BitVec.eq_of_getLsbD_eq
  intro i hi
  simp [hi]
theorem zI_or (a b : Nat) : zI (a : Int) ||| zI (b : Int) = zI ((a ||| b : Nat) : Int) := by
  rw [zI_nat, zI_nat, zI_nat]
  apply Int32.toBitVec_inj.1
  show BitVec.ofNat 32 a ||| BitVec.ofNat 32 b = BitVec.ofNat 32 (a ||| b)
  apply BitVec.eq_of_getLsbD_eq
  intro i hi
  simp [hi]
/-- 1 << s for a small s -/
theorem zI_bit : ∀ s : Nat, s < 20 → zI 1 <<< (zI (s : Int) &&& 31) = zI ((2 ^ s : Nat) : Int) := by decide +kernel
theorem zI_bitI {s : Int} (h0 : 0 ≤ s) (h1 : s < 20) : zI 1 <<< (zI s &&& 31) = zI ((2 ^ s.toNat : Nat) : Int) := by
  have := zI_bit s.toNat (by omega)
  rwa [show ((s.toNat : Nat) : Int) = s by omega] at this
/-- n >> i for a small i -/
theorem zI_shr {n i : Nat} (hn : n < 2 ^ 31) (hi : i < 31) : zI (n : Int) >>> (zI (i : Int) &&& 31) = zI ((n / 2 ^ i : Nat) : Int) := by
  rw [zI_nat, zI_nat, zI_nat]
  refine pk_shrN hn _ i ?_
  have key : ∀ j : Nat, j < 31 → ((nI j &&& 31).toBitVec.smod 32).toNat = j := by decide +kernel
  exact key i hi
theorem zI_shrI {n : Nat} {i : Int} (hn : n < 2 ^ 31) (h0 : 0 ≤ i) (hi : i < 31) : zI (n : Int) >>> (zI i &&& 31) = zI ((n / 2 ^ i.toNat : Nat) : Int) := by
  have := zI_shr (i := i.toNat) hn (by omega)
  rwa [show ((i.toNat : Nat) : Int) = i by omega] at this
theorem zI_and1 (n : Nat) : zI (n : Int) &&& zI 1 = zI ((n % 2 : Nat) : Int) := by
  have h := zI_and n 1
  rw [Nat.and_one_is_mod] at h
  exact h
end
section
/-! ===== leaf methods ===== -/
theorem zTk_0 : ∀ m, zTk (fun _ => -1) m = 0
  | 0 => rfl
  | m + 1 => by rw [zTk, zTk_0 m]; rfl
theorem zInit1 {M : zM} {td tv tk : Nat} {ci : Nat} (n1 : td ≠ tv) (n2 : td ≠ tk) (n3 : tv ≠ tk) : zu (zu (zu (zu M tv (zAi 0 600 (fun _ => 0))) td (zOb ci [.ref tv, .null])) tk (zAi 0 601 (fun _ => 0))) td (zOb ci [.ref tv, .ref tk]) = zu (zu (zu M td (zOb ci [.ref tv, .ref tk])) tv (zAi 0 600 (zfil (fun _ => 0) 0 0 (-1)))) tk (zAi 0 601 (zTk (fun _ => -1))) := by
  have e1 : zTk (fun _ => -1) = fun _ => 0 := funext zTk_0
  rw [e1, zfil_0 _ _ (Int.le_refl 0)]
  funext q
  simp only [zu]
  by_cases h1 : q = td
  · subst h1; rw [if_pos rfl, if_neg n2, if_neg n1, if_pos rfl]
  · by_cases h2 : q = tk
    · subst h2; rw [if_neg h1, if_pos rfl, if_pos rfl]
    · by_cases h3 : q = tv
      · subst h3; simp [h1, h2]
      · simp [h1, h2, h3]
abbrev rX6_isMinute : Room := { frames := 0, cells := 0, slots := 0, locals := 0 }
set_option maxRecDepth 100000 in
set_option maxHeartbeats 4000000 in
theorem c_X6_isMinute {l : Launch} (hfl : l.stackTraces = false) (G : zG) {a : Int} (ha : zR a) (M : zM)  : zCn l G yX6_isMinute (.code yX6_isMinute cX6_isMinute 1 (some .boolean)) rX6_isMinute [.int (zI a)] M (zRi (fun x M2 => x = (if 0 ≤ a ∧ a < 600 then 1 else 0) ∧ M2 = M)) zN := by
  refine zStart hfl (by decide) (own := RX6) rfl [(0, .int (zI a))] (Nat.le_of_ble_eq_true rfl) rfl (fun k hkl hinit hk0 F => ?_)
  refine z_iload_n F 0 dX6_isMinute_0 rfl rfl ?_
  refine z_if_lt F 15 dX6_isMinute_1 (by decide) (by omega) (fun c_1 => ?_) (fun c_1 => ?_)
  · skip
    refine z_iconst (z := 0) F dX6_isMinute_15 (by decide) ?_
    exact z_retz F rfl (by decide) (by first | decide | assumption | omega) (by first | decide | assumption | omega) dX6_isMinute_16 ⟨_, rfl, (by split <;> omega), rfl⟩
  · skip
    refine z_iload_n F 0 dX6_isMinute_4 rfl rfl ?_
    refine z_sipush (z := 600) F dX6_isMinute_5 (by decide) ?_
    refine z_icmp_ge F 15 dX6_isMinute_8 (by decide) (by omega) ⟨by decide, by decide⟩ (fun c_2 => ?_) (fun c_2 => ?_)
    · skip
      refine z_iconst (z := 0) F dX6_isMinute_15 (by decide) ?_
      exact z_retz F rfl (by decide) (by first | decide | assumption | omega) (by first | decide | assumption | omega) dX6_isMinute_16 ⟨_, rfl, (by split <;> omega), rfl⟩
    · skip
      refine z_iconst (z := 1) F dX6_isMinute_11 (by decide) ?_
      refine z_goto F 16 dX6_isMinute_12 (by decide) ?_
      exact z_retz F rfl (by decide) (by first | decide | assumption | omega) (by first | decide | assumption | omega) dX6_isMinute_16 ⟨_, rfl, (by split <;> omega), rfl⟩

abbrev rX6_isSkill : Room := { frames := 0, cells := 0, slots := 0, locals := 0 }
set_option maxRecDepth 100000 in
set_option maxHeartbeats 4000000 in
theorem c_X6_isSkill {l : Launch} (hfl : l.stackTraces = false) (G : zG) {a : Int} (ha : zR a) (M : zM)  : zCn l G yX6_isSkill (.code yX6_isSkill cX6_isSkill 1 (some .boolean)) rX6_isSkill [.int (zI a)] M (zRi (fun x M2 => x = (if 0 ≤ a ∧ a < 4 then 1 else 0) ∧ M2 = M)) zN := by
  refine zStart hfl (by decide) (own := RX6) rfl [(0, .int (zI a))] (Nat.le_of_ble_eq_true rfl) rfl (fun k hkl hinit hk0 F => ?_)
  refine z_iload_n F 0 dX6_isSkill_0 rfl rfl ?_
  refine z_if_lt F 13 dX6_isSkill_1 (by decide) (by omega) (fun c_1 => ?_) (fun c_1 => ?_)
  · skip
    refine z_iconst (z := 0) F dX6_isSkill_13 (by decide) ?_
    exact z_retz F rfl (by decide) (by first | decide | assumption | omega) (by first | decide | assumption | omega) dX6_isSkill_14 ⟨_, rfl, (by split <;> omega), rfl⟩
  · skip
    refine z_iload_n F 0 dX6_isSkill_4 rfl rfl ?_
    refine z_iconst (z := 4) F dX6_isSkill_5 (by decide) ?_
    refine z_icmp_ge F 13 dX6_isSkill_6 (by decide) (by omega) ⟨by decide, by decide⟩ (fun c_2 => ?_) (fun c_2 => ?_)
    · skip
      refine z_iconst (z := 0) F dX6_isSkill_13 (by decide) ?_
      exact z_retz F rfl (by decide) (by first | decide | assumption | omega) (by first | decide | assumption | omega) dX6_isSkill_14 ⟨_, rfl, (by split <;> omega), rfl⟩
    · skip
      refine z_iconst (z := 1) F dX6_isSkill_9 (by decide) ?_
      refine z_goto F 14 dX6_isSkill_10 (by decide) ?_
      exact z_retz F rfl (by decide) (by first | decide | assumption | omega) (by first | decide | assumption | omega) dX6_isSkill_14 ⟨_, rfl, (by split <;> omega), rfl⟩

abbrev rX6_isChair : Room := { frames := 0, cells := 0, slots := 0, locals := 0 }
set_option maxRecDepth 100000 in
set_option maxHeartbeats 4000000 in
theorem c_X6_isChair {l : Launch} (hfl : l.stackTraces = false) (G : zG) {a : Int} (ha : zR a) (M : zM)  : zCn l G yX6_isChair (.code yX6_isChair cX6_isChair 1 (some .boolean)) rX6_isChair [.int (zI a)] M (zRi (fun x M2 => x = (if 0 ≤ a ∧ a < 4 then 1 else 0) ∧ M2 = M)) zN := by
  refine zStart hfl (by decide) (own := RX6) rfl [(0, .int (zI a))] (Nat.le_of_ble_eq_true rfl) rfl (fun k hkl hinit hk0 F => ?_)
  refine z_iload_n F 0 dX6_isChair_0 rfl rfl ?_
  refine z_if_lt F 13 dX6_isChair_1 (by decide) (by omega) (fun c_1 => ?_) (fun c_1 => ?_)
  · skip
    refine z_iconst (z := 0) F dX6_isChair_13 (by decide) ?_
    exact z_retz F rfl (by decide) (by first | decide | assumption | omega) (by first | decide | assumption | omega) dX6_isChair_14 ⟨_, rfl, (by split <;> omega), rfl⟩
  · skip
    refine z_iload_n F 0 dX6_isChair_4 rfl rfl ?_
    refine z_iconst (z := 4) F dX6_isChair_5 (by decide) ?_
    refine z_icmp_ge F 13 dX6_isChair_6 (by decide) (by omega) ⟨by decide, by decide⟩ (fun c_2 => ?_) (fun c_2 => ?_)
    · skip
      refine z_iconst (z := 0) F dX6_isChair_13 (by decide) ?_
      exact z_retz F rfl (by decide) (by first | decide | assumption | omega) (by first | decide | assumption | omega) dX6_isChair_14 ⟨_, rfl, (by split <;> omega), rfl⟩
    · skip
      refine z_iconst (z := 1) F dX6_isChair_9 (by decide) ?_
      refine z_goto F 14 dX6_isChair_10 (by decide) ?_
      exact z_retz F rfl (by decide) (by first | decide | assumption | omega) (by first | decide | assumption | omega) dX6_isChair_14 ⟨_, rfl, (by split <;> omega), rfl⟩

abbrev rX0_at : Room := { frames := 1, cells := 0, slots := 0, locals := 20 }
set_option maxRecDepth 100000 in
set_option maxHeartbeats 4000000 in
theorem c_X0_at {l : Launch} (hfl : l.stackTraces = false) (G : zG) {td tv tk : Nat} {f g : Nat → Int} {a : Int} (ha : zR a) (M : zM) (h0 : M td = some (zOb 1 [.ref tv, .ref tk])) (h1 : M tv = some (zAi 0 600 f)) (h2 : M tk = some (zAi 0 601 g)) : zCn l G yX0_at (.code yX0_at cX0_at 2 (some .int)) rX0_at [.ref td, .int (zI a)] M (zRi (fun x M2 => x = (if 0 ≤ a ∧ a < 600 then f a.toNat else -1) ∧ M2 = M)) zN := by
  refine zStart hfl (by decide) (own := RX0) rfl [(0, .ref td), (1, .int (zI a))] (Nat.le_of_ble_eq_true rfl) rfl (fun k hkl hinit hk0 F => ?_)
  refine z_iload_n F 1 dX0_at_0 rfl rfl ?_
  refine z_callSN (n := 1) F [.int (zI a)] [] (c_X6_isMinute F.2.2.1 G ha M) (List.mem_of_getElem? (i := 0) rfl) zq_isMinute (by decide) rfl ⟨by decide, by decide⟩ ⟨by decide, by decide⟩ (Nat.le_of_ble_eq_true rfl) dX0_at_1 z_nx (z_ki (fun x_1 M_1 h_1 => ?_))
  have hx9 := (h_1).1.symm
  have hm9 := (h_1).2.symm
  subst hx9
  subst hm9
  have hz : zR (if 0 ≤ a ∧ a < 600 then 1 else 0) := by split <;> exact ⟨by decide, by decide⟩
  refine z_if_eq F 16 dX0_at_4 (by decide) (by omega) (fun c_2 => ?_) (fun c_2 => ?_)
  · skip
    have hc : ¬ (0 ≤ a ∧ a < 600) := fun h => by rw [if_pos h] at c_2; omega
    refine z_iconst (z := -1) F dX0_at_16 (by decide) ?_
    exact z_reti F rfl (by first | decide | assumption | omega) (by first | decide | assumption | omega) dX0_at_17 ⟨_, rfl, (if_neg hc).symm, rfl⟩
  · skip
    have hc : 0 ≤ a ∧ a < 600 := Classical.byContradiction fun h => by rw [if_neg h] at c_2; omega
    refine z_aload_n F 0 dX0_at_7 rfl rfl ?_
    refine z_get F fl_X0_9 h0 rfl dX0_at_8 ?_
    refine z_iload_n F 1 dX0_at_11 rfl rfl ?_
    refine z_iald F h1 (by omega) (by omega) (by decide) dX0_at_12 ?_
    refine z_goto F 17 dX0_at_13 (by decide) ?_
    exact z_reti F rfl (by first | decide | assumption | omega) (by first | decide | assumption | omega) dX0_at_17 ⟨_, rfl, (if_pos hc).symm, rfl⟩

abbrev rX0_isFree : Room := { frames := 0, cells := 0, slots := 0, locals := 0 }
set_option maxRecDepth 100000 in
set_option maxHeartbeats 4000000 in
theorem c_X0_isFree {l : Launch} (hfl : l.stackTraces = false) (G : zG) {td tv tk : Nat} {f : Nat → Int} {a b : Int} (ha : zR a) (hb9 : zR b) (M : zM) (h0 : M td = some (zOb 1 [.ref tv, .ref tk])) (h1 : M tv = some (zAi 0 600 f)) (h2 : M tk = some (zAi 0 601 (zTk f))) : zCn l G yX0_isFree (.code yX0_isFree cX0_isFree 3 (some .boolean)) rX0_isFree [.ref td, .int (zI a), .int (zI b)] M (zRi (fun x M2 => x = (if 0 ≤ a ∧ a ≤ b ∧ b ≤ 600 ∧ zTk f a.toNat = zTk f b.toNat then 1 else 0) ∧ M2 = M)) zN := by
  refine zStart hfl (by decide) (own := RX0) rfl [(0, .ref td), (1, .int (zI a)), (2, .int (zI b))] (Nat.le_of_ble_eq_true rfl) rfl (fun k hkl hinit hk0 F => ?_)
  have r1 := zTk_r f a.toNat
  have r2 := zTk_r f b.toNat
  refine z_iload_n F 1 dX0_isFree_0 rfl rfl ?_
  refine z_if_lt F 16 dX0_isFree_1 (by decide) (by omega) (fun c_1 => ?_) (fun c_1 => ?_)
  · skip
    refine z_iconst (z := 0) F dX0_isFree_16 (by decide) ?_
    exact z_retz F rfl (by decide) (by first | decide | assumption | omega) (by first | decide | assumption | omega) dX0_isFree_17 ⟨_, rfl, (by split <;> omega), rfl⟩
  · skip
    refine z_iload_n F 2 dX0_isFree_4 rfl rfl ?_
    refine z_iload_n F 1 dX0_isFree_5 rfl rfl ?_
    refine z_icmp_lt F 16 dX0_isFree_6 (by decide) (by omega) (by omega) (fun c_2 => ?_) (fun c_2 => ?_)
    · skip
      refine z_iconst (z := 0) F dX0_isFree_16 (by decide) ?_
      exact z_retz F rfl (by decide) (by first | decide | assumption | omega) (by first | decide | assumption | omega) dX0_isFree_17 ⟨_, rfl, (by split <;> omega), rfl⟩
    · skip
      refine z_iload_n F 2 dX0_isFree_9 rfl rfl ?_
      refine z_sipush (z := 600) F dX0_isFree_10 (by decide) ?_
      refine z_icmp_le F 18 dX0_isFree_13 (by decide) (by omega) ⟨by decide, by decide⟩ (fun c_3 => ?_) (fun c_3 => ?_)
      · skip
        refine z_aload_n F 0 dX0_isFree_18 rfl rfl ?_
        refine z_get F fl_X0_15 h0 rfl dX0_isFree_19 ?_
        refine z_iload_n F 1 dX0_isFree_22 rfl rfl ?_
        refine z_iald F h2 (by omega) (by omega) (by decide) dX0_isFree_23 ?_
        refine z_aload_n F 0 dX0_isFree_24 rfl rfl ?_
        refine z_get F fl_X0_15 h0 rfl dX0_isFree_25 ?_
        refine z_iload_n F 2 dX0_isFree_28 rfl rfl ?_
        refine z_iald F h2 (by omega) (by omega) (by decide) dX0_isFree_29 ?_
        refine z_icmp_ne F 37 dX0_isFree_30 (by decide) (by omega) (by omega) (fun c_4 => ?_) (fun c_4 => ?_)
        · skip
          refine z_iconst (z := 0) F dX0_isFree_37 (by decide) ?_
          exact z_retz F rfl (by decide) (by first | decide | assumption | omega) (by first | decide | assumption | omega) dX0_isFree_38 ⟨_, rfl, (by split <;> omega), rfl⟩
        · skip
          refine z_iconst (z := 1) F dX0_isFree_33 (by decide) ?_
          refine z_goto F 38 dX0_isFree_34 (by decide) ?_
          exact z_retz F rfl (by decide) (by first | decide | assumption | omega) (by first | decide | assumption | omega) dX0_isFree_38 ⟨_, rfl, (by split <;> omega), rfl⟩
      · skip
        refine z_iconst (z := 0) F dX0_isFree_16 (by decide) ?_
        exact z_retz F rfl (by decide) (by first | decide | assumption | omega) (by first | decide | assumption | omega) dX0_isFree_17 ⟨_, rfl, (by split <;> omega), rfl⟩

abbrev rX0_write : Room := { frames := 0, cells := 0, slots := 0, locals := 0 }
set_option maxRecDepth 100000 in
set_option maxHeartbeats 4000000 in
theorem c_X0_write {l : Launch} (hfl : l.stackTraces = false) (G : zG) {td tv tk : Nat} {f : Nat → Int} {a b v : Int} (ha : zR a) (hb9 : zR b) (M : zM) (h0 : M td = some (zOb 1 [.ref tv, .ref tk])) (h1 : M tv = some (zAi 0 600 f)) (h2 : M tk = some (zAi 0 601 (zTk f))) (n1 : td ≠ tv) (n2 : td ≠ tk) (n3 : tv ≠ tk) (hv : zR v) (hf : ∀ j, zR (f j)) : zCn l G yX0_write (.code yX0_write cX0_write 5 none) rX0_write [.ref td, .int (zI a), .int (zI b), .int (zI v)] M (zRv (fun M2 => M2 = (if 0 ≤ a ∧ b ≤ 600 then zu (zu M tv (zAi 0 600 (zfil f a b v))) tk (zAi 0 601 (zTk (zfil f a b v))) else M))) zN := by
  refine zStart hfl (by decide) (own := RX0) rfl [(0, .ref td), (1, .int (zI a)), (2, .int (zI b)), (3, .int (zI v))] (Nat.le_of_ble_eq_true rfl) rfl (fun k hkl hinit hk0 F => ?_)
  refine z_iload_n F 1 dX0_write_0 rfl rfl ?_
  refine z_if_lt F 11 dX0_write_1 (by decide) (by omega) (fun c_1 => ?_) (fun c_1 => ?_)
  · skip
    exact z_retv F rfl (by first | decide | assumption | omega) (by first | decide | assumption | omega) dX0_write_11 ⟨rfl, (if_neg (by omega)).symm⟩
  · skip
    refine z_iload_n F 2 dX0_write_4 rfl rfl ?_
    refine z_sipush (z := 600) F dX0_write_5 (by decide) ?_
    refine z_icmp_le F 12 dX0_write_8 (by decide) (by omega) ⟨by decide, by decide⟩ (fun c_2 => ?_) (fun c_2 => ?_)
    · skip
      refine z_iload_n F 1 dX0_write_12 rfl rfl ?_
      refine z_istore F [(4, .int (zI a)), (0, .ref td), (1, .int (zI a)), (2, .int (zI b)), (3, .int (zI v))] dX0_write_13 (by decide) rfl ?_
      have L1 : ∀ (fuel : Nat) (i : Int), (b - i).toNat < fuel → a ≤ i → i = a ∨ i ≤ b → zR i → zJ k G rX0_write 5 (zMQ k G rX0_write (zRv (fun M2 => M2 = (if 0 ≤ a ∧ b ≤ 600 then zu (zu M tv (zAi 0 600 (zfil f a b v))) tk (zAi 0 601 (zTk (zfil f a b v))) else M))) zN) (zu M tv (zAi 0 600 (zfil f a i v))) 0 0 15 [(0, .ref td), (1, .int (zI a)), (2, .int (zI b)), (3, .int (zI v)), (4, .int (zI i))] [] := by
        intro fuel
        induction fuel with
        | zero => intros; omega
        | succ fuel ih =>
          intro i hfuel hi1 hi2 hi3
          refine z_iload F 4 dX0_write_15 rfl ?_
          refine z_iload_n F 2 dX0_write_17 rfl rfl ?_
          refine z_icmp_ge F 35 dX0_write_18 (by decide) (by omega) (by omega) (fun c_3 => ?_) (fun c_3 => ?_)
          · skip
            refine z_iload_n F 1 dX0_write_35 rfl rfl ?_
            refine z_istore F [(4, .int (zI a)), (0, .ref td), (1, .int (zI a)), (2, .int (zI b)), (3, .int (zI v))] dX0_write_36 (by decide) rfl ?_
            have L2 : ∀ (fuel : Nat) (w : Int), (600 - w).toNat < fuel → a ≤ w → zR w → zJ k G rX0_write 5 (zMQ k G rX0_write (zRv (fun M2 => M2 = (if 0 ≤ a ∧ b ≤ 600 then zu (zu M tv (zAi 0 600 (zfil f a b v))) tk (zAi 0 601 (zTk (zfil f a b v))) else M))) zN) (zu (zu M tv (zAi 0 600 (zfil f a b v))) tk (zAi 0 601 (fun j => if (j : Int) ≤ w then zTk (zfil f a b v) j else zTk f j))) 0 0 38 [(0, .ref td), (1, .int (zI a)), (2, .int (zI b)), (3, .int (zI v)), (4, .int (zI w))] [] := by
              intro fuel
              induction fuel with
              | zero => intros; omega
              | succ fuel ih =>
                intro w hfuel hw1 hw2
                refine z_iload F 4 dX0_write_38 rfl ?_
                refine z_sipush (z := 600) F dX0_write_40 (by decide) ?_
                refine z_icmp_ge F 85 dX0_write_43 (by decide) (by omega) ⟨by decide, by decide⟩ (fun c_4 => ?_) (fun c_4 => ?_)
                · skip
                  refine z_ext (zTk (zfil f a b v)) (zu_s _ _ _) (fun j hj => if_pos (by omega)) ?_
                  refine z_M (zu_zu _ _ _ _) ?_
                  exact z_retv F rfl (by first | decide | assumption | omega) (by first | decide | assumption | omega) dX0_write_85 ⟨rfl, (if_pos (by omega)).symm⟩
                · skip
                  refine z_aload_n F 0 dX0_write_46 rfl rfl ?_
                  refine z_get F fl_X0_15 ((zu_n n2).trans ((zu_n n1).trans h0)) rfl dX0_write_47 ?_
                  refine z_iload F 4 dX0_write_50 rfl ?_
                  refine z_iconst (z := 1) F dX0_write_52 (by decide) ?_
                  refine z_iadd F dX0_write_53 ?_
                  refine z_aload_n F 0 dX0_write_54 rfl rfl ?_
                  refine z_get F fl_X0_15 ((zu_n n2).trans ((zu_n n1).trans h0)) rfl dX0_write_55 ?_
                  refine z_iload F 4 dX0_write_58 rfl ?_
                  refine z_iald F (zu_s _ _ _) (by omega) (by omega) (by decide) dX0_write_60 ?_
                  refine z_aload_n F 0 dX0_write_61 rfl rfl ?_
                  refine z_get F fl_X0_9 ((zu_n n2).trans ((zu_n n1).trans h0)) rfl dX0_write_62 ?_
                  refine z_iload F 4 dX0_write_65 rfl ?_
                  refine z_iald F ((zu_n n3).trans (zu_s _ _ _)) (by omega) (by omega) (by decide) dX0_write_67 ?_
                  refine z_iconst (z := -1) F dX0_write_68 (by decide) ?_
                  have e1 : zR (zfil f a b v (w).toNat) := by
                    unfold zfil
                    split
                    · exact hv
                    · exact hf _
                  refine z_icmp_ne F 76 dX0_write_69 (by decide) (by omega) ⟨by decide, by decide⟩ (fun c_5 => ?_) (fun c_5 => ?_)
                  · skip
                    have hc : ¬ zfil f a b v (w).toNat = -1 := c_5
                    refine z_iconst (z := 1) F dX0_write_76 (by decide) ?_
                    refine z_iadd F dX0_write_77 ?_
                    refine z_iast F (zu_s _ _ _) (by omega) (by omega) (by decide) dX0_write_78 ?_
                    have hm_6_0 := (zu_n (M := (zu (zu M tv (zAi 0 600 (zfil f a b v))) tk (zAi 0 601 (fun j => if (j : Int) ≤ w then zTk (zfil f a b v) j else zTk f j)))) (t := tk) (q := td) (o := (zAi 0 601 (zup ((fun (j : Nat) => if (j : Int) ≤ w then zTk (zfil f a b v) j else zTk f j)) (w + 1).toNat ((((fun (j : Nat) => if (j : Int) ≤ w then zTk (zfil f a b v) j else zTk f j)) (w).toNat) + 1)))) (by first | assumption | omega | (intro h9; omega))).trans ((zu_n n2).trans ((zu_n n1).trans h0))
                    have hm_6_1 := (zu_n (M := (zu (zu M tv (zAi 0 600 (zfil f a b v))) tk (zAi 0 601 (fun j => if (j : Int) ≤ w then zTk (zfil f a b v) j else zTk f j)))) (t := tk) (q := tv) (o := (zAi 0 601 (zup ((fun (j : Nat) => if (j : Int) ≤ w then zTk (zfil f a b v) j else zTk f j)) (w + 1).toNat ((((fun (j : Nat) => if (j : Int) ≤ w then zTk (zfil f a b v) j else zTk f j)) (w).toNat) + 1)))) (by first | assumption | omega | (intro h9; omega))).trans ((zu_n n3).trans (zu_s _ _ _))
                    have hm_6_s := zu_s (zu (zu M tv (zAi 0 600 (zfil f a b v))) tk (zAi 0 601 (fun j => if (j : Int) ≤ w then zTk (zfil f a b v) j else zTk f j))) tk (zAi 0 601 (zup ((fun (j : Nat) => if (j : Int) ≤ w then zTk (zfil f a b v) j else zTk f j)) (w + 1).toNat ((((fun (j : Nat) => if (j : Int) ≤ w then zTk (zfil f a b v) j else zTk f j)) (w).toNat) + 1)))
                    refine z_iinc F 4 [(4, .int (zI (w + 1))), (0, .ref td), (1, .int (zI a)), (2, .int (zI b)), (3, .int (zI v))] dX0_write_79 rfl (by decide) rfl ?_
                    refine z_goto F 38 dX0_write_82 (by decide) ?_
                    refine z_lv [(0, .ref td), (1, .int (zI a)), (2, .int (zI b)), (3, .int (zI v)), (4, .int (zI (w + 1)))] [1, 2, 3, 4, 0] rfl ?_
                    refine z_M (M' := zu (zu M tv (zAi 0 600 (zfil f a b v))) tk (zAi 0 601 (fun j => if (j : Int) ≤ w + 1 then zTk (zfil f a b v) j else zTk f j))) (by rw [zu_zu, zTk_step (by omega) (by first | rw [if_pos hc] | rw [if_neg hc])]) ?_
                    exact ih (w + 1) (by omega) (by omega) (by omega)
                  · skip
                    have hc : zfil f a b v (w).toNat = -1 := c_5
                    refine z_iconst (z := 0) F dX0_write_72 (by decide) ?_
                    refine z_goto F 77 dX0_write_73 (by decide) ?_
                    refine z_iadd F dX0_write_77 ?_
                    refine z_iast F (zu_s _ _ _) (by omega) (by omega) (by decide) dX0_write_78 ?_
                    have hm_7_0 := (zu_n (M := (zu (zu M tv (zAi 0 600 (zfil f a b v))) tk (zAi 0 601 (fun j => if (j : Int) ≤ w then zTk (zfil f a b v) j else zTk f j)))) (t := tk) (q := td) (o := (zAi 0 601 (zup ((fun (j : Nat) => if (j : Int) ≤ w then zTk (zfil f a b v) j else zTk f j)) (w + 1).toNat ((((fun (j : Nat) => if (j : Int) ≤ w then zTk (zfil f a b v) j else zTk f j)) (w).toNat) + 0)))) (by first | assumption | omega | (intro h9; omega))).trans ((zu_n n2).trans ((zu_n n1).trans h0))
                    have hm_7_1 := (zu_n (M := (zu (zu M tv (zAi 0 600 (zfil f a b v))) tk (zAi 0 601 (fun j => if (j : Int) ≤ w then zTk (zfil f a b v) j else zTk f j)))) (t := tk) (q := tv) (o := (zAi 0 601 (zup ((fun (j : Nat) => if (j : Int) ≤ w then zTk (zfil f a b v) j else zTk f j)) (w + 1).toNat ((((fun (j : Nat) => if (j : Int) ≤ w then zTk (zfil f a b v) j else zTk f j)) (w).toNat) + 0)))) (by first | assumption | omega | (intro h9; omega))).trans ((zu_n n3).trans (zu_s _ _ _))
                    have hm_7_s := zu_s (zu (zu M tv (zAi 0 600 (zfil f a b v))) tk (zAi 0 601 (fun j => if (j : Int) ≤ w then zTk (zfil f a b v) j else zTk f j))) tk (zAi 0 601 (zup ((fun (j : Nat) => if (j : Int) ≤ w then zTk (zfil f a b v) j else zTk f j)) (w + 1).toNat ((((fun (j : Nat) => if (j : Int) ≤ w then zTk (zfil f a b v) j else zTk f j)) (w).toNat) + 0)))
                    refine z_iinc F 4 [(4, .int (zI (w + 1))), (0, .ref td), (1, .int (zI a)), (2, .int (zI b)), (3, .int (zI v))] dX0_write_79 rfl (by decide) rfl ?_
                    refine z_goto F 38 dX0_write_82 (by decide) ?_
                    refine z_lv [(0, .ref td), (1, .int (zI a)), (2, .int (zI b)), (3, .int (zI v)), (4, .int (zI (w + 1)))] [1, 2, 3, 4, 0] rfl ?_
                    refine z_M (M' := zu (zu M tv (zAi 0 600 (zfil f a b v))) tk (zAi 0 601 (fun j => if (j : Int) ≤ w + 1 then zTk (zfil f a b v) j else zTk f j))) (by rw [zu_zu, zTk_step (by omega) (by first | rw [if_pos hc] | rw [if_neg hc])]) ?_
                    exact ih (w + 1) (by omega) (by omega) (by omega)
            refine z_lv [(0, .ref td), (1, .int (zI a)), (2, .int (zI b)), (3, .int (zI v)), (4, .int (zI a))] [1, 2, 3, 4, 0] rfl ?_
            refine z_M (M' := zu (zu M tv (zAi 0 600 (zfil f a b v))) tk (zAi 0 601 (fun j => if (j : Int) ≤ a then zTk (zfil f a b v) j else zTk f j))) (by
                have e9 : (fun (j : Nat) => if (j : Int) ≤ a then zTk (zfil f a b v) j else zTk f j) = zTk f := by
                  funext j
                  split
                  · exact zTk_cong (fun q hq => if_neg (by omega))
                  · rfl
                have e10 : zfil f a i v = zfil f a b v := by
                  rcases hi2 with h | h
                  · rw [zfil_0 f v (by omega), zfil_0 f v (by omega)]
                  · rw [show i = b by omega]
                rw [e9, e10, zu_id ((zu_n n3.symm).trans h2)]) ?_
            exact L2 _ a (Nat.lt_succ_self _) (by omega) (by omega)
          · skip
            refine z_aload_n F 0 dX0_write_21 rfl rfl ?_
            refine z_get F fl_X0_9 ((zu_n n1).trans h0) rfl dX0_write_22 ?_
            refine z_iload F 4 dX0_write_25 rfl ?_
            refine z_iload_n F 3 dX0_write_27 rfl rfl ?_
            refine z_iast F (zu_s _ _ _) (by omega) (by omega) (by decide) dX0_write_28 ?_
            have hm_8_0 := (zu_n (M := (zu M tv (zAi 0 600 (zfil f a i v)))) (t := tv) (q := td) (o := (zAi 0 600 (zup ((zfil f a i v)) (i).toNat v))) (by first | assumption | omega | (intro h9; omega))).trans ((zu_n n1).trans h0)
            have hm_8_1 := (zu_n (M := (zu M tv (zAi 0 600 (zfil f a i v)))) (t := tv) (q := tk) (o := (zAi 0 600 (zup ((zfil f a i v)) (i).toNat v))) (by first | assumption | omega | (intro h9; omega))).trans ((zu_n n3.symm).trans h2)
            have hm_8_s := zu_s (zu M tv (zAi 0 600 (zfil f a i v))) tv (zAi 0 600 (zup ((zfil f a i v)) (i).toNat v))
            refine z_iinc F 4 [(4, .int (zI (i + 1))), (0, .ref td), (1, .int (zI a)), (2, .int (zI b)), (3, .int (zI v))] dX0_write_29 rfl (by decide) rfl ?_
            refine z_goto F 15 dX0_write_32 (by decide) ?_
            refine z_lv [(0, .ref td), (1, .int (zI a)), (2, .int (zI b)), (3, .int (zI v)), (4, .int (zI (i + 1)))] [1, 2, 3, 4, 0] rfl ?_
            refine z_M (M' := zu M tv (zAi 0 600 (zfil f a (i + 1) v))) (by rw [zu_zu, zfil_s f v (by omega) hi1]) ?_
            exact ih (i + 1) (by omega) (by omega) (by omega) (by omega)
      refine z_lv [(0, .ref td), (1, .int (zI a)), (2, .int (zI b)), (3, .int (zI v)), (4, .int (zI a))] [1, 2, 3, 4, 0] rfl ?_
      refine z_M (M' := zu M tv (zAi 0 600 (zfil f a a v))) (by rw [zfil_0 f v (Int.le_refl a), zu_id h1]) ?_
      exact L1 _ a (Nat.lt_succ_self _) (by omega) (by omega) (by omega)
    · skip
      exact z_retv F rfl (by first | decide | assumption | omega) (by first | decide | assumption | omega) dX0_write_11 ⟨rfl, (if_neg (by omega)).symm⟩

abbrev rX0_init : Room := { frames := 1, cells := 2, slots := 1201, locals := 20 }
set_option maxRecDepth 100000 in
set_option maxHeartbeats 4000000 in
theorem c_X0_init {l : Launch} (hfl : l.stackTraces = false) (G : zG) {td tv tk : Nat} (M : zM) (h0 : M td = some (zOb 1 [.null, .null])) (h1 : M tv = none) (h2 : M tk = none) (m1 : tv % 64 ≠ 63) (m2 : tk % 64 ≠ 63) (n1 : td ≠ tv) (n2 : td ≠ tk) (n3 : tv ≠ tk) : zCn l G yX0_init (.code yX0_init cX0_init 2 none) rX0_init [.ref td] M (zRv (fun M2 => M2 = zu (zu (zu M td (zOb 1 [.ref tv, .ref tk])) tv (zAi 0 600 (fun _ => -1))) tk (zAi 0 601 (zTk (fun _ => -1))))) zN := by
  refine zStart hfl (by decide) (own := RX0) rfl [(0, .ref td)] (Nat.le_of_ble_eq_true rfl) rfl (fun k hkl hinit hk0 F => ?_)
  refine z_aload_n F 0 dX0_init_0 rfl rfl ?_
  refine z_objI F (zr_2 _ (List.mem_of_getElem? (i := 22) rfl)) (zr_1 _ (List.mem_of_getElem? (i := 11) rfl)) (zr_1 _ (List.mem_of_getElem? (i := 12) rfl)) (Nat.le_of_ble_eq_true rfl) (Nat.le_of_ble_eq_true rfl) dX0_init_1 ?_
  refine z_aload_n F 0 dX0_init_4 rfl rfl ?_
  refine z_sipush (z := 600) F dX0_init_5 (by decide) ?_
  refine z_newi F tv 600 (by decide) (by decide) h1 m1 (by decide) (by decide) (zr_2 _ (List.mem_of_getElem? (i := 23) rfl)) dX0_init_8 ?_
  have hm_1_0 := (zu_n (M := M) (t := tv) (q := td) (o := (zAi 0 600 (fun _ => 0))) (by first | assumption | omega | (intro h9; omega))).trans h0
  have hm_1_s := zu_s M tv (zAi 0 600 (fun _ => 0))
  refine z_putF (ty := .array (.int)) F [.ref tv, .null] fl_X0_9 tyX0 tyX0_ok nmX0 rfl hinit rfl (by decide +kernel) rfl rfl hm_1_0 (Nat.le_of_ble_eq_true rfl) rfl dX0_init_10 ?_
  have hm_2_0 := (zu_n (M := (zu M tv (zAi 0 600 (fun _ => 0)))) (t := td) (q := tv) (o := (zOb 1 [.ref tv, .null])) (by first | assumption | omega | (intro h9; omega))).trans hm_1_s
  have hm_2_s := zu_s (zu M tv (zAi 0 600 (fun _ => 0))) td (zOb 1 [.ref tv, .null])
  refine z_aload_n F 0 dX0_init_13 rfl rfl ?_
  refine z_sipush (z := 601) F dX0_init_14 (by decide) ?_
  refine z_newi F tk 601 (by decide) (by decide) ((zu_n (by first | assumption | exact Ne.symm n2)).trans ((zu_n (Ne.symm n3)).trans h2)) m2 (by decide) (by decide) (zr_2 _ (List.mem_of_getElem? (i := 23) rfl)) dX0_init_17 ?_
  have hm_3_0 := (zu_n (M := (zu (zu M tv (zAi 0 600 (fun _ => 0))) td (zOb 1 [.ref tv, .null]))) (t := tk) (q := tv) (o := (zAi 0 601 (fun _ => 0))) (by first | assumption | omega | (intro h9; omega))).trans hm_2_0
  have hm_3_1 := (zu_n (M := (zu (zu M tv (zAi 0 600 (fun _ => 0))) td (zOb 1 [.ref tv, .null]))) (t := tk) (q := td) (o := (zAi 0 601 (fun _ => 0))) (by first | assumption | omega | (intro h9; omega))).trans hm_2_s
  have hm_3_s := zu_s (zu (zu M tv (zAi 0 600 (fun _ => 0))) td (zOb 1 [.ref tv, .null])) tk (zAi 0 601 (fun _ => 0))
  refine z_putF (ty := .array (.int)) F [.ref tv, .ref tk] fl_X0_15 tyX0 tyX0_ok nmX0 rfl hinit rfl (by decide +kernel) rfl rfl hm_3_1 (Nat.le_of_ble_eq_true rfl) rfl dX0_init_19 ?_
  have hm_4_0 := (zu_n (M := (zu (zu (zu M tv (zAi 0 600 (fun _ => 0))) td (zOb 1 [.ref tv, .null])) tk (zAi 0 601 (fun _ => 0)))) (t := td) (q := tv) (o := (zOb 1 [.ref tv, .ref tk])) (by first | assumption | omega | (intro h9; omega))).trans hm_3_0
  have hm_4_1 := (zu_n (M := (zu (zu (zu M tv (zAi 0 600 (fun _ => 0))) td (zOb 1 [.ref tv, .null])) tk (zAi 0 601 (fun _ => 0)))) (t := td) (q := tk) (o := (zOb 1 [.ref tv, .ref tk])) (by first | assumption | omega | (intro h9; omega))).trans hm_3_s
  have hm_4_s := zu_s (zu (zu (zu M tv (zAi 0 600 (fun _ => 0))) td (zOb 1 [.ref tv, .null])) tk (zAi 0 601 (fun _ => 0))) td (zOb 1 [.ref tv, .ref tk])
  refine z_iconst (z := 0) F dX0_init_22 (by decide) ?_
  refine z_istore_n F [(1, .int (zI 0)), (0, .ref td)] dX0_init_23 rfl (by decide) rfl ?_
  have L1 : ∀ (fuel : Nat) (i : Int), (600 - i).toNat < fuel → 0 ≤ i → i ≤ 600 → zJ k G rX0_init 2 (zMQ k G rX0_init (zRv (fun M2 => M2 = zu (zu (zu M td (zOb 1 [.ref tv, .ref tk])) tv (zAi 0 600 (fun _ => -1))) tk (zAi 0 601 (zTk (fun _ => -1))))) zN) (zu (zu (zu M td (zOb 1 [.ref tv, .ref tk])) tv (zAi 0 600 (zfil (fun _ => 0) 0 i (-1)))) tk (zAi 0 601 (zTk (fun _ => -1)))) 2 1201 24 [(0, .ref td), (1, .int (zI i))] [] := by
    intro fuel
    induction fuel with
    | zero => intros; omega
    | succ fuel ih =>
      intro i hfuel hi hi2
      refine z_iload_n F 1 dX0_init_24 rfl rfl ?_
      refine z_sipush (z := 600) F dX0_init_25 (by decide) ?_
      refine z_icmp_ge F 44 dX0_init_28 (by decide) (by omega) ⟨by decide, by decide⟩ (fun c_5 => ?_) (fun c_5 => ?_)
      · skip
        refine z_ext (fun _ => -1) ((zu_n n3).trans (zu_s _ _ _)) (fun j hj => if_pos (by omega)) ?_
        refine z_M (by rw [zu_cm (Ne.symm n3), zu_zu]) ?_
        exact z_retv F rfl (by first | decide | assumption | omega) (by first | decide | assumption | omega) dX0_init_44 ⟨rfl, rfl⟩
      · skip
        refine z_aload_n F 0 dX0_init_31 rfl rfl ?_
        refine z_get F fl_X0_9 ((zu_n n2).trans ((zu_n n1).trans (zu_s _ _ _))) rfl dX0_init_32 ?_
        refine z_iload_n F 1 dX0_init_35 rfl rfl ?_
        refine z_iconst (z := -1) F dX0_init_36 (by decide) ?_
        refine z_iast F ((zu_n n3).trans (zu_s _ _ _)) (by omega) (by omega) (by decide) dX0_init_37 ?_
        have hm_6_0 := (zu_n (M := (zu (zu (zu M td (zOb 1 [.ref tv, .ref tk])) tv (zAi 0 600 (zfil (fun _ => 0) 0 i (-1)))) tk (zAi 0 601 (zTk (fun _ => -1))))) (t := tv) (q := td) (o := (zAi 0 600 (zup ((zfil (fun _ => 0) 0 i (-1))) (i).toNat (-1)))) (by first | assumption | omega | (intro h9; omega))).trans ((zu_n n2).trans ((zu_n n1).trans (zu_s _ _ _)))
        have hm_6_s := zu_s (zu (zu (zu M td (zOb 1 [.ref tv, .ref tk])) tv (zAi 0 600 (zfil (fun _ => 0) 0 i (-1)))) tk (zAi 0 601 (zTk (fun _ => -1)))) tv (zAi 0 600 (zup ((zfil (fun _ => 0) 0 i (-1))) (i).toNat (-1)))
        refine z_iinc F 1 [(1, .int (zI (i + 1))), (0, .ref td)] dX0_init_38 rfl (by decide) rfl ?_
        refine z_goto F 24 dX0_init_41 (by decide) ?_
        refine z_lv [(0, .ref td), (1, .int (zI (i + 1)))] [1, 0] rfl ?_
        refine z_M (M' := zu (zu (zu M td (zOb 1 [.ref tv, .ref tk])) tv (zAi 0 600 (zfil (fun _ => 0) 0 (i + 1) (-1)))) tk (zAi 0 601 (zTk (fun _ => -1)))) (by rw [zu_cm (Ne.symm n3), zu_zu, zfil_s _ _ hi hi]) ?_
        exact ih (i + 1) (by omega) (by omega) (by omega)
  refine z_lv [(0, .ref td), (1, .int (zI 0))] [1, 0] rfl ?_
  refine z_M (M' := zu (zu (zu M td (zOb 1 [.ref tv, .ref tk])) tv (zAi 0 600 (zfil (fun _ => 0) 0 0 (-1)))) tk (zAi 0 601 (zTk (fun _ => -1)))) (zInit1 n1 n2 n3) ?_
  exact L1 _ 0 (Nat.lt_succ_self _) (by omega) (by omega)
end
section
/-! ===== the small classes ===== -/
theorem zInitM {M : zM} {tm td tv tk : Nat} {a b c d o0 o1 o2 o3 : zO} (n1 : tm ≠ td) (n2 : tm ≠ tv) (n3 : tm ≠ tk) : zu (zu (zu (zu (zu (zu (zu (zu M td o0) td o1) tv o2) tk o3) tm a) tm b) tm c) tm d = zu (zu (zu (zu M tm d) td o1) tv o2) tk o3 := by
  funext q
  simp only [zu]
  by_cases h : q = tm
  · subst h; simp [n1, n2, n3]
  · by_cases h2 : q = td
    · subst h2; simp [h]
    · simp [h, h2]
theorem zInit4 {M : zM} {ts t1 t2 t3 : Nat} {o1 o2 o3 a b c d : zO} (n1 : ts ≠ t1) (n2 : ts ≠ t2) (n3 : ts ≠ t3) : zu (zu (zu (zu (zu (zu (zu M t1 o1) ts a) t2 o2) ts b) t3 o3) ts c) ts d = zu (zu (zu (zu M ts d) t1 o1) t2 o2) t3 o3 := by
  funext q
  simp only [zu]
  by_cases h : q = ts
  · subst h; simp [n1, n2, n3]
  · simp [h]
abbrev rX2_clear : Room := { frames := 0, cells := 0, slots := 0, locals := 0 }
set_option maxRecDepth 100000 in
set_option maxHeartbeats 4000000 in
theorem c_X2_clear {l : Launch} (hfl : l.stackTraces = false) (G : zG) {th tb : Nat} {f : Nat → Int} (M : zM) (h0 : M th = some (zOb 3 [.ref tb])) (h1 : M tb = some (zAi 1 600 f)) (n1 : th ≠ tb) : zCn l G yX2_clear (.code yX2_clear cX2_clear 2 none) rX2_clear [.ref th] M (zRv (fun M2 => M2 = zu M tb (zAi 1 600 (fun _ => 0)))) zN := by
  refine zStart hfl (by decide) (own := RX2) rfl [(0, .ref th)] (Nat.le_of_ble_eq_true rfl) rfl (fun k hkl hinit hk0 F => ?_)
  refine z_iconst (z := 0) F dX2_clear_0 (by decide) ?_
  refine z_istore_n F [(1, .int (zI 0)), (0, .ref th)] dX2_clear_1 rfl (by decide) rfl ?_
  have L1 : ∀ (fuel : Nat) (i : Int), (600 - i).toNat < fuel → 0 ≤ i → i ≤ 600 → zJ k G rX2_clear 2 (zMQ k G rX2_clear (zRv (fun M2 => M2 = zu M tb (zAi 1 600 (fun _ => 0)))) zN) (zu M tb (zAi 1 600 (zfil f 0 i 0))) 0 0 2 [(0, .ref th), (1, .int (zI i))] [] := by
    intro fuel
    induction fuel with
    | zero => intros; omega
    | succ fuel ih =>
      intro i hfuel hi hi2
      refine z_iload_n F 1 dX2_clear_2 rfl rfl ?_
      refine z_sipush (z := 600) F dX2_clear_3 (by decide) ?_
      refine z_icmp_ge F 22 dX2_clear_6 (by decide) (by omega) ⟨by decide, by decide⟩ (fun c_1 => ?_) (fun c_1 => ?_)
      · skip
        refine z_ext (fun _ => 0) (zu_s _ _ _) (fun j hj => if_pos (by omega)) ?_
        refine z_M (zu_zu _ _ _ _) ?_
        exact z_retv F rfl (by first | decide | assumption | omega) (by first | decide | assumption | omega) dX2_clear_22 ⟨rfl, rfl⟩
      · skip
        refine z_aload_n F 0 dX2_clear_9 rfl rfl ?_
        refine z_get F fl_X2_9 ((zu_n n1).trans h0) rfl dX2_clear_10 ?_
        refine z_iload_n F 1 dX2_clear_13 rfl rfl ?_
        refine z_iconst (z := 0) F dX2_clear_14 (by decide) ?_
        refine z_zast F (zu_s _ _ _) (by omega) (by omega) (by decide) (Or.inl rfl) dX2_clear_15 ?_
        have hm_2_0 := (zu_n (M := (zu M tb (zAi 1 600 (zfil f 0 i 0)))) (t := tb) (q := th) (o := (zAi 1 600 (zup ((zfil f 0 i 0)) (i).toNat 0))) (by first | assumption | omega | (intro h9; omega))).trans ((zu_n n1).trans h0)
        have hm_2_s := zu_s (zu M tb (zAi 1 600 (zfil f 0 i 0))) tb (zAi 1 600 (zup ((zfil f 0 i 0)) (i).toNat 0))
        refine z_iinc F 1 [(1, .int (zI (i + 1))), (0, .ref th)] dX2_clear_16 rfl (by decide) rfl ?_
        refine z_goto F 2 dX2_clear_19 (by decide) ?_
        refine z_lv [(0, .ref th), (1, .int (zI (i + 1)))] [1, 0] rfl ?_
        refine z_M (M' := zu M tb (zAi 1 600 (zfil f 0 (i + 1) 0))) (by rw [zu_zu, zfil_s f 0 hi hi]) ?_
        exact ih (i + 1) (by omega) (by omega) (by omega)
  refine z_lv [(0, .ref th), (1, .int (zI 0))] [1, 0] rfl ?_
  refine z_M (M' := zu M tb (zAi 1 600 (zfil f 0 0 0))) (by rw [zfil_0 f 0 (Int.le_refl 0), zu_id h1]) ?_
  exact L1 _ 0 (Nat.lt_succ_self _) (by omega) (by omega)

abbrev rX2_add : Room := { frames := 1, cells := 0, slots := 0, locals := 20 }
set_option maxRecDepth 100000 in
set_option maxHeartbeats 4000000 in
theorem c_X2_add {l : Launch} (hfl : l.stackTraces = false) (G : zG) {th tb : Nat} {f : Nat → Int} {a : Int} (ha : zR a) (M : zM) (h0 : M th = some (zOb 3 [.ref tb])) (h1 : M tb = some (zAi 1 600 f)) (n1 : th ≠ tb) : zCn l G yX2_add (.code yX2_add cX2_add 2 none) rX2_add [.ref th, .int (zI a)] M (zRv (fun M2 => M2 = (if 0 ≤ a ∧ a < 600 then zu M tb (zAi 1 600 (zup f a.toNat 1)) else M))) zN := by
  refine zStart hfl (by decide) (own := RX2) rfl [(0, .ref th), (1, .int (zI a))] (Nat.le_of_ble_eq_true rfl) rfl (fun k hkl hinit hk0 F => ?_)
  refine z_iload_n F 1 dX2_add_0 rfl rfl ?_
  refine z_callSN (n := 1) F [.int (zI a)] [] (c_X6_isMinute F.2.2.1 G ha M) (List.mem_of_getElem? (i := 1) rfl) zq_isMinute (by decide) rfl ⟨by decide, by decide⟩ ⟨by decide, by decide⟩ (Nat.le_of_ble_eq_true rfl) dX2_add_1 z_nx (z_ki (fun x_1 M_1 h_1 => ?_))
  have hx9 := (h_1).1.symm
  have hm9 := (h_1).2.symm
  subst hx9
  subst hm9
  have hz : zR (if 0 ≤ a ∧ a < 600 then 1 else 0) := by split <;> exact ⟨by decide, by decide⟩
  refine z_if_eq F 14 dX2_add_4 (by decide) (by omega) (fun c_2 => ?_) (fun c_2 => ?_)
  · skip
    have hc : ¬ (0 ≤ a ∧ a < 600) := fun h => by rw [if_pos h] at c_2; omega
    exact z_retv F rfl (by first | decide | assumption | omega) (by first | decide | assumption | omega) dX2_add_14 ⟨rfl, by first | exact (if_pos hc).symm | exact (if_neg hc).symm⟩
  · skip
    have hc : 0 ≤ a ∧ a < 600 := Classical.byContradiction fun h => by rw [if_neg h] at c_2; omega
    refine z_aload_n F 0 dX2_add_7 rfl rfl ?_
    refine z_get F fl_X2_9 h0 rfl dX2_add_8 ?_
    refine z_iload_n F 1 dX2_add_11 rfl rfl ?_
    refine z_iconst (z := 1) F dX2_add_12 (by decide) ?_
    refine z_zast F h1 (by omega) (by omega) (by decide) (Or.inr rfl) dX2_add_13 ?_
    have hm_3_0 := (zu_n (M := M) (t := tb) (q := th) (o := (zAi 1 600 (zup f (a).toNat 1))) (by first | assumption | omega | (intro h9; omega))).trans h0
    have hm_3_s := zu_s M tb (zAi 1 600 (zup f (a).toNat 1))
    exact z_retv F rfl (by first | decide | assumption | omega) (by first | decide | assumption | omega) dX2_add_14 ⟨rfl, by first | exact (if_pos hc).symm | exact (if_neg hc).symm⟩

abbrev rX2_has : Room := { frames := 1, cells := 0, slots := 0, locals := 20 }
set_option maxRecDepth 100000 in
set_option maxHeartbeats 4000000 in
theorem c_X2_has {l : Launch} (hfl : l.stackTraces = false) (G : zG) {th tb : Nat} {f : Nat → Int} {a : Int} (ha : zR a) (M : zM) (h0 : M th = some (zOb 3 [.ref tb])) (h1 : M tb = some (zAi 1 600 f)) (hf : ∀ j, f j = 0 ∨ f j = 1) : zCn l G yX2_has (.code yX2_has cX2_has 2 (some .boolean)) rX2_has [.ref th, .int (zI a)] M (zRi (fun x M2 => x = (if (0 ≤ a ∧ a < 600) ∧ f a.toNat ≠ 0 then 1 else 0) ∧ M2 = M)) zN := by
  refine zStart hfl (by decide) (own := RX2) rfl [(0, .ref th), (1, .int (zI a))] (Nat.le_of_ble_eq_true rfl) rfl (fun k hkl hinit hk0 F => ?_)
  refine z_iload_n F 1 dX2_has_0 rfl rfl ?_
  refine z_callSN (n := 1) F [.int (zI a)] [] (c_X6_isMinute F.2.2.1 G ha M) (List.mem_of_getElem? (i := 1) rfl) zq_isMinute (by decide) rfl ⟨by decide, by decide⟩ ⟨by decide, by decide⟩ (Nat.le_of_ble_eq_true rfl) dX2_has_1 z_nx (z_ki (fun x_1 M_1 h_1 => ?_))
  have hx9 := (h_1).1.symm
  have hm9 := (h_1).2.symm
  subst hx9
  subst hm9
  have hz : zR (if 0 ≤ a ∧ a < 600 then 1 else 0) := by split <;> exact ⟨by decide, by decide⟩
  refine z_if_eq F 20 dX2_has_4 (by decide) (by omega) (fun c_2 => ?_) (fun c_2 => ?_)
  · skip
    have hc : ¬ (0 ≤ a ∧ a < 600) := fun h => by rw [if_pos h] at c_2; omega
    refine z_iconst (z := 0) F dX2_has_20 (by decide) ?_
    exact z_retz F rfl (by decide) (by first | decide | assumption | omega) (by first | decide | assumption | omega) dX2_has_21 ⟨_, rfl, (by split <;> omega), rfl⟩
  · skip
    have hc : 0 ≤ a ∧ a < 600 := Classical.byContradiction fun h => by rw [if_neg h] at c_2; omega
    have hf1 := hf a.toNat
    refine z_aload_n F 0 dX2_has_7 rfl rfl ?_
    refine z_get F fl_X2_9 h0 rfl dX2_has_8 ?_
    refine z_iload_n F 1 dX2_has_11 rfl rfl ?_
    refine z_zald F h1 (by omega) (by omega) (by decide) dX2_has_12 ?_
    refine z_if_eq F 20 dX2_has_13 (by decide) (by omega) (fun c_3 => ?_) (fun c_3 => ?_)
    · skip
      refine z_iconst (z := 0) F dX2_has_20 (by decide) ?_
      exact z_retz F rfl (by decide) (by first | decide | assumption | omega) (by first | decide | assumption | omega) dX2_has_21 ⟨_, rfl, (by split <;> omega), rfl⟩
    · skip
      refine z_iconst (z := 1) F dX2_has_16 (by decide) ?_
      refine z_goto F 21 dX2_has_17 (by decide) ?_
      exact z_retz F rfl (by decide) (by first | decide | assumption | omega) (by first | decide | assumption | omega) dX2_has_21 ⟨_, rfl, (by split <;> omega), rfl⟩

abbrev rX2_init : Room := { frames := 1, cells := 1, slots := 600, locals := 20 }
set_option maxRecDepth 100000 in
set_option maxHeartbeats 4000000 in
theorem c_X2_init {l : Launch} (hfl : l.stackTraces = false) (G : zG) {th tb : Nat} (M : zM) (h0 : M th = some (zOb 3 [.null])) (h1 : M tb = none) (m1 : tb % 64 ≠ 63) (n1 : th ≠ tb) : zCn l G yX2_init (.code yX2_init cX2_init 1 none) rX2_init [.ref th] M (zRv (fun M2 => M2 = zu (zu M th (zOb 3 [.ref tb])) tb (zAi 1 600 (fun _ => 0)))) zN := by
  refine zStart hfl (by decide) (own := RX2) rfl [(0, .ref th)] (Nat.le_of_ble_eq_true rfl) rfl (fun k hkl hinit hk0 F => ?_)
  refine z_aload_n F 0 dX2_init_0 rfl rfl ?_
  refine z_objI F (zr_3 _ (List.mem_of_getElem? (i := 4) rfl)) (zr_1 _ (List.mem_of_getElem? (i := 11) rfl)) (zr_1 _ (List.mem_of_getElem? (i := 12) rfl)) (Nat.le_of_ble_eq_true rfl) (Nat.le_of_ble_eq_true rfl) dX2_init_1 ?_
  refine z_aload_n F 0 dX2_init_4 rfl rfl ?_
  refine z_sipush (z := 600) F dX2_init_5 (by decide) ?_
  refine z_newz F tb 600 (by decide) (by decide) h1 m1 (by decide) (by decide) (zr_3 _ (List.mem_of_getElem? (i := 5) rfl)) dX2_init_8 ?_
  have hm_1_0 := (zu_n (M := M) (t := tb) (q := th) (o := (zAi 1 600 (fun _ => 0))) (by first | assumption | omega | (intro h9; omega))).trans h0
  have hm_1_s := zu_s M tb (zAi 1 600 (fun _ => 0))
  refine z_putF (ty := .array (.boolean)) F [.ref tb] fl_X2_9 tyX2 tyX2_ok nmX2 rfl hinit rfl (by decide +kernel) rfl rfl hm_1_0 (Nat.le_of_ble_eq_true rfl) rfl dX2_init_10 ?_
  have hm_2_0 := (zu_n (M := (zu M tb (zAi 1 600 (fun _ => 0)))) (t := th) (q := tb) (o := (zOb 3 [.ref tb])) (by first | assumption | omega | (intro h9; omega))).trans hm_1_s
  have hm_2_s := zu_s (zu M tb (zAi 1 600 (fun _ => 0))) th (zOb 3 [.ref tb])
  exact z_retv F rfl (by first | decide | assumption | omega) (by first | decide | assumption | omega) dX2_init_13 ⟨rfl, zu_cm (Ne.symm n1)⟩

abbrev rX4_isRest : Room := { frames := 0, cells := 0, slots := 0, locals := 0 }
set_option maxRecDepth 100000 in
set_option maxHeartbeats 4000000 in
theorem c_X4_isRest {l : Launch} (hfl : l.stackTraces = false) (G : zG) {ts t1 t2 t3 : Nat} {f1 f2 f3 : Nat → Int} {nu sc ln wk fx : Int} {wn : Nat} {a : Int} (ha : zR a) (M : zM) (h0 : M ts = some (zOb 5 [.int (zI nu), .ref t1, .ref t2, .ref t3, .int (zI sc), .int (zI ln), .int (zI wk), .int (zI ((wn : Nat))), .int (zI fx)])) (h1 : M t1 = some (zAi 0 5 f1)) (h2 : M t2 = some (zAi 0 5 f2)) (h3 : M t3 = some (zAi 0 5 f3)) (hf : ∀ j, zR (f1 j)) : zCn l G yX4_isRest (.code yX4_isRest cX4_isRest 2 (some .boolean)) rX4_isRest [.ref ts, .int (zI a)] M (zRi (fun x M2 => x = (if (0 ≤ a ∧ a < 5) ∧ f1 a.toNat = -1 then 1 else 0) ∧ M2 = M)) zN := by
  refine zStart hfl (by decide) (own := RX4) rfl [(0, .ref ts), (1, .int (zI a))] (Nat.le_of_ble_eq_true rfl) rfl (fun k hkl hinit hk0 F => ?_)
  have hf1 := hf a.toNat
  refine z_iload_n F 1 dX4_isRest_0 rfl rfl ?_
  refine z_if_lt F 23 dX4_isRest_1 (by decide) (by omega) (fun c_1 => ?_) (fun c_1 => ?_)
  · skip
    refine z_iconst (z := 0) F dX4_isRest_23 (by decide) ?_
    exact z_retz F rfl (by decide) (by first | decide | assumption | omega) (by first | decide | assumption | omega) dX4_isRest_24 ⟨_, rfl, (by split <;> omega), rfl⟩
  · skip
    refine z_iload_n F 1 dX4_isRest_4 rfl rfl ?_
    refine z_iconst (z := 5) F dX4_isRest_5 (by decide) ?_
    refine z_icmp_ge F 23 dX4_isRest_6 (by decide) (by omega) ⟨by decide, by decide⟩ (fun c_2 => ?_) (fun c_2 => ?_)
    · skip
      refine z_iconst (z := 0) F dX4_isRest_23 (by decide) ?_
      exact z_retz F rfl (by decide) (by first | decide | assumption | omega) (by first | decide | assumption | omega) dX4_isRest_24 ⟨_, rfl, (by split <;> omega), rfl⟩
    · skip
      refine z_aload_n F 0 dX4_isRest_9 rfl rfl ?_
      refine z_get F fl_X4_9 h0 rfl dX4_isRest_10 ?_
      refine z_iload_n F 1 dX4_isRest_13 rfl rfl ?_
      refine z_iald F h1 (by omega) (by omega) (by decide) dX4_isRest_14 ?_
      refine z_iconst (z := -1) F dX4_isRest_15 (by decide) ?_
      refine z_icmp_ne F 23 dX4_isRest_16 (by decide) (by omega) ⟨by decide, by decide⟩ (fun c_3 => ?_) (fun c_3 => ?_)
      · skip
        refine z_iconst (z := 0) F dX4_isRest_23 (by decide) ?_
        exact z_retz F rfl (by decide) (by first | decide | assumption | omega) (by first | decide | assumption | omega) dX4_isRest_24 ⟨_, rfl, (by split <;> omega), rfl⟩
      · skip
        refine z_iconst (z := 1) F dX4_isRest_19 (by decide) ?_
        refine z_goto F 24 dX4_isRest_20 (by decide) ?_
        exact z_retz F rfl (by decide) (by first | decide | assumption | omega) (by first | decide | assumption | omega) dX4_isRest_24 ⟨_, rfl, (by split <;> omega), rfl⟩

abbrev rX4_stepFrom : Room := { frames := 0, cells := 0, slots := 0, locals := 0 }
set_option maxRecDepth 100000 in
set_option maxHeartbeats 4000000 in
theorem c_X4_stepFrom {l : Launch} (hfl : l.stackTraces = false) (G : zG) {ts t1 t2 t3 : Nat} {f1 f2 f3 : Nat → Int} {nu sc ln wk fx : Int} {wn : Nat} {a : Int} (ha : zR a) (M : zM) (h0 : M ts = some (zOb 5 [.int (zI nu), .ref t1, .ref t2, .ref t3, .int (zI sc), .int (zI ln), .int (zI wk), .int (zI ((wn : Nat))), .int (zI fx)])) (h1 : M t1 = some (zAi 0 5 f1)) (h2 : M t2 = some (zAi 0 5 f2)) (h3 : M t3 = some (zAi 0 5 f3)) : zCn l G yX4_stepFrom (.code yX4_stepFrom cX4_stepFrom 2 (some .int)) rX4_stepFrom [.ref ts, .int (zI a)] M (zRi (fun x M2 => x = (if 0 ≤ a ∧ a < 5 then f2 a.toNat else 0) ∧ M2 = M)) zN := by
  refine zStart hfl (by decide) (own := RX4) rfl [(0, .ref ts), (1, .int (zI a))] (Nat.le_of_ble_eq_true rfl) rfl (fun k hkl hinit hk0 F => ?_)
  refine z_iload_n F 1 dX4_stepFrom_0 rfl rfl ?_
  refine z_if_lt F 18 dX4_stepFrom_1 (by decide) (by omega) (fun c_1 => ?_) (fun c_1 => ?_)
  · skip
    refine z_iconst (z := 0) F dX4_stepFrom_18 (by decide) ?_
    exact z_reti F rfl (by first | decide | assumption | omega) (by first | decide | assumption | omega) dX4_stepFrom_19 ⟨_, rfl, (by first | exact (if_pos ⟨by omega, by omega⟩).symm | exact (if_neg (by omega)).symm), rfl⟩
  · skip
    refine z_iload_n F 1 dX4_stepFrom_4 rfl rfl ?_
    refine z_iconst (z := 5) F dX4_stepFrom_5 (by decide) ?_
    refine z_icmp_ge F 18 dX4_stepFrom_6 (by decide) (by omega) ⟨by decide, by decide⟩ (fun c_2 => ?_) (fun c_2 => ?_)
    · skip
      refine z_iconst (z := 0) F dX4_stepFrom_18 (by decide) ?_
      exact z_reti F rfl (by first | decide | assumption | omega) (by first | decide | assumption | omega) dX4_stepFrom_19 ⟨_, rfl, (by first | exact (if_pos ⟨by omega, by omega⟩).symm | exact (if_neg (by omega)).symm), rfl⟩
    · skip
      refine z_aload_n F 0 dX4_stepFrom_9 rfl rfl ?_
      refine z_get F fl_X4_15 h0 rfl dX4_stepFrom_10 ?_
      refine z_iload_n F 1 dX4_stepFrom_13 rfl rfl ?_
      refine z_iald F h2 (by omega) (by omega) (by decide) dX4_stepFrom_14 ?_
      refine z_goto F 19 dX4_stepFrom_15 (by decide) ?_
      exact z_reti F rfl (by first | decide | assumption | omega) (by first | decide | assumption | omega) dX4_stepFrom_19 ⟨_, rfl, (by first | exact (if_pos ⟨by omega, by omega⟩).symm | exact (if_neg (by omega)).symm), rfl⟩

abbrev rX4_stepTo : Room := { frames := 0, cells := 0, slots := 0, locals := 0 }
set_option maxRecDepth 100000 in
set_option maxHeartbeats 4000000 in
theorem c_X4_stepTo {l : Launch} (hfl : l.stackTraces = false) (G : zG) {ts t1 t2 t3 : Nat} {f1 f2 f3 : Nat → Int} {nu sc ln wk fx : Int} {wn : Nat} {a : Int} (ha : zR a) (M : zM) (h0 : M ts = some (zOb 5 [.int (zI nu), .ref t1, .ref t2, .ref t3, .int (zI sc), .int (zI ln), .int (zI wk), .int (zI ((wn : Nat))), .int (zI fx)])) (h1 : M t1 = some (zAi 0 5 f1)) (h2 : M t2 = some (zAi 0 5 f2)) (h3 : M t3 = some (zAi 0 5 f3)) : zCn l G yX4_stepTo (.code yX4_stepTo cX4_stepTo 2 (some .int)) rX4_stepTo [.ref ts, .int (zI a)] M (zRi (fun x M2 => x = (if 0 ≤ a ∧ a < 5 then f3 a.toNat else 0) ∧ M2 = M)) zN := by
  refine zStart hfl (by decide) (own := RX4) rfl [(0, .ref ts), (1, .int (zI a))] (Nat.le_of_ble_eq_true rfl) rfl (fun k hkl hinit hk0 F => ?_)
  refine z_iload_n F 1 dX4_stepTo_0 rfl rfl ?_
  refine z_if_lt F 18 dX4_stepTo_1 (by decide) (by omega) (fun c_1 => ?_) (fun c_1 => ?_)
  · skip
    refine z_iconst (z := 0) F dX4_stepTo_18 (by decide) ?_
    exact z_reti F rfl (by first | decide | assumption | omega) (by first | decide | assumption | omega) dX4_stepTo_19 ⟨_, rfl, (by first | exact (if_pos ⟨by omega, by omega⟩).symm | exact (if_neg (by omega)).symm), rfl⟩
  · skip
    refine z_iload_n F 1 dX4_stepTo_4 rfl rfl ?_
    refine z_iconst (z := 5) F dX4_stepTo_5 (by decide) ?_
    refine z_icmp_ge F 18 dX4_stepTo_6 (by decide) (by omega) ⟨by decide, by decide⟩ (fun c_2 => ?_) (fun c_2 => ?_)
    · skip
      refine z_iconst (z := 0) F dX4_stepTo_18 (by decide) ?_
      exact z_reti F rfl (by first | decide | assumption | omega) (by first | decide | assumption | omega) dX4_stepTo_19 ⟨_, rfl, (by first | exact (if_pos ⟨by omega, by omega⟩).symm | exact (if_neg (by omega)).symm), rfl⟩
    · skip
      refine z_aload_n F 0 dX4_stepTo_9 rfl rfl ?_
      refine z_get F fl_X4_18 h0 rfl dX4_stepTo_10 ?_
      refine z_iload_n F 1 dX4_stepTo_13 rfl rfl ?_
      refine z_iald F h3 (by omega) (by omega) (by decide) dX4_stepTo_14 ?_
      refine z_goto F 19 dX4_stepTo_15 (by decide) ?_
      exact z_reti F rfl (by first | decide | assumption | omega) (by first | decide | assumption | omega) dX4_stepTo_19 ⟨_, rfl, (by first | exact (if_pos ⟨by omega, by omega⟩).symm | exact (if_neg (by omega)).symm), rfl⟩

abbrev rX4_init : Room := { frames := 1, cells := 3, slots := 15, locals := 20 }
set_option maxRecDepth 100000 in
set_option maxHeartbeats 4000000 in
theorem c_X4_init {l : Launch} (hfl : l.stackTraces = false) (G : zG) {ts t1 t2 t3 : Nat} {a : Int} (M : zM) (h0 : M ts = some (zOb 5 [.int (zI 0), .null, .null, .null, .int (zI 0), .int (zI 0), .int (zI 0), .int (zI 0), .int (zI 0)])) (h1 : M t1 = none) (h2 : M t2 = none) (h3 : M t3 = none) (m1 : t1 % 64 ≠ 63) (m2 : t2 % 64 ≠ 63) (m3 : t3 % 64 ≠ 63) (n1 : ts ≠ t1) (n2 : ts ≠ t2) (n3 : ts ≠ t3) (n4 : t1 ≠ t2) (n5 : t1 ≠ t3) (n6 : t2 ≠ t3) : zCn l G yX4_init (.code yX4_init cX4_init 2 none) rX4_init [.ref ts, .int (zI a)] M (zRv (fun M2 => M2 = zu (zu (zu (zu M ts (zOb 5 [.int (zI a), .ref t1, .ref t2, .ref t3, .int (zI 0), .int (zI 0), .int (zI 0), .int (zI 0), .int (zI 0)])) t1 (zAi 0 5 (fun _ => 0))) t2 (zAi 0 5 (fun _ => 0))) t3 (zAi 0 5 (fun _ => 0)))) zN := by
  refine zStart hfl (by decide) (own := RX4) rfl [(0, .ref ts), (1, .int (zI a))] (Nat.le_of_ble_eq_true rfl) rfl (fun k hkl hinit hk0 F => ?_)
  refine z_aload_n F 0 dX4_init_0 rfl rfl ?_
  refine z_objI F (zr_9 _ (List.mem_of_getElem? (i := 14) rfl)) (zr_1 _ (List.mem_of_getElem? (i := 11) rfl)) (zr_1 _ (List.mem_of_getElem? (i := 12) rfl)) (Nat.le_of_ble_eq_true rfl) (Nat.le_of_ble_eq_true rfl) dX4_init_1 ?_
  refine z_aload_n F 0 dX4_init_4 rfl rfl ?_
  refine z_iconst (z := 5) F dX4_init_5 (by decide) ?_
  refine z_newi F t1 5 (by decide) (by decide) h1 m1 (by decide) (by decide) (zr_2 _ (List.mem_of_getElem? (i := 23) rfl)) dX4_init_6 ?_
  have hm_1_0 := (zu_n (M := M) (t := t1) (q := ts) (o := (zAi 0 5 (fun _ => 0))) (by first | assumption | omega | (intro h9; omega))).trans h0
  have hm_1_s := zu_s M t1 (zAi 0 5 (fun _ => 0))
  refine z_putF (ty := .array (.int)) F [.int (zI 0), .ref t1, .null, .null, .int (zI 0), .int (zI 0), .int (zI 0), .int (zI 0), .int (zI 0)] fl_X4_9 tyX4 tyX4_ok nmX4 rfl hinit rfl (by decide +kernel) rfl rfl hm_1_0 (Nat.le_of_ble_eq_true rfl) rfl dX4_init_8 ?_
  have hm_2_0 := (zu_n (M := (zu M t1 (zAi 0 5 (fun _ => 0)))) (t := ts) (q := t1) (o := (zOb 5 [.int (zI 0), .ref t1, .null, .null, .int (zI 0), .int (zI 0), .int (zI 0), .int (zI 0), .int (zI 0)])) (by first | assumption | omega | (intro h9; omega))).trans hm_1_s
  have hm_2_s := zu_s (zu M t1 (zAi 0 5 (fun _ => 0))) ts (zOb 5 [.int (zI 0), .ref t1, .null, .null, .int (zI 0), .int (zI 0), .int (zI 0), .int (zI 0), .int (zI 0)])
  refine z_aload_n F 0 dX4_init_11 rfl rfl ?_
  refine z_iconst (z := 5) F dX4_init_12 (by decide) ?_
  refine z_newi F t2 5 (by decide) (by decide) ((zu_n (Ne.symm n2)).trans ((zu_n (Ne.symm n4)).trans h2)) m2 (by decide) (by decide) (zr_2 _ (List.mem_of_getElem? (i := 23) rfl)) dX4_init_13 ?_
  have hm_3_0 := (zu_n (M := (zu (zu M t1 (zAi 0 5 (fun _ => 0))) ts (zOb 5 [.int (zI 0), .ref t1, .null, .null, .int (zI 0), .int (zI 0), .int (zI 0), .int (zI 0), .int (zI 0)]))) (t := t2) (q := t1) (o := (zAi 0 5 (fun _ => 0))) (by first | assumption | omega | (intro h9; omega))).trans hm_2_0
  have hm_3_1 := (zu_n (M := (zu (zu M t1 (zAi 0 5 (fun _ => 0))) ts (zOb 5 [.int (zI 0), .ref t1, .null, .null, .int (zI 0), .int (zI 0), .int (zI 0), .int (zI 0), .int (zI 0)]))) (t := t2) (q := ts) (o := (zAi 0 5 (fun _ => 0))) (by first | assumption | omega | (intro h9; omega))).trans hm_2_s
  have hm_3_s := zu_s (zu (zu M t1 (zAi 0 5 (fun _ => 0))) ts (zOb 5 [.int (zI 0), .ref t1, .null, .null, .int (zI 0), .int (zI 0), .int (zI 0), .int (zI 0), .int (zI 0)])) t2 (zAi 0 5 (fun _ => 0))
  refine z_putF (ty := .array (.int)) F [.int (zI 0), .ref t1, .ref t2, .null, .int (zI 0), .int (zI 0), .int (zI 0), .int (zI 0), .int (zI 0)] fl_X4_15 tyX4 tyX4_ok nmX4 rfl hinit rfl (by decide +kernel) rfl rfl hm_3_1 (Nat.le_of_ble_eq_true rfl) rfl dX4_init_15 ?_
  have hm_4_0 := (zu_n (M := (zu (zu (zu M t1 (zAi 0 5 (fun _ => 0))) ts (zOb 5 [.int (zI 0), .ref t1, .null, .null, .int (zI 0), .int (zI 0), .int (zI 0), .int (zI 0), .int (zI 0)])) t2 (zAi 0 5 (fun _ => 0)))) (t := ts) (q := t1) (o := (zOb 5 [.int (zI 0), .ref t1, .ref t2, .null, .int (zI 0), .int (zI 0), .int (zI 0), .int (zI 0), .int (zI 0)])) (by first | assumption | omega | (intro h9; omega))).trans hm_3_0
  have hm_4_1 := (zu_n (M := (zu (zu (zu M t1 (zAi 0 5 (fun _ => 0))) ts (zOb 5 [.int (zI 0), .ref t1, .null, .null, .int (zI 0), .int (zI 0), .int (zI 0), .int (zI 0), .int (zI 0)])) t2 (zAi 0 5 (fun _ => 0)))) (t := ts) (q := t2) (o := (zOb 5 [.int (zI 0), .ref t1, .ref t2, .null, .int (zI 0), .int (zI 0), .int (zI 0), .int (zI 0), .int (zI 0)])) (by first | assumption | omega | (intro h9; omega))).trans hm_3_s
  have hm_4_s := zu_s (zu (zu (zu M t1 (zAi 0 5 (fun _ => 0))) ts (zOb 5 [.int (zI 0), .ref t1, .null, .null, .int (zI 0), .int (zI 0), .int (zI 0), .int (zI 0), .int (zI 0)])) t2 (zAi 0 5 (fun _ => 0))) ts (zOb 5 [.int (zI 0), .ref t1, .ref t2, .null, .int (zI 0), .int (zI 0), .int (zI 0), .int (zI 0), .int (zI 0)])
  refine z_aload_n F 0 dX4_init_18 rfl rfl ?_
  refine z_iconst (z := 5) F dX4_init_19 (by decide) ?_
  refine z_newi F t3 5 (by decide) (by decide) ((zu_n (Ne.symm n3)).trans ((zu_n (Ne.symm n6)).trans ((zu_n (Ne.symm n3)).trans ((zu_n (Ne.symm n5)).trans h3)))) m3 (by decide) (by decide) (zr_2 _ (List.mem_of_getElem? (i := 23) rfl)) dX4_init_20 ?_
  have hm_5_0 := (zu_n (M := (zu (zu (zu (zu M t1 (zAi 0 5 (fun _ => 0))) ts (zOb 5 [.int (zI 0), .ref t1, .null, .null, .int (zI 0), .int (zI 0), .int (zI 0), .int (zI 0), .int (zI 0)])) t2 (zAi 0 5 (fun _ => 0))) ts (zOb 5 [.int (zI 0), .ref t1, .ref t2, .null, .int (zI 0), .int (zI 0), .int (zI 0), .int (zI 0), .int (zI 0)]))) (t := t3) (q := t1) (o := (zAi 0 5 (fun _ => 0))) (by first | assumption | omega | (intro h9; omega))).trans hm_4_0
  have hm_5_1 := (zu_n (M := (zu (zu (zu (zu M t1 (zAi 0 5 (fun _ => 0))) ts (zOb 5 [.int (zI 0), .ref t1, .null, .null, .int (zI 0), .int (zI 0), .int (zI 0), .int (zI 0), .int (zI 0)])) t2 (zAi 0 5 (fun _ => 0))) ts (zOb 5 [.int (zI 0), .ref t1, .ref t2, .null, .int (zI 0), .int (zI 0), .int (zI 0), .int (zI 0), .int (zI 0)]))) (t := t3) (q := t2) (o := (zAi 0 5 (fun _ => 0))) (by first | assumption | omega | (intro h9; omega))).trans hm_4_1
  have hm_5_2 := (zu_n (M := (zu (zu (zu (zu M t1 (zAi 0 5 (fun _ => 0))) ts (zOb 5 [.int (zI 0), .ref t1, .null, .null, .int (zI 0), .int (zI 0), .int (zI 0), .int (zI 0), .int (zI 0)])) t2 (zAi 0 5 (fun _ => 0))) ts (zOb 5 [.int (zI 0), .ref t1, .ref t2, .null, .int (zI 0), .int (zI 0), .int (zI 0), .int (zI 0), .int (zI 0)]))) (t := t3) (q := ts) (o := (zAi 0 5 (fun _ => 0))) (by first | assumption | omega | (intro h9; omega))).trans hm_4_s
  have hm_5_s := zu_s (zu (zu (zu (zu M t1 (zAi 0 5 (fun _ => 0))) ts (zOb 5 [.int (zI 0), .ref t1, .null, .null, .int (zI 0), .int (zI 0), .int (zI 0), .int (zI 0), .int (zI 0)])) t2 (zAi 0 5 (fun _ => 0))) ts (zOb 5 [.int (zI 0), .ref t1, .ref t2, .null, .int (zI 0), .int (zI 0), .int (zI 0), .int (zI 0), .int (zI 0)])) t3 (zAi 0 5 (fun _ => 0))
  refine z_putF (ty := .array (.int)) F [.int (zI 0), .ref t1, .ref t2, .ref t3, .int (zI 0), .int (zI 0), .int (zI 0), .int (zI 0), .int (zI 0)] fl_X4_18 tyX4 tyX4_ok nmX4 rfl hinit rfl (by decide +kernel) rfl rfl hm_5_2 (Nat.le_of_ble_eq_true rfl) rfl dX4_init_22 ?_
  have hm_6_0 := (zu_n (M := (zu (zu (zu (zu (zu M t1 (zAi 0 5 (fun _ => 0))) ts (zOb 5 [.int (zI 0), .ref t1, .null, .null, .int (zI 0), .int (zI 0), .int (zI 0), .int (zI 0), .int (zI 0)])) t2 (zAi 0 5 (fun _ => 0))) ts (zOb 5 [.int (zI 0), .ref t1, .ref t2, .null, .int (zI 0), .int (zI 0), .int (zI 0), .int (zI 0), .int (zI 0)])) t3 (zAi 0 5 (fun _ => 0)))) (t := ts) (q := t1) (o := (zOb 5 [.int (zI 0), .ref t1, .ref t2, .ref t3, .int (zI 0), .int (zI 0), .int (zI 0), .int (zI 0), .int (zI 0)])) (by first | assumption | omega | (intro h9; omega))).trans hm_5_0
  have hm_6_1 := (zu_n (M := (zu (zu (zu (zu (zu M t1 (zAi 0 5 (fun _ => 0))) ts (zOb 5 [.int (zI 0), .ref t1, .null, .null, .int (zI 0), .int (zI 0), .int (zI 0), .int (zI 0), .int (zI 0)])) t2 (zAi 0 5 (fun _ => 0))) ts (zOb 5 [.int (zI 0), .ref t1, .ref t2, .null, .int (zI 0), .int (zI 0), .int (zI 0), .int (zI 0), .int (zI 0)])) t3 (zAi 0 5 (fun _ => 0)))) (t := ts) (q := t2) (o := (zOb 5 [.int (zI 0), .ref t1, .ref t2, .ref t3, .int (zI 0), .int (zI 0), .int (zI 0), .int (zI 0), .int (zI 0)])) (by first | assumption | omega | (intro h9; omega))).trans hm_5_1
  have hm_6_2 := (zu_n (M := (zu (zu (zu (zu (zu M t1 (zAi 0 5 (fun _ => 0))) ts (zOb 5 [.int (zI 0), .ref t1, .null, .null, .int (zI 0), .int (zI 0), .int (zI 0), .int (zI 0), .int (zI 0)])) t2 (zAi 0 5 (fun _ => 0))) ts (zOb 5 [.int (zI 0), .ref t1, .ref t2, .null, .int (zI 0), .int (zI 0), .int (zI 0), .int (zI 0), .int (zI 0)])) t3 (zAi 0 5 (fun _ => 0)))) (t := ts) (q := t3) (o := (zOb 5 [.int (zI 0), .ref t1, .ref t2, .ref t3, .int (zI 0), .int (zI 0), .int (zI 0), .int (zI 0), .int (zI 0)])) (by first | assumption | omega | (intro h9; omega))).trans hm_5_s
  have hm_6_s := zu_s (zu (zu (zu (zu (zu M t1 (zAi 0 5 (fun _ => 0))) ts (zOb 5 [.int (zI 0), .ref t1, .null, .null, .int (zI 0), .int (zI 0), .int (zI 0), .int (zI 0), .int (zI 0)])) t2 (zAi 0 5 (fun _ => 0))) ts (zOb 5 [.int (zI 0), .ref t1, .ref t2, .null, .int (zI 0), .int (zI 0), .int (zI 0), .int (zI 0), .int (zI 0)])) t3 (zAi 0 5 (fun _ => 0))) ts (zOb 5 [.int (zI 0), .ref t1, .ref t2, .ref t3, .int (zI 0), .int (zI 0), .int (zI 0), .int (zI 0), .int (zI 0)])
  refine z_aload_n F 0 dX4_init_25 rfl rfl ?_
  refine z_iload_n F 1 dX4_init_26 rfl rfl ?_
  refine z_putF (ty := .int) F [.int (zI a), .ref t1, .ref t2, .ref t3, .int (zI 0), .int (zI 0), .int (zI 0), .int (zI 0), .int (zI 0)] fl_X4_21 tyX4 tyX4_ok nmX4 rfl hinit rfl (by decide +kernel) rfl rfl hm_6_s (Nat.le_of_ble_eq_true rfl) rfl dX4_init_27 ?_
  have hm_7_0 := (zu_n (M := (zu (zu (zu (zu (zu (zu M t1 (zAi 0 5 (fun _ => 0))) ts (zOb 5 [.int (zI 0), .ref t1, .null, .null, .int (zI 0), .int (zI 0), .int (zI 0), .int (zI 0), .int (zI 0)])) t2 (zAi 0 5 (fun _ => 0))) ts (zOb 5 [.int (zI 0), .ref t1, .ref t2, .null, .int (zI 0), .int (zI 0), .int (zI 0), .int (zI 0), .int (zI 0)])) t3 (zAi 0 5 (fun _ => 0))) ts (zOb 5 [.int (zI 0), .ref t1, .ref t2, .ref t3, .int (zI 0), .int (zI 0), .int (zI 0), .int (zI 0), .int (zI 0)]))) (t := ts) (q := t1) (o := (zOb 5 [.int (zI a), .ref t1, .ref t2, .ref t3, .int (zI 0), .int (zI 0), .int (zI 0), .int (zI 0), .int (zI 0)])) (by first | assumption | omega | (intro h9; omega))).trans hm_6_0
  have hm_7_1 := (zu_n (M := (zu (zu (zu (zu (zu (zu M t1 (zAi 0 5 (fun _ => 0))) ts (zOb 5 [.int (zI 0), .ref t1, .null, .null, .int (zI 0), .int (zI 0), .int (zI 0), .int (zI 0), .int (zI 0)])) t2 (zAi 0 5 (fun _ => 0))) ts (zOb 5 [.int (zI 0), .ref t1, .ref t2, .null, .int (zI 0), .int (zI 0), .int (zI 0), .int (zI 0), .int (zI 0)])) t3 (zAi 0 5 (fun _ => 0))) ts (zOb 5 [.int (zI 0), .ref t1, .ref t2, .ref t3, .int (zI 0), .int (zI 0), .int (zI 0), .int (zI 0), .int (zI 0)]))) (t := ts) (q := t2) (o := (zOb 5 [.int (zI a), .ref t1, .ref t2, .ref t3, .int (zI 0), .int (zI 0), .int (zI 0), .int (zI 0), .int (zI 0)])) (by first | assumption | omega | (intro h9; omega))).trans hm_6_1
  have hm_7_2 := (zu_n (M := (zu (zu (zu (zu (zu (zu M t1 (zAi 0 5 (fun _ => 0))) ts (zOb 5 [.int (zI 0), .ref t1, .null, .null, .int (zI 0), .int (zI 0), .int (zI 0), .int (zI 0), .int (zI 0)])) t2 (zAi 0 5 (fun _ => 0))) ts (zOb 5 [.int (zI 0), .ref t1, .ref t2, .null, .int (zI 0), .int (zI 0), .int (zI 0), .int (zI 0), .int (zI 0)])) t3 (zAi 0 5 (fun _ => 0))) ts (zOb 5 [.int (zI 0), .ref t1, .ref t2, .ref t3, .int (zI 0), .int (zI 0), .int (zI 0), .int (zI 0), .int (zI 0)]))) (t := ts) (q := t3) (o := (zOb 5 [.int (zI a), .ref t1, .ref t2, .ref t3, .int (zI 0), .int (zI 0), .int (zI 0), .int (zI 0), .int (zI 0)])) (by first | assumption | omega | (intro h9; omega))).trans hm_6_2
  have hm_7_s := zu_s (zu (zu (zu (zu (zu (zu M t1 (zAi 0 5 (fun _ => 0))) ts (zOb 5 [.int (zI 0), .ref t1, .null, .null, .int (zI 0), .int (zI 0), .int (zI 0), .int (zI 0), .int (zI 0)])) t2 (zAi 0 5 (fun _ => 0))) ts (zOb 5 [.int (zI 0), .ref t1, .ref t2, .null, .int (zI 0), .int (zI 0), .int (zI 0), .int (zI 0), .int (zI 0)])) t3 (zAi 0 5 (fun _ => 0))) ts (zOb 5 [.int (zI 0), .ref t1, .ref t2, .ref t3, .int (zI 0), .int (zI 0), .int (zI 0), .int (zI 0), .int (zI 0)])) ts (zOb 5 [.int (zI a), .ref t1, .ref t2, .ref t3, .int (zI 0), .int (zI 0), .int (zI 0), .int (zI 0), .int (zI 0)])
  exact z_retv F rfl (by first | decide | assumption | omega) (by first | decide | assumption | omega) dX4_init_30 ⟨rfl, zInit4 n1 n2 n3⟩

theorem zApp4 {M : zM} {ts t1 t2 t3 : Nat} {o1 o2 o3 a b c d : zO} (n1 : ts ≠ t1) (n2 : ts ≠ t2) (n3 : ts ≠ t3) : zu (zu (zu (zu (zu (zu (zu M t1 o1) t2 o2) t3 o3) ts a) ts b) ts c) ts d = zu (zu (zu (zu M ts d) t1 o1) t2 o2) t3 o3 := by
  funext q
  simp only [zu]
  by_cases h : q = ts
  · subst h; simp [n1, n2, n3]
  · simp [h]
theorem zApp2 {M : zM} {ts t1 t2 t3 : Nat} {o1 o2 o3 a b : zO} (n1 : ts ≠ t1) (n2 : ts ≠ t2) (n3 : ts ≠ t3) : zu (zu (zu (zu (zu M t1 o1) t2 o2) t3 o3) ts a) ts b = zu (zu (zu (zu M ts b) t1 o1) t2 o2) t3 o3 := by
  funext q
  simp only [zu]
  by_cases h : q = ts
  · subst h; simp [n1, n2, n3]
  · simp [h]
abbrev rX4_append : Room := { frames := 0, cells := 0, slots := 0, locals := 0 }
set_option maxRecDepth 100000 in
set_option maxHeartbeats 4000000 in
theorem c_X4_append {l : Launch} (hfl : l.stackTraces = false) (G : zG) {ts t1 t2 t3 : Nat} {f1 f2 f3 : Nat → Int} {nu sc ln wk fx : Int} {wn : Nat} {sk mi : Int} (M : zM) (h0 : M ts = some (zOb 5 [.int (zI nu), .ref t1, .ref t2, .ref t3, .int (zI sc), .int (zI ln), .int (zI wk), .int (zI ((wn : Nat))), .int (zI fx)])) (h1 : M t1 = some (zAi 0 5 f1)) (h2 : M t2 = some (zAi 0 5 f2)) (h3 : M t3 = some (zAi 0 5 f3)) (n1 : ts ≠ t1) (n2 : ts ≠ t2) (n3 : ts ≠ t3) (n4 : t1 ≠ t2) (n5 : t1 ≠ t3) (n6 : t2 ≠ t3) (hs0 : 0 ≤ sc) (hs1 : sc < 5) (hk0 : -1 ≤ sk) (hk1 : sk < 4) : zCn l G yX4_append (.code yX4_append cX4_append 3 none) rX4_append [.ref ts, .int (zI sk), .int (zI mi)] M (zRv (fun M2 => M2 = zu (zu (zu (zu M ts (zOb 5 [.int (zI nu), .ref t1, .ref t2, .ref t3, .int (zI (sc + 1)), .int (zI (ln + mi)), .int (zI (if sk = -1 then wk else wk + mi)), .int (zI ((if sk = -1 then wn else wn ||| 2 ^ sk.toNat : Nat) : Int)), .int (zI fx)])) t1 (zAi 0 5 (zup f1 sc.toNat sk))) t2 (zAi 0 5 (zup f2 sc.toNat ln))) t3 (zAi 0 5 (zup f3 sc.toNat (ln + mi))))) zN := by
  refine zStart hfl (by decide) (own := RX4) rfl [(0, .ref ts), (1, .int (zI sk)), (2, .int (zI mi))] (Nat.le_of_ble_eq_true rfl) rfl (fun k hkl hinit hk0 F => ?_)
  refine z_aload_n F 0 dX4_append_0 rfl rfl ?_
  refine z_get F fl_X4_25 h0 rfl dX4_append_1 ?_
  refine z_if_lt F 15 dX4_append_4 (by decide) (by omega) (fun c_1 => ?_) (fun c_1 => ?_)
  · skip
    exact absurd c_1 (by omega)
  · skip
    refine z_aload_n F 0 dX4_append_7 rfl rfl ?_
    refine z_get F fl_X4_25 h0 rfl dX4_append_8 ?_
    refine z_iconst (z := 5) F dX4_append_11 (by decide) ?_
    refine z_icmp_lt F 16 dX4_append_12 (by decide) (by omega) ⟨by decide, by decide⟩ (fun c_2 => ?_) (fun c_2 => ?_)
    · skip
      refine z_aload_n F 0 dX4_append_16 rfl rfl ?_
      refine z_get F fl_X4_9 h0 rfl dX4_append_17 ?_
      refine z_aload_n F 0 dX4_append_20 rfl rfl ?_
      refine z_get F fl_X4_25 h0 rfl dX4_append_21 ?_
      refine z_iload_n F 1 dX4_append_24 rfl rfl ?_
      refine z_iast F h1 (by omega) (by omega) (by decide) dX4_append_25 ?_
      have hm_3_0 := (zu_n (M := M) (t := t1) (q := ts) (o := (zAi 0 5 (zup f1 (sc).toNat sk))) (by first | assumption | omega | (intro h9; omega))).trans h0
      have hm_3_1 := (zu_n (M := M) (t := t1) (q := t2) (o := (zAi 0 5 (zup f1 (sc).toNat sk))) (by first | assumption | omega | (intro h9; omega))).trans h2
      have hm_3_2 := (zu_n (M := M) (t := t1) (q := t3) (o := (zAi 0 5 (zup f1 (sc).toNat sk))) (by first | assumption | omega | (intro h9; omega))).trans h3
      have hm_3_s := zu_s M t1 (zAi 0 5 (zup f1 (sc).toNat sk))
      refine z_aload_n F 0 dX4_append_26 rfl rfl ?_
      refine z_get F fl_X4_15 hm_3_0 rfl dX4_append_27 ?_
      refine z_aload_n F 0 dX4_append_30 rfl rfl ?_
      refine z_get F fl_X4_25 hm_3_0 rfl dX4_append_31 ?_
      refine z_aload_n F 0 dX4_append_34 rfl rfl ?_
      refine z_get F fl_X4_28 hm_3_0 rfl dX4_append_35 ?_
      refine z_iast F hm_3_1 (by omega) (by omega) (by decide) dX4_append_38 ?_
      have hm_4_0 := (zu_n (M := (zu M t1 (zAi 0 5 (zup f1 (sc).toNat sk)))) (t := t2) (q := ts) (o := (zAi 0 5 (zup f2 (sc).toNat ln))) (by first | assumption | omega | (intro h9; omega))).trans hm_3_0
      have hm_4_1 := (zu_n (M := (zu M t1 (zAi 0 5 (zup f1 (sc).toNat sk)))) (t := t2) (q := t3) (o := (zAi 0 5 (zup f2 (sc).toNat ln))) (by first | assumption | omega | (intro h9; omega))).trans hm_3_2
      have hm_4_2 := (zu_n (M := (zu M t1 (zAi 0 5 (zup f1 (sc).toNat sk)))) (t := t2) (q := t1) (o := (zAi 0 5 (zup f2 (sc).toNat ln))) (by first | assumption | omega | (intro h9; omega))).trans hm_3_s
      have hm_4_s := zu_s (zu M t1 (zAi 0 5 (zup f1 (sc).toNat sk))) t2 (zAi 0 5 (zup f2 (sc).toNat ln))
      refine z_aload_n F 0 dX4_append_39 rfl rfl ?_
      refine z_get F fl_X4_18 hm_4_0 rfl dX4_append_40 ?_
      refine z_aload_n F 0 dX4_append_43 rfl rfl ?_
      refine z_get F fl_X4_25 hm_4_0 rfl dX4_append_44 ?_
      refine z_aload_n F 0 dX4_append_47 rfl rfl ?_
      refine z_get F fl_X4_28 hm_4_0 rfl dX4_append_48 ?_
      refine z_iload_n F 2 dX4_append_51 rfl rfl ?_
      refine z_iadd F dX4_append_52 ?_
      refine z_iast F hm_4_1 (by omega) (by omega) (by decide) dX4_append_53 ?_
      have hm_5_0 := (zu_n (M := (zu (zu M t1 (zAi 0 5 (zup f1 (sc).toNat sk))) t2 (zAi 0 5 (zup f2 (sc).toNat ln)))) (t := t3) (q := ts) (o := (zAi 0 5 (zup f3 (sc).toNat (ln + mi)))) (by first | assumption | omega | (intro h9; omega))).trans hm_4_0
      have hm_5_1 := (zu_n (M := (zu (zu M t1 (zAi 0 5 (zup f1 (sc).toNat sk))) t2 (zAi 0 5 (zup f2 (sc).toNat ln)))) (t := t3) (q := t1) (o := (zAi 0 5 (zup f3 (sc).toNat (ln + mi)))) (by first | assumption | omega | (intro h9; omega))).trans hm_4_2
      have hm_5_2 := (zu_n (M := (zu (zu M t1 (zAi 0 5 (zup f1 (sc).toNat sk))) t2 (zAi 0 5 (zup f2 (sc).toNat ln)))) (t := t3) (q := t2) (o := (zAi 0 5 (zup f3 (sc).toNat (ln + mi)))) (by first | assumption | omega | (intro h9; omega))).trans hm_4_s
      have hm_5_s := zu_s (zu (zu M t1 (zAi 0 5 (zup f1 (sc).toNat sk))) t2 (zAi 0 5 (zup f2 (sc).toNat ln))) t3 (zAi 0 5 (zup f3 (sc).toNat (ln + mi)))
      refine z_aload_n F 0 dX4_append_54 rfl rfl ?_
      refine z_dup F dX4_append_55 rfl ?_
      refine z_get F fl_X4_25 hm_5_0 rfl dX4_append_56 ?_
      refine z_iconst (z := 1) F dX4_append_59 (by decide) ?_
      refine z_iadd F dX4_append_60 ?_
      refine z_put (ty := .int) F [.int (zI nu), .ref t1, .ref t2, .ref t3, .int (zI (sc + 1)), .int (zI ln), .int (zI wk), .int (zI ((wn : Nat))), .int (zI fx)] fl_X4_25 tyX4 tyX4_ok nmX4 rfl (by decide +kernel) rfl rfl hm_5_0 (Nat.le_of_ble_eq_true rfl) rfl dX4_append_61 ?_
      have hm_6_0 := (zu_n (M := (zu (zu (zu M t1 (zAi 0 5 (zup f1 (sc).toNat sk))) t2 (zAi 0 5 (zup f2 (sc).toNat ln))) t3 (zAi 0 5 (zup f3 (sc).toNat (ln + mi))))) (t := ts) (q := t1) (o := (zOb 5 [.int (zI nu), .ref t1, .ref t2, .ref t3, .int (zI (sc + 1)), .int (zI ln), .int (zI wk), .int (zI ((wn : Nat))), .int (zI fx)])) (by first | assumption | omega | (intro h9; omega))).trans hm_5_1
      have hm_6_1 := (zu_n (M := (zu (zu (zu M t1 (zAi 0 5 (zup f1 (sc).toNat sk))) t2 (zAi 0 5 (zup f2 (sc).toNat ln))) t3 (zAi 0 5 (zup f3 (sc).toNat (ln + mi))))) (t := ts) (q := t2) (o := (zOb 5 [.int (zI nu), .ref t1, .ref t2, .ref t3, .int (zI (sc + 1)), .int (zI ln), .int (zI wk), .int (zI ((wn : Nat))), .int (zI fx)])) (by first | assumption | omega | (intro h9; omega))).trans hm_5_2
      have hm_6_2 := (zu_n (M := (zu (zu (zu M t1 (zAi 0 5 (zup f1 (sc).toNat sk))) t2 (zAi 0 5 (zup f2 (sc).toNat ln))) t3 (zAi 0 5 (zup f3 (sc).toNat (ln + mi))))) (t := ts) (q := t3) (o := (zOb 5 [.int (zI nu), .ref t1, .ref t2, .ref t3, .int (zI (sc + 1)), .int (zI ln), .int (zI wk), .int (zI ((wn : Nat))), .int (zI fx)])) (by first | assumption | omega | (intro h9; omega))).trans hm_5_s
      have hm_6_s := zu_s (zu (zu (zu M t1 (zAi 0 5 (zup f1 (sc).toNat sk))) t2 (zAi 0 5 (zup f2 (sc).toNat ln))) t3 (zAi 0 5 (zup f3 (sc).toNat (ln + mi)))) ts (zOb 5 [.int (zI nu), .ref t1, .ref t2, .ref t3, .int (zI (sc + 1)), .int (zI ln), .int (zI wk), .int (zI ((wn : Nat))), .int (zI fx)])
      refine z_aload_n F 0 dX4_append_64 rfl rfl ?_
      refine z_dup F dX4_append_65 rfl ?_
      refine z_get F fl_X4_28 hm_6_s rfl dX4_append_66 ?_
      refine z_iload_n F 2 dX4_append_69 rfl rfl ?_
      refine z_iadd F dX4_append_70 ?_
      refine z_put (ty := .int) F [.int (zI nu), .ref t1, .ref t2, .ref t3, .int (zI (sc + 1)), .int (zI (ln + mi)), .int (zI wk), .int (zI ((wn : Nat))), .int (zI fx)] fl_X4_28 tyX4 tyX4_ok nmX4 rfl (by decide +kernel) rfl rfl hm_6_s (Nat.le_of_ble_eq_true rfl) rfl dX4_append_71 ?_
      have hm_7_0 := (zu_n (M := (zu (zu (zu (zu M t1 (zAi 0 5 (zup f1 (sc).toNat sk))) t2 (zAi 0 5 (zup f2 (sc).toNat ln))) t3 (zAi 0 5 (zup f3 (sc).toNat (ln + mi)))) ts (zOb 5 [.int (zI nu), .ref t1, .ref t2, .ref t3, .int (zI (sc + 1)), .int (zI ln), .int (zI wk), .int (zI ((wn : Nat))), .int (zI fx)]))) (t := ts) (q := t1) (o := (zOb 5 [.int (zI nu), .ref t1, .ref t2, .ref t3, .int (zI (sc + 1)), .int (zI (ln + mi)), .int (zI wk), .int (zI ((wn : Nat))), .int (zI fx)])) (by first | assumption | omega | (intro h9; omega))).trans hm_6_0
      have hm_7_1 := (zu_n (M := (zu (zu (zu (zu M t1 (zAi 0 5 (zup f1 (sc).toNat sk))) t2 (zAi 0 5 (zup f2 (sc).toNat ln))) t3 (zAi 0 5 (zup f3 (sc).toNat (ln + mi)))) ts (zOb 5 [.int (zI nu), .ref t1, .ref t2, .ref t3, .int (zI (sc + 1)), .int (zI ln), .int (zI wk), .int (zI ((wn : Nat))), .int (zI fx)]))) (t := ts) (q := t2) (o := (zOb 5 [.int (zI nu), .ref t1, .ref t2, .ref t3, .int (zI (sc + 1)), .int (zI (ln + mi)), .int (zI wk), .int (zI ((wn : Nat))), .int (zI fx)])) (by first | assumption | omega | (intro h9; omega))).trans hm_6_1
      have hm_7_2 := (zu_n (M := (zu (zu (zu (zu M t1 (zAi 0 5 (zup f1 (sc).toNat sk))) t2 (zAi 0 5 (zup f2 (sc).toNat ln))) t3 (zAi 0 5 (zup f3 (sc).toNat (ln + mi)))) ts (zOb 5 [.int (zI nu), .ref t1, .ref t2, .ref t3, .int (zI (sc + 1)), .int (zI ln), .int (zI wk), .int (zI ((wn : Nat))), .int (zI fx)]))) (t := ts) (q := t3) (o := (zOb 5 [.int (zI nu), .ref t1, .ref t2, .ref t3, .int (zI (sc + 1)), .int (zI (ln + mi)), .int (zI wk), .int (zI ((wn : Nat))), .int (zI fx)])) (by first | assumption | omega | (intro h9; omega))).trans hm_6_2
      have hm_7_s := zu_s (zu (zu (zu (zu M t1 (zAi 0 5 (zup f1 (sc).toNat sk))) t2 (zAi 0 5 (zup f2 (sc).toNat ln))) t3 (zAi 0 5 (zup f3 (sc).toNat (ln + mi)))) ts (zOb 5 [.int (zI nu), .ref t1, .ref t2, .ref t3, .int (zI (sc + 1)), .int (zI ln), .int (zI wk), .int (zI ((wn : Nat))), .int (zI fx)])) ts (zOb 5 [.int (zI nu), .ref t1, .ref t2, .ref t3, .int (zI (sc + 1)), .int (zI (ln + mi)), .int (zI wk), .int (zI ((wn : Nat))), .int (zI fx)])
      refine z_iload_n F 1 dX4_append_74 rfl rfl ?_
      refine z_iconst (z := -1) F dX4_append_75 (by decide) ?_
      refine z_icmp_eq F 101 dX4_append_76 (by decide) (by omega) ⟨by decide, by decide⟩ (fun c_8 => ?_) (fun c_8 => ?_)
      · skip
        exact z_retv F rfl (by first | decide | assumption | omega) (by first | decide | assumption | omega) dX4_append_101 ⟨rfl, (by first | (rw [if_pos (show sk = -1 by omega), if_pos (show sk = -1 by omega)]; exact zApp2 n1 n2 n3) | (rw [if_neg (show ¬ sk = -1 by omega), if_neg (show ¬ sk = -1 by omega)]; exact zApp4 n1 n2 n3))⟩
      · skip
        refine z_aload_n F 0 dX4_append_79 rfl rfl ?_
        refine z_dup F dX4_append_80 rfl ?_
        refine z_get F fl_X4_31 hm_7_s rfl dX4_append_81 ?_
        refine z_iload_n F 2 dX4_append_84 rfl rfl ?_
        refine z_iadd F dX4_append_85 ?_
        refine z_put (ty := .int) F [.int (zI nu), .ref t1, .ref t2, .ref t3, .int (zI (sc + 1)), .int (zI (ln + mi)), .int (zI (wk + mi)), .int (zI ((wn : Nat))), .int (zI fx)] fl_X4_31 tyX4 tyX4_ok nmX4 rfl (by decide +kernel) rfl rfl hm_7_s (Nat.le_of_ble_eq_true rfl) rfl dX4_append_86 ?_
        have hm_9_0 := (zu_n (M := (zu (zu (zu (zu (zu M t1 (zAi 0 5 (zup f1 (sc).toNat sk))) t2 (zAi 0 5 (zup f2 (sc).toNat ln))) t3 (zAi 0 5 (zup f3 (sc).toNat (ln + mi)))) ts (zOb 5 [.int (zI nu), .ref t1, .ref t2, .ref t3, .int (zI (sc + 1)), .int (zI ln), .int (zI wk), .int (zI ((wn : Nat))), .int (zI fx)])) ts (zOb 5 [.int (zI nu), .ref t1, .ref t2, .ref t3, .int (zI (sc + 1)), .int (zI (ln + mi)), .int (zI wk), .int (zI ((wn : Nat))), .int (zI fx)]))) (t := ts) (q := t1) (o := (zOb 5 [.int (zI nu), .ref t1, .ref t2, .ref t3, .int (zI (sc + 1)), .int (zI (ln + mi)), .int (zI (wk + mi)), .int (zI ((wn : Nat))), .int (zI fx)])) (by first | assumption | omega | (intro h9; omega))).trans hm_7_0
        have hm_9_1 := (zu_n (M := (zu (zu (zu (zu (zu M t1 (zAi 0 5 (zup f1 (sc).toNat sk))) t2 (zAi 0 5 (zup f2 (sc).toNat ln))) t3 (zAi 0 5 (zup f3 (sc).toNat (ln + mi)))) ts (zOb 5 [.int (zI nu), .ref t1, .ref t2, .ref t3, .int (zI (sc + 1)), .int (zI ln), .int (zI wk), .int (zI ((wn : Nat))), .int (zI fx)])) ts (zOb 5 [.int (zI nu), .ref t1, .ref t2, .ref t3, .int (zI (sc + 1)), .int (zI (ln + mi)), .int (zI wk), .int (zI ((wn : Nat))), .int (zI fx)]))) (t := ts) (q := t2) (o := (zOb 5 [.int (zI nu), .ref t1, .ref t2, .ref t3, .int (zI (sc + 1)), .int (zI (ln + mi)), .int (zI (wk + mi)), .int (zI ((wn : Nat))), .int (zI fx)])) (by first | assumption | omega | (intro h9; omega))).trans hm_7_1
        have hm_9_2 := (zu_n (M := (zu (zu (zu (zu (zu M t1 (zAi 0 5 (zup f1 (sc).toNat sk))) t2 (zAi 0 5 (zup f2 (sc).toNat ln))) t3 (zAi 0 5 (zup f3 (sc).toNat (ln + mi)))) ts (zOb 5 [.int (zI nu), .ref t1, .ref t2, .ref t3, .int (zI (sc + 1)), .int (zI ln), .int (zI wk), .int (zI ((wn : Nat))), .int (zI fx)])) ts (zOb 5 [.int (zI nu), .ref t1, .ref t2, .ref t3, .int (zI (sc + 1)), .int (zI (ln + mi)), .int (zI wk), .int (zI ((wn : Nat))), .int (zI fx)]))) (t := ts) (q := t3) (o := (zOb 5 [.int (zI nu), .ref t1, .ref t2, .ref t3, .int (zI (sc + 1)), .int (zI (ln + mi)), .int (zI (wk + mi)), .int (zI ((wn : Nat))), .int (zI fx)])) (by first | assumption | omega | (intro h9; omega))).trans hm_7_2
        have hm_9_s := zu_s (zu (zu (zu (zu (zu M t1 (zAi 0 5 (zup f1 (sc).toNat sk))) t2 (zAi 0 5 (zup f2 (sc).toNat ln))) t3 (zAi 0 5 (zup f3 (sc).toNat (ln + mi)))) ts (zOb 5 [.int (zI nu), .ref t1, .ref t2, .ref t3, .int (zI (sc + 1)), .int (zI ln), .int (zI wk), .int (zI ((wn : Nat))), .int (zI fx)])) ts (zOb 5 [.int (zI nu), .ref t1, .ref t2, .ref t3, .int (zI (sc + 1)), .int (zI (ln + mi)), .int (zI wk), .int (zI ((wn : Nat))), .int (zI fx)])) ts (zOb 5 [.int (zI nu), .ref t1, .ref t2, .ref t3, .int (zI (sc + 1)), .int (zI (ln + mi)), .int (zI (wk + mi)), .int (zI ((wn : Nat))), .int (zI fx)])
        refine z_aload_n F 0 dX4_append_89 rfl rfl ?_
        refine z_dup F dX4_append_90 rfl ?_
        refine z_get F fl_X4_34 hm_9_s rfl dX4_append_91 ?_
        refine z_iconst (z := 1) F dX4_append_94 (by decide) ?_
        refine z_iload_n F 1 dX4_append_95 rfl rfl ?_
        refine z_ishl F (((2 ^ sk.toNat : Nat) : Int)) dX4_append_96 (zI_bitI (by omega) (by omega)) ?_
        refine z_ior F (((wn ||| 2 ^ sk.toNat : Nat) : Int)) dX4_append_97 (zI_or _ _) ?_
        refine z_put (ty := .int) F [.int (zI nu), .ref t1, .ref t2, .ref t3, .int (zI (sc + 1)), .int (zI (ln + mi)), .int (zI (wk + mi)), .int (zI (((wn ||| 2 ^ sk.toNat : Nat) : Int))), .int (zI fx)] fl_X4_34 tyX4 tyX4_ok nmX4 rfl (by decide +kernel) rfl rfl hm_9_s (Nat.le_of_ble_eq_true rfl) rfl dX4_append_98 ?_
        have hm_10_0 := (zu_n (M := (zu (zu (zu (zu (zu (zu M t1 (zAi 0 5 (zup f1 (sc).toNat sk))) t2 (zAi 0 5 (zup f2 (sc).toNat ln))) t3 (zAi 0 5 (zup f3 (sc).toNat (ln + mi)))) ts (zOb 5 [.int (zI nu), .ref t1, .ref t2, .ref t3, .int (zI (sc + 1)), .int (zI ln), .int (zI wk), .int (zI ((wn : Nat))), .int (zI fx)])) ts (zOb 5 [.int (zI nu), .ref t1, .ref t2, .ref t3, .int (zI (sc + 1)), .int (zI (ln + mi)), .int (zI wk), .int (zI ((wn : Nat))), .int (zI fx)])) ts (zOb 5 [.int (zI nu), .ref t1, .ref t2, .ref t3, .int (zI (sc + 1)), .int (zI (ln + mi)), .int (zI (wk + mi)), .int (zI ((wn : Nat))), .int (zI fx)]))) (t := ts) (q := t1) (o := (zOb 5 [.int (zI nu), .ref t1, .ref t2, .ref t3, .int (zI (sc + 1)), .int (zI (ln + mi)), .int (zI (wk + mi)), .int (zI (((wn ||| 2 ^ sk.toNat : Nat) : Int))), .int (zI fx)])) (by first | assumption | omega | (intro h9; omega))).trans hm_9_0
        have hm_10_1 := (zu_n (M := (zu (zu (zu (zu (zu (zu M t1 (zAi 0 5 (zup f1 (sc).toNat sk))) t2 (zAi 0 5 (zup f2 (sc).toNat ln))) t3 (zAi 0 5 (zup f3 (sc).toNat (ln + mi)))) ts (zOb 5 [.int (zI nu), .ref t1, .ref t2, .ref t3, .int (zI (sc + 1)), .int (zI ln), .int (zI wk), .int (zI ((wn : Nat))), .int (zI fx)])) ts (zOb 5 [.int (zI nu), .ref t1, .ref t2, .ref t3, .int (zI (sc + 1)), .int (zI (ln + mi)), .int (zI wk), .int (zI ((wn : Nat))), .int (zI fx)])) ts (zOb 5 [.int (zI nu), .ref t1, .ref t2, .ref t3, .int (zI (sc + 1)), .int (zI (ln + mi)), .int (zI (wk + mi)), .int (zI ((wn : Nat))), .int (zI fx)]))) (t := ts) (q := t2) (o := (zOb 5 [.int (zI nu), .ref t1, .ref t2, .ref t3, .int (zI (sc + 1)), .int (zI (ln + mi)), .int (zI (wk + mi)), .int (zI (((wn ||| 2 ^ sk.toNat : Nat) : Int))), .int (zI fx)])) (by first | assumption | omega | (intro h9; omega))).trans hm_9_1
        have hm_10_2 := (zu_n (M := (zu (zu (zu (zu (zu (zu M t1 (zAi 0 5 (zup f1 (sc).toNat sk))) t2 (zAi 0 5 (zup f2 (sc).toNat ln))) t3 (zAi 0 5 (zup f3 (sc).toNat (ln + mi)))) ts (zOb 5 [.int (zI nu), .ref t1, .ref t2, .ref t3, .int (zI (sc + 1)), .int (zI ln), .int (zI wk), .int (zI ((wn : Nat))), .int (zI fx)])) ts (zOb 5 [.int (zI nu), .ref t1, .ref t2, .ref t3, .int (zI (sc + 1)), .int (zI (ln + mi)), .int (zI wk), .int (zI ((wn : Nat))), .int (zI fx)])) ts (zOb 5 [.int (zI nu), .ref t1, .ref t2, .ref t3, .int (zI (sc + 1)), .int (zI (ln + mi)), .int (zI (wk + mi)), .int (zI ((wn : Nat))), .int (zI fx)]))) (t := ts) (q := t3) (o := (zOb 5 [.int (zI nu), .ref t1, .ref t2, .ref t3, .int (zI (sc + 1)), .int (zI (ln + mi)), .int (zI (wk + mi)), .int (zI (((wn ||| 2 ^ sk.toNat : Nat) : Int))), .int (zI fx)])) (by first | assumption | omega | (intro h9; omega))).trans hm_9_2
        have hm_10_s := zu_s (zu (zu (zu (zu (zu (zu M t1 (zAi 0 5 (zup f1 (sc).toNat sk))) t2 (zAi 0 5 (zup f2 (sc).toNat ln))) t3 (zAi 0 5 (zup f3 (sc).toNat (ln + mi)))) ts (zOb 5 [.int (zI nu), .ref t1, .ref t2, .ref t3, .int (zI (sc + 1)), .int (zI ln), .int (zI wk), .int (zI ((wn : Nat))), .int (zI fx)])) ts (zOb 5 [.int (zI nu), .ref t1, .ref t2, .ref t3, .int (zI (sc + 1)), .int (zI (ln + mi)), .int (zI wk), .int (zI ((wn : Nat))), .int (zI fx)])) ts (zOb 5 [.int (zI nu), .ref t1, .ref t2, .ref t3, .int (zI (sc + 1)), .int (zI (ln + mi)), .int (zI (wk + mi)), .int (zI ((wn : Nat))), .int (zI fx)])) ts (zOb 5 [.int (zI nu), .ref t1, .ref t2, .ref t3, .int (zI (sc + 1)), .int (zI (ln + mi)), .int (zI (wk + mi)), .int (zI (((wn ||| 2 ^ sk.toNat : Nat) : Int))), .int (zI fx)])
        exact z_retv F rfl (by first | decide | assumption | omega) (by first | decide | assumption | omega) dX4_append_101 ⟨rfl, (by first | (rw [if_pos (show sk = -1 by omega), if_pos (show sk = -1 by omega)]; exact zApp2 n1 n2 n3) | (rw [if_neg (show ¬ sk = -1 by omega), if_neg (show ¬ sk = -1 by omega)]; exact zApp4 n1 n2 n3))⟩
    · skip
      exact absurd c_2 (by omega)

abbrev rX5_init : Room := { frames := 1, cells := 0, slots := 0, locals := 20 }
set_option maxRecDepth 100000 in
set_option maxHeartbeats 4000000 in
theorem c_X5_init {l : Launch} (hfl : l.stackTraces = false) (G : zG) {tv a : Nat} {n : Int} (M : zM) (h0 : M tv = some (zOb 6 [.int (zI 0), .null, .int (zI 0), .int (zI 0), .int (zI 0)])) : zCn l G yX5_init (.code yX5_init cX5_init 3 none) rX5_init [.ref tv, .int (zI n), .ref a] M (zRv (fun M2 => M2 = zu M tv (zOb 6 [.int (zI n), .ref a, .int (zI (-1)), .int (zI (-1)), .int (zI (-1))]))) zN := by
  refine zStart hfl (by decide) (own := RX5) rfl [(0, .ref tv), (1, .int (zI n)), (2, .ref a)] (Nat.le_of_ble_eq_true rfl) rfl (fun k hkl hinit hk0 F => ?_)
  refine z_aload_n F 0 dX5_init_0 rfl rfl ?_
  refine z_objI F (zr_17 _ (List.mem_of_getElem? (i := 11) rfl)) (zr_1 _ (List.mem_of_getElem? (i := 11) rfl)) (zr_1 _ (List.mem_of_getElem? (i := 12) rfl)) (Nat.le_of_ble_eq_true rfl) (Nat.le_of_ble_eq_true rfl) dX5_init_1 ?_
  refine z_aload_n F 0 dX5_init_4 rfl rfl ?_
  refine z_iconst (z := -1) F dX5_init_5 (by decide) ?_
  refine z_put (ty := .int) F [.int (zI 0), .null, .int (zI (-1)), .int (zI 0), .int (zI 0)] fl_X5_9 tyX5 tyX5_ok nmX5 rfl (by decide +kernel) rfl rfl h0 (Nat.le_of_ble_eq_true rfl) rfl dX5_init_6 ?_
  have hm_1_s := zu_s M tv (zOb 6 [.int (zI 0), .null, .int (zI (-1)), .int (zI 0), .int (zI 0)])
  refine z_aload_n F 0 dX5_init_9 rfl rfl ?_
  refine z_iconst (z := -1) F dX5_init_10 (by decide) ?_
  refine z_put (ty := .int) F [.int (zI 0), .null, .int (zI (-1)), .int (zI (-1)), .int (zI 0)] fl_X5_15 tyX5 tyX5_ok nmX5 rfl (by decide +kernel) rfl rfl hm_1_s (Nat.le_of_ble_eq_true rfl) rfl dX5_init_11 ?_
  have hm_2_s := zu_s (zu M tv (zOb 6 [.int (zI 0), .null, .int (zI (-1)), .int (zI 0), .int (zI 0)])) tv (zOb 6 [.int (zI 0), .null, .int (zI (-1)), .int (zI (-1)), .int (zI 0)])
  refine z_aload_n F 0 dX5_init_14 rfl rfl ?_
  refine z_iconst (z := -1) F dX5_init_15 (by decide) ?_
  refine z_put (ty := .int) F [.int (zI 0), .null, .int (zI (-1)), .int (zI (-1)), .int (zI (-1))] fl_X5_18 tyX5 tyX5_ok nmX5 rfl (by decide +kernel) rfl rfl hm_2_s (Nat.le_of_ble_eq_true rfl) rfl dX5_init_16 ?_
  have hm_3_s := zu_s (zu (zu M tv (zOb 6 [.int (zI 0), .null, .int (zI (-1)), .int (zI 0), .int (zI 0)])) tv (zOb 6 [.int (zI 0), .null, .int (zI (-1)), .int (zI (-1)), .int (zI 0)])) tv (zOb 6 [.int (zI 0), .null, .int (zI (-1)), .int (zI (-1)), .int (zI (-1))])
  refine z_aload_n F 0 dX5_init_19 rfl rfl ?_
  refine z_iload_n F 1 dX5_init_20 rfl rfl ?_
  refine z_putF (ty := .int) F [.int (zI n), .null, .int (zI (-1)), .int (zI (-1)), .int (zI (-1))] fl_X5_21 tyX5 tyX5_ok nmX5 rfl hinit rfl (by decide +kernel) rfl rfl hm_3_s (Nat.le_of_ble_eq_true rfl) rfl dX5_init_21 ?_
  have hm_4_s := zu_s (zu (zu (zu M tv (zOb 6 [.int (zI 0), .null, .int (zI (-1)), .int (zI 0), .int (zI 0)])) tv (zOb 6 [.int (zI 0), .null, .int (zI (-1)), .int (zI (-1)), .int (zI 0)])) tv (zOb 6 [.int (zI 0), .null, .int (zI (-1)), .int (zI (-1)), .int (zI (-1))])) tv (zOb 6 [.int (zI n), .null, .int (zI (-1)), .int (zI (-1)), .int (zI (-1))])
  refine z_aload_n F 0 dX5_init_24 rfl rfl ?_
  refine z_aload_n F 2 dX5_init_25 rfl rfl ?_
  refine z_putF (ty := .object "SalonBook$Service") F [.int (zI n), .ref a, .int (zI (-1)), .int (zI (-1)), .int (zI (-1))] fl_X5_24 tyX5 tyX5_ok nmX5 rfl hinit rfl (by decide +kernel) rfl rfl hm_4_s (Nat.le_of_ble_eq_true rfl) rfl dX5_init_26 ?_
  have hm_5_s := zu_s (zu (zu (zu (zu M tv (zOb 6 [.int (zI 0), .null, .int (zI (-1)), .int (zI 0), .int (zI 0)])) tv (zOb 6 [.int (zI 0), .null, .int (zI (-1)), .int (zI (-1)), .int (zI 0)])) tv (zOb 6 [.int (zI 0), .null, .int (zI (-1)), .int (zI (-1)), .int (zI (-1))])) tv (zOb 6 [.int (zI n), .null, .int (zI (-1)), .int (zI (-1)), .int (zI (-1))])) tv (zOb 6 [.int (zI n), .ref a, .int (zI (-1)), .int (zI (-1)), .int (zI (-1))])
  exact z_retv F rfl (by first | decide | assumption | omega) (by first | decide | assumption | omega) dX5_init_29 ⟨rfl, by simp only [zu_zu]⟩

abbrev rX5_isDropped : Room := { frames := 0, cells := 0, slots := 0, locals := 0 }
set_option maxRecDepth 100000 in
set_option maxHeartbeats 4000000 in
theorem c_X5_isDropped {l : Launch} (hfl : l.stackTraces = false) (G : zG) {tv a : Nat} {n x y z : Int} (hz : zR z) (M : zM) (h0 : M tv = some (zOb 6 [.int (zI n), .ref a, .int (zI x), .int (zI y), .int (zI z)])) : zCn l G yX5_isDropped (.code yX5_isDropped cX5_isDropped 1 (some .boolean)) rX5_isDropped [.ref tv] M (zRi (fun x M2 => x = (if z = -1 then 1 else 0) ∧ M2 = M)) zN := by
  refine zStart hfl (by decide) (own := RX5) rfl [(0, .ref tv)] (Nat.le_of_ble_eq_true rfl) rfl (fun k hkl hinit hk0 F => ?_)
  refine z_aload_n F 0 dX5_isDropped_0 rfl rfl ?_
  refine z_get F fl_X5_18 h0 rfl dX5_isDropped_1 ?_
  refine z_iconst (z := -1) F dX5_isDropped_4 (by decide) ?_
  refine z_icmp_ne F 12 dX5_isDropped_5 (by decide) (by omega) ⟨by decide, by decide⟩ (fun c_1 => ?_) (fun c_1 => ?_)
  · skip
    refine z_iconst (z := 0) F dX5_isDropped_12 (by decide) ?_
    exact z_retz F rfl (by decide) (by first | decide | assumption | omega) (by first | decide | assumption | omega) dX5_isDropped_13 ⟨_, rfl, (by split <;> omega), rfl⟩
  · skip
    refine z_iconst (z := 1) F dX5_isDropped_8 (by decide) ?_
    refine z_goto F 13 dX5_isDropped_9 (by decide) ?_
    exact z_retz F rfl (by decide) (by first | decide | assumption | omega) (by first | decide | assumption | omega) dX5_isDropped_13 ⟨_, rfl, (by split <;> omega), rfl⟩

abbrev rX3_init : Room := { frames := 1, cells := 0, slots := 0, locals := 20 }
set_option maxRecDepth 100000 in
set_option maxHeartbeats 4000000 in
theorem c_X3_init {l : Launch} (hfl : l.stackTraces = false) (G : zG) {tv a : Nat} {n : Int} (M : zM) (h0 : M tv = some (zOb 4 [.null, .int (zI 0)])) : zCn l G yX3_init (.code yX3_init cX3_init 3 none) rX3_init [.ref tv, .ref a, .int (zI n)] M (zRv (fun M2 => M2 = zu M tv (zOb 4 [.ref a, .int (zI n)]))) zN := by
  refine zStart hfl (by decide) (own := RX3) rfl [(0, .ref tv), (1, .ref a), (2, .int (zI n))] (Nat.le_of_ble_eq_true rfl) rfl (fun k hkl hinit hk0 F => ?_)
  refine z_aload_n F 0 dX3_init_0 rfl rfl ?_
  refine z_objI F (zr_24 _ (List.mem_of_getElem? (i := 22) rfl)) (zr_1 _ (List.mem_of_getElem? (i := 11) rfl)) (zr_1 _ (List.mem_of_getElem? (i := 12) rfl)) (Nat.le_of_ble_eq_true rfl) (Nat.le_of_ble_eq_true rfl) dX3_init_1 ?_
  refine z_aload_n F 0 dX3_init_4 rfl rfl ?_
  refine z_aload_n F 1 dX3_init_5 rfl rfl ?_
  refine z_putF (ty := .object "SalonBook$Service") F [.ref a, .int (zI 0)] fl_X3_7 tyX3 tyX3_ok nmX3 rfl hinit rfl (by decide +kernel) rfl rfl h0 (Nat.le_of_ble_eq_true rfl) rfl dX3_init_6 ?_
  have hm_1_s := zu_s M tv (zOb 4 [.ref a, .int (zI 0)])
  refine z_aload_n F 0 dX3_init_9 rfl rfl ?_
  refine z_iload_n F 2 dX3_init_10 rfl rfl ?_
  refine z_putF (ty := .int) F [.ref a, .int (zI n)] fl_X3_13 tyX3 tyX3_ok nmX3 rfl hinit rfl (by decide +kernel) rfl rfl hm_1_s (Nat.le_of_ble_eq_true rfl) rfl dX3_init_11 ?_
  have hm_2_s := zu_s (zu M tv (zOb 4 [.ref a, .int (zI 0)])) tv (zOb 4 [.ref a, .int (zI n)])
  exact z_retv F rfl (by first | decide | assumption | omega) (by first | decide | assumption | omega) dX3_init_14 ⟨rfl, by simp only [zu_zu]⟩

abbrev rX1_init : Room := { frames := 2, cells := 3, slots := 1203, locals := 41 }
set_option maxRecDepth 100000 in
set_option maxHeartbeats 4000000 in
theorem c_X1_init {l : Launch} (hfl : l.stackTraces = false) (G : zG) {tm td tv tk : Nat} {a b c : Int} (M : zM) (h0 : M tm = some (zOb 2 [.int (zI 0), .int (zI 0), .int (zI 0), .null])) (h1 : M td = none) (h2 : M tv = none) (h3 : M tk = none) (m1 : td % 64 ≠ 63) (m2 : tv % 64 ≠ 63) (m3 : tk % 64 ≠ 63) (n1 : tm ≠ td) (n2 : tm ≠ tv) (n3 : tm ≠ tk) (n4 : td ≠ tv) (n5 : td ≠ tk) (n6 : tv ≠ tk) : zCn l G yX1_init (.code yX1_init cX1_init 4 none) rX1_init [.ref tm, .int (zI a), .int (zI b), .int (zI c)] M (zRv (fun M2 => M2 = zu (zu (zu (zu M tm (zOb 2 [.int (zI a), .int (zI b), .int (zI c), .ref td])) td (zOb 1 [.ref tv, .ref tk])) tv (zAi 0 600 (fun _ => -1))) tk (zAi 0 601 (zTk (fun _ => -1))))) zN := by
  refine zStart hfl (by decide) (own := RX1) rfl [(0, .ref tm), (1, .int (zI a)), (2, .int (zI b)), (3, .int (zI c))] (Nat.le_of_ble_eq_true rfl) rfl (fun k hkl hinit hk0 F => ?_)
  refine z_aload_n F 0 dX1_init_0 rfl rfl ?_
  refine z_objI F (zr_5 _ (List.mem_of_getElem? (i := 6) rfl)) (zr_1 _ (List.mem_of_getElem? (i := 11) rfl)) (zr_1 _ (List.mem_of_getElem? (i := 12) rfl)) (Nat.le_of_ble_eq_true rfl) (Nat.le_of_ble_eq_true rfl) dX1_init_1 ?_
  refine z_aload_n F 0 dX1_init_4 rfl rfl ?_
  refine z_new (ci := 1) F td [.null, .null] rfl inlX0 tyX0 tyX0_ok (zr_5 _ (List.mem_of_getElem? (i := 7) rfl)) (zr_1 _ (List.mem_of_getElem? (i := 22) rfl)) (zr_1 _ (List.mem_of_getElem? (i := 23) rfl)) (fun j hj => by rcases (show j = 0 ∨ j = 1 by omega) with rfl | rfl <;> rfl) (by decide) h1 m1 (by decide) (by decide) dX1_init_5 ?_
  have hm_1_0 := (zu_n (M := M) (t := td) (q := tm) (o := (zOb 1 [.null, .null])) (by first | assumption | omega | (intro h9; omega))).trans h0
  have hm_1_s := zu_s M td (zOb 1 [.null, .null])
  refine z_dup F dX1_init_8 rfl ?_
  refine z_callI F [] [.ref td, .ref tm] (c_X0_init F.2.2.1 G (td := td) (tv := tv) (tk := tk) _ (zu_s _ _ _) ((zu_n (Ne.symm n4)).trans h2) ((zu_n (Ne.symm n5)).trans h3) m2 m3 n4 n5 n6) ci_X1_9 rfl ⟨by decide, by decide⟩ ⟨by decide, by decide⟩ (Nat.le_of_ble_eq_true rfl) dX1_init_9 z_nx (z_kv (fun M_2 h_2 => ?_))
  have hm9 := (h_2).symm
  subst hm9
  refine z_putF (ty := .object "SalonBook$Diary") F [.int (zI 0), .int (zI 0), .int (zI 0), .ref td] fl_X1_10 tyX1 tyX1_ok nmX1 rfl hinit rfl (by decide +kernel) rfl rfl ((zu_n n3).trans ((zu_n n2).trans ((zu_n n1).trans ((zu_n n1).trans h0)))) (Nat.le_of_ble_eq_true rfl) rfl dX1_init_12 ?_
  have hm_3_s := zu_s (zu (zu (zu (zu M td (zOb 1 [.null, .null])) td (zOb 1 [.ref tv, .ref tk])) tv (zAi 0 600 (fun _ => -1))) tk (zAi 0 601 (zTk (fun _ => -1)))) tm (zOb 2 [.int (zI 0), .int (zI 0), .int (zI 0), .ref td])
  refine z_aload_n F 0 dX1_init_15 rfl rfl ?_
  refine z_iload_n F 1 dX1_init_16 rfl rfl ?_
  refine z_putF (ty := .int) F [.int (zI a), .int (zI 0), .int (zI 0), .ref td] fl_X1_16 tyX1 tyX1_ok nmX1 rfl hinit rfl (by decide +kernel) rfl rfl hm_3_s (Nat.le_of_ble_eq_true rfl) rfl dX1_init_17 ?_
  have hm_4_s := zu_s (zu (zu (zu (zu (zu M td (zOb 1 [.null, .null])) td (zOb 1 [.ref tv, .ref tk])) tv (zAi 0 600 (fun _ => -1))) tk (zAi 0 601 (zTk (fun _ => -1)))) tm (zOb 2 [.int (zI 0), .int (zI 0), .int (zI 0), .ref td])) tm (zOb 2 [.int (zI a), .int (zI 0), .int (zI 0), .ref td])
  refine z_aload_n F 0 dX1_init_20 rfl rfl ?_
  refine z_iload_n F 2 dX1_init_21 rfl rfl ?_
  refine z_putF (ty := .int) F [.int (zI a), .int (zI b), .int (zI 0), .ref td] fl_X1_20 tyX1 tyX1_ok nmX1 rfl hinit rfl (by decide +kernel) rfl rfl hm_4_s (Nat.le_of_ble_eq_true rfl) rfl dX1_init_22 ?_
  have hm_5_s := zu_s (zu (zu (zu (zu (zu (zu M td (zOb 1 [.null, .null])) td (zOb 1 [.ref tv, .ref tk])) tv (zAi 0 600 (fun _ => -1))) tk (zAi 0 601 (zTk (fun _ => -1)))) tm (zOb 2 [.int (zI 0), .int (zI 0), .int (zI 0), .ref td])) tm (zOb 2 [.int (zI a), .int (zI 0), .int (zI 0), .ref td])) tm (zOb 2 [.int (zI a), .int (zI b), .int (zI 0), .ref td])
  refine z_aload_n F 0 dX1_init_25 rfl rfl ?_
  refine z_iload_n F 3 dX1_init_26 rfl rfl ?_
  refine z_putF (ty := .int) F [.int (zI a), .int (zI b), .int (zI c), .ref td] fl_X1_23 tyX1 tyX1_ok nmX1 rfl hinit rfl (by decide +kernel) rfl rfl hm_5_s (Nat.le_of_ble_eq_true rfl) rfl dX1_init_27 ?_
  have hm_6_s := zu_s (zu (zu (zu (zu (zu (zu (zu M td (zOb 1 [.null, .null])) td (zOb 1 [.ref tv, .ref tk])) tv (zAi 0 600 (fun _ => -1))) tk (zAi 0 601 (zTk (fun _ => -1)))) tm (zOb 2 [.int (zI 0), .int (zI 0), .int (zI 0), .ref td])) tm (zOb 2 [.int (zI a), .int (zI 0), .int (zI 0), .ref td])) tm (zOb 2 [.int (zI a), .int (zI b), .int (zI 0), .ref td])) tm (zOb 2 [.int (zI a), .int (zI b), .int (zI c), .ref td])
  exact z_retv F rfl (by first | decide | assumption | omega) (by first | decide | assumption | omega) dX1_init_30 ⟨rfl, zInitM n1 n2 n3⟩
end
section
/-! ===== rules that the lists' methods want ===== -/
section ZR
variable {k : zC} {G : zG} {R : Room} {nL : Nat} {Q : State → Prop} {M : zM} {cl sl pc : Nat} {lv : List (Nat × Value)} {st : List Value} {cc : ByteArray} {own : String} {ret : Option FieldType} {tb : List ExceptionTableEntry}
theorem z_max (F : zF k G cc nL own wsL_law ret tb) {x y : Int} {index : Nat} (w1 : Cond.methodLink own index Lib.Math.max.name ∈ wsL_law) (w2 : Cond.static Lib.Math.max.name ∈ wsL_law) (w3 : Cond.initialized "java/lang/Math" ∈ wsL_law) (w4 : Cond.code Lib.Math.max.name Lib.Math.max.code 2 (some .int) ∈ wsL_law) (h1 : zR x) (h2 : zR y) (hfr : 1 ≤ R.frames) (hlo : (st.map fun v => v.category).sum + 13 ≤ R.locals) (hcl : cl ≤ R.cells) (hsl : sl ≤ R.slots) (d : decode cc pc = .ok (.invokestatic index, 3)) (kk : zJ k G R nL Q M (cl) (sl) (pc + 3) lv (.int (zI (if x < y then y else x)) :: st)) : zJ k G R nL Q M (cl) (sl) (pc) lv (.int (zI y) :: .int (zI x) :: st) := by
  obtain ⟨⟨p, l, e, s, m⟩, ⟨args, below, meth, c⟩, L0, M0⟩ := k
  obtain ⟨⟨hx, hb, hml, hown, hts⟩, hLow, hfl, hlk, hrt, htb⟩ := F
  intro L H locs ls hR hA hv hs hS hl
  refine va_mmax hx hb (hml.trans hl.1.symm) hown (hts _ w1) (hts _ w2) (hts _ w3) (hts _ w4) hfr (by rw [zmap_cat]; exact hlo) hcl hsl d ?_
  have e9 : (if zI x < zI y then zI y else zI x) = zI (if x < y then y else x) := by
    by_cases c9 : x < y
    · rw [if_pos c9, if_pos ((zI_lt h1 h2).mpr c9)]
    · rw [if_neg c9, if_neg (mt (zI_lt h1 h2).mp c9)]
  rw [e9]
  exact kk L H locs ls hR hA hv (zs_i (zs_t (zs_t hs))) hS hl
theorem z_min (F : zF k G cc nL own wsL_law ret tb) {x y : Int} {index : Nat} (w1 : Cond.methodLink own index Lib.Math.min.name ∈ wsL_law) (w2 : Cond.static Lib.Math.min.name ∈ wsL_law) (w3 : Cond.initialized "java/lang/Math" ∈ wsL_law) (w4 : Cond.code Lib.Math.min.name Lib.Math.min.code 2 (some .int) ∈ wsL_law) (h1 : zR x) (h2 : zR y) (hfr : 1 ≤ R.frames) (hlo : (st.map fun v => v.category).sum + 13 ≤ R.locals) (hcl : cl ≤ R.cells) (hsl : sl ≤ R.slots) (d : decode cc pc = .ok (.invokestatic index, 3)) (kk : zJ k G R nL Q M (cl) (sl) (pc + 3) lv (.int (zI (if y < x then y else x)) :: st)) : zJ k G R nL Q M (cl) (sl) (pc) lv (.int (zI y) :: .int (zI x) :: st) := by
  obtain ⟨⟨p, l, e, s, m⟩, ⟨args, below, meth, c⟩, L0, M0⟩ := k
  obtain ⟨⟨hx, hb, hml, hown, hts⟩, hLow, hfl, hlk, hrt, htb⟩ := F
  intro L H locs ls hR hA hv hs hS hl
  refine va_mmin hx hb (hml.trans hl.1.symm) hown (hts _ w1) (hts _ w2) (hts _ w3) (hts _ w4) hfr (by rw [zmap_cat]; exact hlo) hcl hsl d ?_
  have e9 : (if zI y < zI x then zI y else zI x) = zI (if y < x then y else x) := by
    by_cases c9 : y < x
    · rw [if_pos c9, if_pos ((zI_lt h2 h1).mpr c9)]
    · rw [if_neg c9, if_neg (mt (zI_lt h2 h1).mp c9)]
  rw [e9]
  exact kk L H locs ls hR hA hv (zs_i (zs_t (zs_t hs))) hS hl
theorem z_alenE (F : zF k G cc nL own wsL_law ret tb) (d : decode cc pc = .ok (.arraylength, 1)) (kk : zJ k G R nL Q M (cl) (sl) (pc + 1) lv (.int (zI 0) :: st)) : zJ k G R nL Q M (cl) (sl) (pc) lv (.ref 63 :: st) := by
  obtain ⟨⟨p, l, e, s, m⟩, ⟨args, below, meth, c⟩, L0, M0⟩ := k
  obtain ⟨⟨hx, hb, hml, hown, hts⟩, hLow, hfl, hlk, hrt, htb⟩ := F
  intro L H locs ls hR hA hv hs hS hl
  have hE := hLow.2.2.2.2.1
  obtain ⟨cell, g1, g2, g3, g4, g5, g6, g7⟩ := hE.kept hS.2.1
  have e9 : zmr L (.ref 63) = .ref (G.2.2.2 63) := congrArg Value.ref (hR.1 63 rfl).1
  show zW _ R H locs cl sl Q pc ls (zmr L (.ref 63) :: st.map (zmr L))
  rw [e9]
  exact W.alen (n := zI 0) hx hb g1 g2 (g5.trans rfl) rfl rfl d (kk L H locs ls hR hA hv (zs_i (zs_t hs)) hS hl)
/-- a reference compared with itself -/
theorem z_acmp_eq (F : zF k G cc nL own wsL_law ret tb) (tgt : Nat) {a : Nat} {off : Int} (d : decode cc pc = .ok (.if_acmp .eq off, 3)) (ht : (pc : Int) + off = (tgt : Int)) (kk : zJ k G R nL Q M (cl) (sl) (tgt) lv (st)) : zJ k G R nL Q M (cl) (sl) (pc) lv (.ref a :: .ref a :: st) := by
  obtain ⟨⟨p, l, e, s, m⟩, ⟨args, below, meth, c⟩, L0, M0⟩ := k
  obtain ⟨⟨hx, hb, hml, hown, hts⟩, hLow, hfl, hlk, hrt, htb⟩ := F
  intro L H locs ls hR hA hv hs hS hl
  exact lv_acmp_eq (rx := some (L a)) (ry := some (L a)) hx hb d ht (fun _ => kk L H locs ls hR hA hv (zs_t (zs_t hs)) hS hl) (fun h => absurd rfl h)
theorem z_acmp_ne (F : zF k G cc nL own wsL_law ret tb) {a : Nat} {off : Int} {tgt : Nat} (d : decode cc pc = .ok (.if_acmp .ne off, 3)) (ht : (pc : Int) + off = (tgt : Int)) (kk : zJ k G R nL Q M (cl) (sl) (pc + 3) lv (st)) : zJ k G R nL Q M (cl) (sl) (pc) lv (.ref a :: .ref a :: st) := by
  obtain ⟨⟨p, l, e, s, m⟩, ⟨args, below, meth, c⟩, L0, M0⟩ := k
  obtain ⟨⟨hx, hb, hml, hown, hts⟩, hLow, hfl, hlk, hrt, htb⟩ := F
  intro L H locs ls hR hA hv hs hS hl
  exact lv_acmp_ne (rx := some (L a)) (ry := some (L a)) hx hb d ht (fun h => absurd rfl h) (fun _ => kk L H locs ls hR hA hv (zs_t (zs_t hs)) hS hl)
theorem z_arrcls {G : zG} {s : State} (hK : va_K G.1 vwCl (zTy G) s) : s.vm.findClass "[Ljava/lang/Object;" = some (G.2.1 4) := by
  obtain ⟨-, -, -, -, -, q1⟩ := (hK.2 4 (G.2.1 4, .object "java/lang/Object") rfl).2
  exact q1
theorem z_getC (F : zF k G cc nL own wsL_law ret tb) {t n : Nat} {f : Nat → Option Nat} {index : Nat} (w1 : Cond.methodLink own index ⟨"java/lang/Object", "getClass", "()Ljava/lang/Class;"⟩ ∈ wsL_law) (w2 : Cond.selects "[Ljava/lang/Object;" ⟨"java/lang/Object", "getClass", "()Ljava/lang/Class;"⟩ ⟨"java/lang/Object", "getClass", "()Ljava/lang/Class;"⟩ ∈ wsL_law) (w3 : Cond.instanceMethod ⟨"java/lang/Object", "getClass", "()Ljava/lang/Class;"⟩ ∈ wsL_law) (w4 : Cond.native ⟨"java/lang/Object", "getClass", "()Ljava/lang/Class;"⟩ ∈ wsL_law) (hm : M t = some (zAr 4 n f)) (hfr : 1 ≤ R.frames) (hlo : (st.map fun v => v.category).sum + 14 ≤ R.locals) (d : decode cc pc = .ok (.invokevirtual index, 3)) (kk : zJ k G R nL Q M (cl) (sl) (pc + 3) lv (.ref 191 :: st)) : zJ k G R nL Q M (cl) (sl) (pc) lv (.ref t :: st) := by
  obtain ⟨⟨p, l, e, s, m⟩, ⟨args, below, meth, c⟩, L0, M0⟩ := k
  obtain ⟨⟨hx, hb, hml, hown, hts⟩, hLow, hfl, hlk, hrt, htb⟩ := F
  intro L H locs ls hR hA hv hs hS hl
  obtain ⟨e1, hz, hi, ws, hP, hD, hw⟩ := id hR
  obtain ⟨j, hj⟩ := hw t _ hm
  have hat : H[L t]? = some (vp_cell (G.2.1 4) (n, .inr (.inr (.inr (.inr (fun j => (f j).map L)))))) := hP j _ hj
  have key := kk L H locs ls hR hA hv (zs_r (Or.inr rfl) (zs_t hs)) hS hl
  rw [List.map_cons, show zmr L (.ref 191) = .ref (G.2.2.2 191) from congrArg Value.ref (e1 191 rfl).1] at key
  exact va_getC hx hb (hml.trans hl.1.symm) hown (hts _ w1) (va_Dc.use hLow.2.2.2.2.2.2.2.2.2.2.2.2.1) (hts _ w2) (hts _ w3) (hts _ w4) hLow.2.2.2.2.2.2.2.2.2.2.2.1 ⟨_, hat, rfl, z_arrcls hLow.1⟩ hfr (by rw [zmap_cat]; exact hlo) d key
theorem z_ldcM (F : zF k G cc nL own wsL_law ret tb) {index : Nat} (w1 : Cond.classLink own index "[Ljava/lang/Object;" ∈ wsL_law) (d : decode cc pc = .ok (.ldc index, 2)) (kk : zJ k G R nL Q M (cl) (sl) (pc + 2) lv (.ref 191 :: st)) : zJ k G R nL Q M (cl) (sl) (pc) lv (st) := by
  obtain ⟨⟨p, l, e, s, m⟩, ⟨args, below, meth, c⟩, L0, M0⟩ := k
  obtain ⟨⟨hx, hb, hml, hown, hts⟩, hLow, hfl, hlk, hrt, htb⟩ := F
  intro L H locs ls hR hA hv hs hS hl
  have key := kk L H locs ls hR hA hv (zs_r (Or.inr rfl) hs) hS hl
  rw [List.map_cons, show zmr L (.ref 191) = .ref (G.2.2.2 191) from congrArg Value.ref (hR.1 191 rfl).1] at key
  exact va_ldcM hx hb hown (hts _ w1) hLow.2.2.2.2.2.2.2.2.2.2.2.1 d key
theorem z_castA (F : zF k G cc nL own wsL_law ret tb) {t n index : Nat} {f : Nat → Option Nat} (w1 : Cond.classLink own index "[Ljava/lang/Object;" ∈ wsL_law) (hm : M t = some (zAr 4 n f)) (d : decode cc pc = .ok (.checkcast index, 3)) (kk : zJ k G R nL Q M (cl) (sl) (pc + 3) lv (.ref t :: st)) : zJ k G R nL Q M (cl) (sl) (pc) lv (.ref t :: st) := by
  obtain ⟨⟨p, l, e, s, m⟩, ⟨args, below, meth, c⟩, L0, M0⟩ := k
  obtain ⟨⟨hx, hb, hml, hown, hts⟩, hLow, hfl, hlk, hrt, htb⟩ := F
  intro L H locs ls hR hA hv hs hS hl
  obtain ⟨e1, hz, hi, ws, hP, hD, hw⟩ := id hR
  obtain ⟨j, hj⟩ := hw t _ hm
  exact va_castA hx hb hown (hts _ w1) hP j hj (z_arrcls hLow.1) d (kk L H locs ls hR hA hv hs hS hl)
/-- an object put into an array of Objects -/
theorem z_aast4 (F : zF k G cc nL own wsL_law ret tb) {t n a ci : Nat} {fs : List Value} {f : Nat → Option Nat} {i : Int} {C : String} {T : u_T} {N : Nat} (hm : M t = some (zAr 4 n f)) (ha : M a = some (zOb ci fs)) (hc : vwCl[ci]? = some (C, T, N)) (hq : (C, "java/lang/Object") ∈ zNC) (h0 : 0 ≤ i) (h1 : i < n) (hn : n < 2147483648) (d : decode cc pc = .ok (.aastore, 1)) (kk : zJ k G R nL Q (zu M t (zAr 4 n (va_up f i.toNat (some a)))) (cl) (sl) (pc + 1) lv (st)) : zJ k G R nL Q M (cl) (sl) (pc) lv (.ref a :: .int (zI i) :: .ref t :: st) := by
  obtain ⟨⟨p, l, e, s, m⟩, ⟨args, below, meth, c⟩, L0, M0⟩ := k
  obtain ⟨⟨hx, hb, hml, hown, hts⟩, hLow, hfl, hlk, hrt, htb⟩ := F
  intro L H locs ls hR hA hv hs hS hl
  obtain ⟨e1, hz, hi, ws, hP, hD, hw⟩ := id hR
  obtain ⟨j, hj⟩ := hw t _ hm
  obtain ⟨j2, hj2⟩ := hw a _ ha
  refine va_astqO (E := "java/lang/Object") (tys := zTy G) (f := fun j => (f j).map L) (r := (C, T, N)) hx hb hLow.1 hP hD hS j 4 j2 ci hj rfl (hLow.2.2.2.2.2.2.2.2.2.2.1 _ hq) hj2 hc (zI_in h0 h1 hn) d (fun H1 locs1 hP1 hD1 hS1 => ?_)
  rw [zI_c h0 (by omega), zup_r] at hP1 hD1
  exact kk L H1 locs1 ls (zRep_set (o' := zAr 4 n (va_up f i.toNat (some a))) hm (zoo_up (hz t _ hm) (Or.inl (by rw [ha]; rfl))) hR hD hw hj hP1 hD1) (zAg_u hA) (fun q hq => zok_u (hv q hq)) (fun v hv => zok_u (zs_t (zs_t (zs_t hs)) v hv)) hS1 hl
theorem zup_rN (L : Nat → Nat) (f : Nat → Option Nat) (i : Nat) : va_up (fun j => (f j).map L) i none = fun j => (va_up f i none j).map L := by
  funext j
  simp only [va_up]
  split <;> rfl
theorem z_aastN (F : zF k G cc nL own wsL_law ret tb) {t n : Nat} {f : Nat → Option Nat} {i : Int} (hm : M t = some (zAr 4 n f)) (h0 : 0 ≤ i) (h1 : i < n) (hn : n < 2147483648) (d : decode cc pc = .ok (.aastore, 1)) (kk : zJ k G R nL Q (zu M t (zAr 4 n (va_up f i.toNat none))) (cl) (sl) (pc + 1) lv (st)) : zJ k G R nL Q M (cl) (sl) (pc) lv (.null :: .int (zI i) :: .ref t :: st) := by
  obtain ⟨⟨p, l, e, s, m⟩, ⟨args, below, meth, c⟩, L0, M0⟩ := k
  obtain ⟨⟨hx, hb, hml, hown, hts⟩, hLow, hfl, hlk, hrt, htb⟩ := F
  intro L H locs ls hR hA hv hs hS hl
  obtain ⟨e1, hz, hi, ws, hP, hD, hw⟩ := id hR
  obtain ⟨j, hj⟩ := hw t _ hm
  refine va_astqN (C := "java/lang/Object") (tys := zTy G) (f := fun j => (f j).map L) hx hb hLow.1 hP hD hS j 4 hj rfl (zI_in h0 h1 hn) d (fun H1 locs1 hP1 hD1 hS1 => ?_)
  rw [zI_c h0 (by omega), zup_rN] at hP1 hD1
  have ho : zoo M (zAr 4 n (va_up f i.toNat none)) := fun j b hb => by
    by_cases e : j = i.toNat
    · rw [e, va_up_self] at hb; cases hb
    · rw [va_up_ne _ _ e] at hb; exact hz t _ hm j b hb
  exact kk L H1 locs1 ls (zRep_set (o' := zAr 4 n (va_up f i.toNat none)) hm ho hR hD hw hj hP1 hD1) (zAg_u hA) (fun q hq => zok_u (hv q hq)) (fun v hv => zok_u (zs_t (zs_t (zs_t hs)) v hv)) hS1 hl
theorem zcpy_r (L : Nat → Nat) (f g : Nat → Option Nat) (a b n : Nat) : va_cpy (fun j => (f j).map L) (fun j => (g j).map L) a b n = fun j => (va_cpy f g a b n j).map L := by
  funext j
  simp only [va_cpy]
  split <;> rfl
/-- System.arraycopy between arrays of Objects: their elements are objects of the class ci -/
theorem z_copyr (F : zF k G cc nL own wsL_law ret tb) {t t2 n0 n1 ci : Nat} {f g : Nat → Option Nat} {a b n : Int} {index : Nat} {C : String} {T : u_T} {N : Nat} (w1 : Cond.methodLink own index arraycopyName ∈ wsL_law) (w2 : Cond.native arraycopyName ∈ wsL_law) (w3 : Cond.static arraycopyName ∈ wsL_law) (w4 : Cond.initialized "java/lang/System" ∈ wsL_law) (hm : M t = some (zAr 4 n0 f)) (hm2 : M t2 = some (zAr 4 n1 g)) (hc : vwCl[ci]? = some (C, T, N)) (hq : (C, "java/lang/Object") ∈ zNC) (hel : ∀ j x, f j = some x → ∃ fs, M x = some (zOb ci fs)) (h1 : 0 ≤ a) (h2 : 0 ≤ b) (h3 : 0 ≤ n) (h4 : a + n ≤ n0) (h5 : b + n ≤ n1) (hn0 : n0 < 2147483648) (hn1 : n1 < 2147483648) (hfr : 1 ≤ R.frames) (hlo : (st.map fun v => v.category).sum + (nativeFrameWords "java/lang/System" "arraycopy" 5 + 11) ≤ R.locals) (d : decode cc pc = .ok (.invokestatic index, 3)) (kk : zJ k G R nL Q (zu M t2 (zAr 4 n1 (va_cpy f g a.toNat b.toNat n.toNat))) (cl) (sl) (pc + 3) lv (st)) : zJ k G R nL Q M (cl) (sl) (pc) lv (.int (zI n) :: .int (zI b) :: .ref t2 :: .int (zI a) :: .ref t :: st) := by
  obtain ⟨⟨p, l, e, s, m⟩, ⟨args, below, meth, c⟩, L0, M0⟩ := k
  obtain ⟨⟨hx, hb, hml, hown, hts⟩, hLow, hfl, hlk, hrt, htb⟩ := F
  intro L H locs ls hR hA hv hs hS hl
  obtain ⟨e1, hz, hi, ws, hP, hD, hw⟩ := id hR
  obtain ⟨j, hj⟩ := hw t _ hm
  obtain ⟨j2, hj2⟩ := hw t2 _ hm2
  have nn : ∀ x : Int, 0 ≤ x → x < 2147483648 → ¬ zI x < 0 := fun x g1 g2 h => by have := (zI_lt (a := x) (b := 0) ⟨by omega, by omega⟩ ⟨by decide, by decide⟩).mp h; omega
  have ea := zI_c h1 (show a < 2147483648 by omega)
  have eb := zI_c h2 (show b < 2147483648 by omega)
  have en := zI_c h3 (show n < 2147483648 by omega)
  refine va_copyq (C := C) (E0 := "java/lang/Object") (E1 := "java/lang/Object") (tys := zTy G) (f := fun j => (f j).map L) (g := fun j => (g j).map L) hx hb (hml.trans hl.1.symm) hown (hts _ w1) (hts _ w2) (hts _ w3) (hts _ w4) hLow.1 hP hD hS j j2 4 4 hj hj2 rfl rfl (nn a h1 (by omega)) (nn b h2 (by omega)) (nn n h3 (by omega)) (by rw [ea, en]; omega) (by rw [eb, en]; omega) (fun i hi y hy => ?_) (fun comp c0 g1 g2 => ?_) hfr (by rw [zmap_cat]; exact hlo) d (fun H1 locs1 hP1 hD1 hS1 => ?_)
  · cases hf : f ((zI a).toNatClampNeg + i) with
    | none => rw [hf] at hy; cases hy
    | some x =>
      rw [hf] at hy
      cases hy
      obtain ⟨fs, hx9⟩ := hel _ x hf
      exact z_recv hR hLow.1 hx9 hc
  · obtain ⟨c1, t1, f1, f2, f3⟩ := Cond.castable_spec (va_Nw.use (A := args) rfl (hLow.2.2.2.2.2.2.2.2.2.2.1 _ hq))
    cases g2.symm.trans f1
    cases g1.symm.trans f2
    exact f3
  · rw [ea, eb, en, zcpy_r] at hP1 hD1
    have ho : zoo M (zAr 4 n1 (va_cpy f g a.toNat b.toNat n.toNat)) := fun j x hx9 => by
      simp only [va_cpy] at hx9
      split at hx9
      · exact hz t _ hm _ x hx9
      · exact hz t2 _ hm2 _ x hx9
    exact kk L H1 locs1 ls (zRep_set (o' := zAr 4 n1 (va_cpy f g a.toNat b.toNat n.toNat)) hm2 ho hR hD hw hj2 hP1 hD1) (zAg_u hA) (fun q hq => zok_u (hv q hq)) (fun v hv => zok_u (zs_t (zs_t (zs_t (zs_t (zs_t hs)))) v hv)) hS1 hl
theorem zL_t {z : Int} (h : zR z) : (zL z).toInt = z := by
  have h1 := h.1
  have h2 := h.2
  rw [zL, Int64.toInt_ofInt, show Int64.size = 18446744073709551616 from rfl, Int.bmod_def]
  omega
theorem z_i2l (F : zF k G cc nL own wsL_law ret tb) {x : Int} (h : zR x) (d : decode cc pc = .ok (.i2l, 1)) (kk : zJ k G R nL Q M (cl) (sl) (pc + 1) lv (.long (zL x) :: st)) : zJ k G R nL Q M (cl) (sl) (pc) lv (.int (zI x) :: st) := by
  obtain ⟨⟨p, l, e, s, m⟩, ⟨args, below, meth, c⟩, L0, M0⟩ := k
  obtain ⟨⟨hx, hb, hml, hown, hts⟩, hLow, hfl, hlk, hrt, htb⟩ := F
  intro L H locs ls hR hA hv hs hS hl
  refine lv_i2l (v := zL x) hx hb d ?_ (kk L H locs ls hR hA hv (zs_l (zs_t hs)) hS hl)
  exact Int64.toInt_inj.mp (by rw [Int32.toInt_toInt64, zI_t h, zL_t h])
theorem z_tswOut (F : zF k G cc nL own wsL_law ret tb) (tgt : Nat) {x lo hi df : Int} {offs : Array Int} {len : Nat} (h9 : zR x) (d : decode cc pc = .ok (.tableswitch df lo hi offs, len)) (h1 : x < lo ∨ hi < x) (ht : (pc : Int) + df = (tgt : Int)) (kk : zJ k G R nL Q M (cl) (sl) (tgt) lv (st)) : zJ k G R nL Q M (cl) (sl) (pc) lv (.int (zI x) :: st) := by
  obtain ⟨⟨p, l, e, s, m⟩, ⟨args, below, meth, c⟩, L0, M0⟩ := k
  obtain ⟨⟨hx, hb, hml, hown, hts⟩, hLow, hfl, hlk, hrt, htb⟩ := F
  intro L H locs ls hR hA hv hs hS hl
  exact lv_tableOut hx hb d (by rw [zI_t h9]; exact h1) ht (kk L H locs ls hR hA hv (zs_t hs) hS hl)
theorem z_tswIn (F : zF k G cc nL own wsL_law ret tb) (tgt : Nat) {x lo hi df off : Int} {offs : Array Int} {len : Nat} (h9 : zR x) (d : decode cc pc = .ok (.tableswitch df lo hi offs, len)) (h1 : lo ≤ x) (h2 : x ≤ hi) (ho : offs[(x - lo).toNat]? = some off) (ht : (pc : Int) + off = (tgt : Int)) (kk : zJ k G R nL Q M (cl) (sl) (tgt) lv (st)) : zJ k G R nL Q M (cl) (sl) (pc) lv (.int (zI x) :: st) := by
  obtain ⟨⟨p, l, e, s, m⟩, ⟨args, below, meth, c⟩, L0, M0⟩ := k
  obtain ⟨⟨hx, hb, hml, hown, hts⟩, hLow, hfl, hlk, hrt, htb⟩ := F
  intro L H locs ls hR hA hv hs hS hl
  exact lv_tableIn hx hb d (by rw [zI_t h9]; omega) (by rw [zI_t h9]; omega) (by rw [zI_t h9]; exact ho) ht (kk L H locs ls hR hA hv (zs_t hs) hS hl)
end ZR
end
section
/-! ===== the JDK's lists ===== -/
theorem zRem1 {M : zM} {tl td : Nat} {a b c d : zO} (n1 : tl ≠ td) : zu (zu (zu (zu M tl a) td b) tl c) td d = zu (zu M td d) tl c := by
  funext q
  simp only [zu]
  by_cases h : q = tl
  · subst h; simp [n1]
  · by_cases h2 : q = td
    · subst h2; simp [h]
    · simp [h, h2]
theorem zDup {M : zM} {tl td : Nat} {a b c : zO} (n1 : tl ≠ td) : zu (zu (zu M tl a) td b) tl c = zu (zu M td b) tl c := by
  rw [zu_cm n1, zu_zu]
theorem zRem2 {M : zM} {tl td : Nat} {a c d : zO} (n1 : tl ≠ td) : zu (zu (zu M tl a) tl c) td d = zu (zu M td d) tl c := by
  rw [zu_zu, zu_cm n1]
abbrev rJ3_checkIndex_8e157 : Room := { frames := 0, cells := 0, slots := 0, locals := 0 }
set_option maxRecDepth 100000 in
set_option maxHeartbeats 4000000 in
theorem c_J3_checkIndex_8e157 {l : Launch} (hfl : l.stackTraces = false) (G : zG) {i n : Int} (M : zM) (h0 : 0 ≤ i) (h1 : i < n) (h2 : n < 1000) : zCn l G yJ3_checkIndex_8e157 (.code yJ3_checkIndex_8e157 cJ3_checkIndex_8e157 3 (some .int)) rJ3_checkIndex_8e157 [.int (zI i), .int (zI n), .null] M (zRi (fun x M2 => x = i ∧ M2 = M)) zN := by
  refine zStart hfl (by decide) (own := RJ3) rfl [(0, .int (zI i)), (1, .int (zI n)), (2, .null)] (Nat.le_of_ble_eq_true rfl) rfl (fun k hkl hinit hk0 F => ?_)
  refine z_iload_n F 0 dJ3_checkIndex_8e157_0 rfl rfl ?_
  refine z_if_lt F 9 dJ3_checkIndex_8e157_1 (by decide) (by omega) (fun c_1 => ?_) (fun c_1 => ?_)
  · skip
    exact absurd c_1 (by omega)
  · skip
    refine z_iload_n F 0 dJ3_checkIndex_8e157_4 rfl rfl ?_
    refine z_iload_n F 1 dJ3_checkIndex_8e157_5 rfl rfl ?_
    refine z_icmp_lt F 16 dJ3_checkIndex_8e157_6 (by decide) (by omega) (by omega) (fun c_2 => ?_) (fun c_2 => ?_)
    · skip
      refine z_iload_n F 0 dJ3_checkIndex_8e157_16 rfl rfl ?_
      exact z_reti F rfl (by first | decide | assumption | omega) (by first | decide | assumption | omega) dJ3_checkIndex_8e157_17 ⟨_, rfl, rfl, rfl⟩
    · skip
      exact absurd c_2 (by omega)

abbrev rJ15_checkIndex_7cf53 : Room := { frames := 1, cells := 0, slots := 0, locals := 22 }
set_option maxRecDepth 100000 in
set_option maxHeartbeats 4000000 in
theorem c_J15_checkIndex_7cf53 {l : Launch} (hfl : l.stackTraces = false) (G : zG) {i n : Int} (M : zM) (h0 : 0 ≤ i) (h1 : i < n) (h2 : n < 1000) : zCn l G yJ15_checkIndex_7cf53 (.code yJ15_checkIndex_7cf53 cJ15_checkIndex_7cf53 2 (some .int)) rJ15_checkIndex_7cf53 [.int (zI i), .int (zI n)] M (zRi (fun x M2 => x = i ∧ M2 = M)) zN := by
  refine zStart hfl (by decide) (own := RJ15) rfl [(0, .int (zI i)), (1, .int (zI n))] (Nat.le_of_ble_eq_true rfl) rfl (fun k hkl hinit hk0 F => ?_)
  refine z_iload_n F 0 dJ15_checkIndex_7cf53_0 rfl rfl ?_
  refine z_iload_n F 1 dJ15_checkIndex_7cf53_1 rfl rfl ?_
  refine z_null F dJ15_checkIndex_7cf53_2 ?_
  refine z_callS F [.int (zI i), .int (zI n), .null] [] (c_J3_checkIndex_8e157 F.2.2.1 G M h0 h1 h2) cs_J15_105 rfl ⟨by decide, by decide⟩ ⟨by decide, by decide⟩ (Nat.le_of_ble_eq_true rfl) dJ15_checkIndex_7cf53_3 z_nx (z_ki (fun x_1 M_1 h_1 => ?_))
  have hx9 := (h_1).1.symm
  have hm9 := (h_1).2.symm
  subst hx9
  subst hm9
  exact z_reti F rfl (by first | decide | assumption | omega) (by first | decide | assumption | omega) dJ15_checkIndex_7cf53_6 ⟨_, rfl, rfl, rfl⟩

abbrev rJx4a65c_size_8abf5 : Room := { frames := 0, cells := 0, slots := 0, locals := 0 }
set_option maxRecDepth 100000 in
set_option maxHeartbeats 4000000 in
theorem c_Jx4a65c_size_8abf5 {l : Launch} (hfl : l.stackTraces = false) (G : zG) {tl td : Nat} {mc n : Int}  (M : zM) (h0 : M tl = some (zOb 0 [.int (zI mc), .ref td, .int (zI n)])) : zCn l G yJx4a65c_size_8abf5 (.code yJx4a65c_size_8abf5 cJx4a65c_size_8abf5 1 (some .int)) rJx4a65c_size_8abf5 [.ref tl] M (zRi (fun x M2 => x = n ∧ M2 = M)) zN := by
  refine zStart hfl (by decide) (own := RJx4a65c) rfl [(0, .ref tl)] (Nat.le_of_ble_eq_true rfl) rfl (fun k hkl hinit hk0 F => ?_)
  refine z_aload_n F 0 dJx4a65c_size_8abf5_0 rfl rfl ?_
  refine z_get F fl_Jx4a65c_48 h0 rfl dJx4a65c_size_8abf5_1 ?_
  exact z_reti F rfl (by first | decide | assumption | omega) (by first | decide | assumption | omega) dJx4a65c_size_8abf5_4 ⟨_, rfl, rfl, rfl⟩

abbrev rJx4a65c_elementData_915e3 : Room := { frames := 0, cells := 0, slots := 0, locals := 0 }
set_option maxRecDepth 100000 in
set_option maxHeartbeats 4000000 in
theorem c_Jx4a65c_elementData_915e3 {l : Launch} (hfl : l.stackTraces = false) (G : zG) {tl td : Nat} {mc n : Int} {cap : Nat} {f : Nat → Option Nat} {i : Int} {a : Nat} (M : zM) (h0 : M tl = some (zOb 0 [.int (zI mc), .ref td, .int (zI n)])) (h1 : M td = some (zAr 4 cap f)) (hi : 0 ≤ i) (hi2 : i < cap) (hc : cap < 1000) (hf : f i.toNat = some a) : zCn l G yJx4a65c_elementData_915e3 (.code yJx4a65c_elementData_915e3 cJx4a65c_elementData_915e3 2 (some (.object "java/lang/Object"))) rJx4a65c_elementData_915e3 [.ref tl, .int (zI i)] M (zRr (fun x M2 => x = a ∧ M2 = M)) zN := by
  refine zStart hfl (by decide) (own := RJx4a65c) rfl [(0, .ref tl), (1, .int (zI i))] (Nat.le_of_ble_eq_true rfl) rfl (fun k hkl hinit hk0 F => ?_)
  refine z_aload_n F 0 dJx4a65c_elementData_915e3_0 rfl rfl ?_
  refine z_get F fl_Jx4a65c_9 h0 rfl dJx4a65c_elementData_915e3_1 ?_
  refine z_iload_n F 1 dJx4a65c_elementData_915e3_4 rfl rfl ?_
  have hc9 : cap < 2147483648 := by omega
  refine z_aald4 (a := a) F h1 hi hi2 hc9 hf dJx4a65c_elementData_915e3_5 ?_
  exact z_reta F rfl (Or.inl ⟨_, rfl⟩) (by first | decide | assumption | omega) (by first | decide | assumption | omega) dJx4a65c_elementData_915e3_6 ⟨_, rfl, rfl, rfl⟩

abbrev rJx4a65c_get_915e3 : Room := { frames := 2, cells := 0, slots := 0, locals := 43 }
set_option maxRecDepth 100000 in
set_option maxHeartbeats 4000000 in
theorem c_Jx4a65c_get_915e3 {l : Launch} (hfl : l.stackTraces = false) (G : zG) {tl td : Nat} {mc n : Int} {cap : Nat} {f : Nat → Option Nat} {i : Int} {a : Nat} (M : zM) (h0 : M tl = some (zOb 0 [.int (zI mc), .ref td, .int (zI n)])) (h1 : M td = some (zAr 4 cap f)) (hi : 0 ≤ i) (hi2 : i < n) (hn : n ≤ cap) (hc : cap < 1000) (hf : f i.toNat = some a) : zCn l G yJx4a65c_get_915e3 (.code yJx4a65c_get_915e3 cJx4a65c_get_915e3 2 (some (.object "java/lang/Object"))) rJx4a65c_get_915e3 [.ref tl, .int (zI i)] M (zRr (fun x M2 => x = a ∧ M2 = M)) zN := by
  refine zStart hfl (by decide) (own := RJx4a65c) rfl [(0, .ref tl), (1, .int (zI i))] (Nat.le_of_ble_eq_true rfl) rfl (fun k hkl hinit hk0 F => ?_)
  refine z_iload_n F 1 dJx4a65c_get_915e3_0 rfl rfl ?_
  refine z_aload_n F 0 dJx4a65c_get_915e3_1 rfl rfl ?_
  refine z_get F fl_Jx4a65c_48 h0 rfl dJx4a65c_get_915e3_2 ?_
  refine z_callS F [.int (zI i), .int (zI n)] [] (c_J15_checkIndex_7cf53 F.2.2.1 G M hi hi2 (by omega)) cs_Jx4a65c_118 rfl ⟨by decide, by decide⟩ ⟨by decide, by decide⟩ (Nat.le_of_ble_eq_true rfl) dJx4a65c_get_915e3_5 z_nx (z_ki (fun x_1 M_1 h_1 => ?_))
  have hx9 := (h_1).1.symm
  have hm9 := (h_1).2.symm
  subst hx9
  subst hm9
  refine z_pop F dJx4a65c_get_915e3_8 rfl ?_
  refine z_aload_n F 0 dJx4a65c_get_915e3_9 rfl rfl ?_
  refine z_iload_n F 1 dJx4a65c_get_915e3_10 rfl rfl ?_
  refine z_callV F [.int (zI i)] [] (c_Jx4a65c_elementData_915e3 F.2.2.1 G M h0 h1 hi (by omega) hc hf) cv_Jx4a65c_123 h0 rfl rfl rfl ⟨by decide, by decide⟩ ⟨by decide, by decide⟩ (Nat.le_of_ble_eq_true rfl) dJx4a65c_get_915e3_11 z_nx (z_kr (fun x_2 M_2 h_2 => ?_))
  have hx9 := (h_2).1.symm
  have hm9 := (h_2).2.symm
  subst hx9
  subst hm9
  exact z_reta F rfl (Or.inl ⟨_, rfl⟩) (by first | decide | assumption | omega) (by first | decide | assumption | omega) dJx4a65c_get_915e3_14 ⟨_, rfl, rfl, rfl⟩

abbrev rJ8_newLength_cabcc : Room := { frames := 1, cells := 0, slots := 0, locals := 30 }
set_option maxRecDepth 100000 in
set_option maxHeartbeats 4000000 in
theorem c_J8_newLength_cabcc {l : Launch} (hfl : l.stackTraces = false) (G : zG) {a b c : Int} (M : zM) (h0 : 0 ≤ a) (h1 : a < 1000) (h2 : 0 < b) (h3 : b < 1000) (h4 : 0 ≤ c) (h5 : c < 1000) : zCn l G yJ8_newLength_cabcc (.code yJ8_newLength_cabcc cJ8_newLength_cabcc 4 (some .int)) rJ8_newLength_cabcc [.int (zI a), .int (zI b), .int (zI c)] M (zRi (fun x M2 => x = a + (if b < c then c else b) ∧ M2 = M)) zN := by
  refine zStart hfl (by decide) (own := RJ8) rfl [(0, .int (zI a)), (1, .int (zI b)), (2, .int (zI c))] (Nat.le_of_ble_eq_true rfl) rfl (fun k hkl hinit hk0 F => ?_)
  refine z_iload_n F 0 dJ8_newLength_cabcc_0 rfl rfl ?_
  refine z_iload_n F 1 dJ8_newLength_cabcc_1 rfl rfl ?_
  refine z_iload_n F 2 dJ8_newLength_cabcc_2 rfl rfl ?_
  refine z_max F (zr_6 _ (List.mem_of_getElem? (i := 16) rfl)) (zr_6 _ (List.mem_of_getElem? (i := 8) rfl)) (zr_6 _ (List.mem_of_getElem? (i := 9) rfl)) (zr_6 _ (List.mem_of_getElem? (i := 10) rfl)) (by omega) (by omega) (by decide) (Nat.le_of_ble_eq_true rfl) (by first | decide | assumption | omega) (by first | decide | assumption | omega) dJ8_newLength_cabcc_3 ?_
  refine z_iadd F dJ8_newLength_cabcc_6 ?_
  have hr9 : 0 < a + (if b < c then c else b) ∧ a + (if b < c then c else b) < 2000 := by split <;> omega
  refine z_istore_n F [(3, .int (zI (a + ((if b < c then c else b))))), (0, .int (zI a)), (1, .int (zI b)), (2, .int (zI c))] dJ8_newLength_cabcc_7 rfl (by decide) rfl ?_
  refine z_iconst (z := 0) F dJ8_newLength_cabcc_8 (by decide) ?_
  refine z_iload_n F 0 dJ8_newLength_cabcc_9 rfl rfl ?_
  refine z_icmp_ge F 21 dJ8_newLength_cabcc_10 (by decide) ⟨by decide, by decide⟩ (by omega) (fun c_1 => ?_) (fun c_1 => ?_)
  · skip
    exact absurd c_1 (by omega)
  · skip
    refine z_iload_n F 0 dJ8_newLength_cabcc_13 rfl rfl ?_
    refine z_ldc (z := 2147483639) F (zr_6 _ (List.mem_of_getElem? (i := 17) rfl)) dJ8_newLength_cabcc_14 ?_
    refine z_icmp_gt F 21 dJ8_newLength_cabcc_16 (by decide) (by omega) ⟨by decide, by decide⟩ (fun c_2 => ?_) (fun c_2 => ?_)
    · skip
      exact absurd c_2 (by omega)
    · skip
      refine z_iload_n F 0 dJ8_newLength_cabcc_19 rfl rfl ?_
      exact z_reti F rfl (by first | decide | assumption | omega) (by first | decide | assumption | omega) dJ8_newLength_cabcc_20 ⟨_, rfl, rfl, rfl⟩

abbrev rJ7_copyOf_6403c : Room := { frames := 1, cells := 1, slots := 33, locals := 60 }
set_option maxRecDepth 100000 in
set_option maxHeartbeats 4000000 in
theorem c_J7_copyOf_6403c {l : Launch} (hfl : l.stackTraces = false) (G : zG) {td tn nl cap : Nat} {f : Nat → Option Nat} {ci : Nat} {C : String} {T : u_T} {NN : Nat} (M : zM) (h1 : M td = some (zAr 4 cap f)) (h2 : M tn = none) (m1 : tn % 64 ≠ 63) (hcap : cap ≤ nl) (hnl : nl ≤ 33) (hc : vwCl[ci]? = some (C, T, NN)) (hq : (C, "java/lang/Object") ∈ zNC) (hel : ∀ j x, f j = some x → ∃ fs, M x = some (zOb ci fs)) : zCn l G yJ7_copyOf_6403c (.code yJ7_copyOf_6403c cJ7_copyOf_6403c 4 (some (.array (.object "java/lang/Object")))) rJ7_copyOf_6403c [.ref td, .int (zI nl), .ref 191] M (zRr (fun x M2 => x = tn ∧ M2 = zu M tn (zAr 4 nl (va_cpy f (fun _ => none) 0 0 cap)))) zN := by
  refine zStart hfl (by decide) (own := RJ7) rfl [(0, .ref td), (1, .int (zI nl)), (2, .ref 191)] (Nat.le_of_ble_eq_true rfl) rfl (fun k hkl hinit hk0 F => ?_)
  have hsl9 : 0 + nl ≤ rJ7_copyOf_6403c.slots := by show 0 + nl ≤ 33; omega
  refine z_aload_n F 2 dJ7_copyOf_6403c_0 rfl rfl ?_
  refine z_ldcM F (zr_7 _ (List.mem_of_getElem? (i := 8) rfl)) dJ7_copyOf_6403c_1 ?_
  refine z_acmp_ne (tgt := 13) F dJ7_copyOf_6403c_3 (by decide) ?_
  refine z_iload_n F 1 dJ7_copyOf_6403c_6 rfl rfl ?_
  have n1 : tn ≠ td := fun h => by rw [h, h1] at h2; cases h2
  refine z_newr4 F tn nl rfl (by omega) h2 m1 (by decide) hsl9 (zr_7 _ (List.mem_of_getElem? (i := 9) rfl)) dJ7_copyOf_6403c_7 ?_
  have hel9 : ∀ j x, f j = some x → ∃ fs, zu M tn (zAr 4 nl (fun _ => none)) x = some (zOb ci fs) := fun j x hx => by
    obtain ⟨fs, h9⟩ := hel j x hx
    exact ⟨fs, (zu_n (fun e => by rw [e, h2] at h9; cases h9)).trans h9⟩
  have hm_1_0 := (zu_n (M := M) (t := tn) (q := td) (o := (zAr 4 nl (fun _ => none))) (by first | assumption | omega | (intro h9; omega))).trans h1
  have hm_1_s := zu_s M tn (zAr 4 nl (fun _ => none))
  refine z_goto F 24 dJ7_copyOf_6403c_10 (by decide) ?_
  refine z_astore_n F [(3, .ref tn), (0, .ref td), (1, .int (zI nl)), (2, .ref 191)] dJ7_copyOf_6403c_24 rfl (by decide) rfl ?_
  refine z_aload_n F 1 dJ7_copyOf_6403c_25 rfl rfl ?_
  refine z_iconst (z := 0) F dJ7_copyOf_6403c_26 (by decide) ?_
  refine z_aload_n F 0 dJ7_copyOf_6403c_27 rfl rfl ?_
  refine z_iconst (z := 0) F dJ7_copyOf_6403c_28 (by decide) ?_
  refine z_aload_n F 1 dJ7_copyOf_6403c_29 rfl rfl ?_
  refine z_alenr F hm_1_0 dJ7_copyOf_6403c_30 ?_
  refine z_iload_n F 2 dJ7_copyOf_6403c_31 rfl rfl ?_
  refine z_min F (zr_7 _ (List.mem_of_getElem? (i := 10) rfl)) (zr_7 _ (List.mem_of_getElem? (i := 11) rfl)) (zr_6 _ (List.mem_of_getElem? (i := 9) rfl)) (zr_7 _ (List.mem_of_getElem? (i := 12) rfl)) (by omega) (by omega) (by decide) (Nat.le_of_ble_eq_true rfl) (by first | decide | assumption | omega) (by first | decide | assumption | omega) dJ7_copyOf_6403c_32 ?_
  refine z_copyr F (zr_7 _ (List.mem_of_getElem? (i := 13) rfl)) (zr_7 _ (List.mem_of_getElem? (i := 14) rfl)) (zr_7 _ (List.mem_of_getElem? (i := 15) rfl)) (zr_7 _ (List.mem_of_getElem? (i := 16) rfl)) hm_1_0 hm_1_s hc hq hel9 (by omega) (by omega) (by omega) (by omega) (by omega) (by omega) (by omega) (by decide) (Nat.le_of_ble_eq_true rfl) dJ7_copyOf_6403c_35 ?_
  have hm_2_0 := (zu_n (M := (zu M tn (zAr 4 nl (fun _ => none)))) (t := tn) (q := td) (o := (zAr 4 nl (va_cpy f ((fun _ => none)) (0 : Int).toNat (0 : Int).toNat ((if nl < cap then nl else cap) : Int).toNat))) (by first | assumption | omega | (intro h9; omega))).trans hm_1_0
  have hm_2_s := zu_s (zu M tn (zAr 4 nl (fun _ => none))) tn (zAr 4 nl (va_cpy f ((fun _ => none)) (0 : Int).toNat (0 : Int).toNat ((if nl < cap then nl else cap) : Int).toNat))
  refine z_aload_n F 0 dJ7_copyOf_6403c_38 rfl rfl ?_
  exact z_reta F rfl (Or.inr ⟨_, rfl⟩) (by first | decide | assumption | omega) (by first | decide | assumption | omega) dJ7_copyOf_6403c_39 ⟨_, rfl, rfl, by rw [zu_zu, show (if (nl : Int) < (cap : Int) then (nl : Int) else (cap : Int)).toNat = cap by split <;> omega]; rfl⟩

abbrev rJ7_copyOf_1904c : Room := { frames := 2, cells := 1, slots := 33, locals := 83 }
set_option maxRecDepth 100000 in
set_option maxHeartbeats 4000000 in
theorem c_J7_copyOf_1904c {l : Launch} (hfl : l.stackTraces = false) (G : zG) {td tn nl cap : Nat} {f : Nat → Option Nat} {ci : Nat} {C : String} {T : u_T} {NN : Nat} (M : zM) (h1 : M td = some (zAr 4 cap f)) (h2 : M tn = none) (m1 : tn % 64 ≠ 63) (hcap : cap ≤ nl) (hnl : nl ≤ 33) (hc : vwCl[ci]? = some (C, T, NN)) (hq : (C, "java/lang/Object") ∈ zNC) (hel : ∀ j x, f j = some x → ∃ fs, M x = some (zOb ci fs)) : zCn l G yJ7_copyOf_1904c (.code yJ7_copyOf_1904c cJ7_copyOf_1904c 2 (some (.array (.object "java/lang/Object")))) rJ7_copyOf_1904c [.ref td, .int (zI nl)] M (zRr (fun x M2 => x = tn ∧ M2 = zu M tn (zAr 4 nl (va_cpy f (fun _ => none) 0 0 cap)))) zN := by
  refine zStart hfl (by decide) (own := RJ7) rfl [(0, .ref td), (1, .int (zI nl))] (Nat.le_of_ble_eq_true rfl) rfl (fun k hkl hinit hk0 F => ?_)
  refine z_aload_n F 0 dJ7_copyOf_1904c_0 rfl rfl ?_
  refine z_iload_n F 1 dJ7_copyOf_1904c_1 rfl rfl ?_
  refine z_aload_n F 0 dJ7_copyOf_1904c_2 rfl rfl ?_
  refine z_getC F (zr_7 _ (List.mem_of_getElem? (i := 1) rfl)) (zr_7 _ (List.mem_of_getElem? (i := 2) rfl)) (zr_7 _ (List.mem_of_getElem? (i := 3) rfl)) (zr_7 _ (List.mem_of_getElem? (i := 4) rfl)) h1 (by decide) (Nat.le_of_ble_eq_true rfl) dJ7_copyOf_1904c_3 ?_
  refine z_callS F [.ref td, .int (zI nl), .ref 191] [] (c_J7_copyOf_6403c F.2.2.1 G M h1 h2 m1 hcap hnl hc hq hel) cs_J7_300 rfl ⟨by decide, by decide⟩ ⟨by decide, by decide⟩ (Nat.le_of_ble_eq_true rfl) dJ7_copyOf_1904c_6 z_nx (z_kr (fun x_1 M_1 h_1 => ?_))
  have hx9 := (h_1).1.symm
  have hm9 := (h_1).2.symm
  subst hx9
  subst hm9
  exact z_reta F rfl (Or.inr ⟨_, rfl⟩) (by first | decide | assumption | omega) (by first | decide | assumption | omega) dJ7_copyOf_1904c_9 ⟨_, rfl, rfl, rfl⟩

abbrev rJx4a65c_grow_92f84 : Room := { frames := 3, cells := 1, slots := 33, locals := 104 }
set_option maxRecDepth 100000 in
set_option maxHeartbeats 4000000 in
theorem c_grow1 {l : Launch} (hfl : l.stackTraces = false) (G : zG) {tl tn : Nat} {mc n : Int} (M : zM) (h0 : M tl = some (zOb 0 [.int (zI mc), .ref 63, .int (zI n)])) (h2 : M tn = none) (m1 : tn % 64 ≠ 63) : zCn l G yJx4a65c_grow_92f84 (.code yJx4a65c_grow_92f84 cJx4a65c_grow_92f84 4 (some (.array (.object "java/lang/Object")))) rJx4a65c_grow_92f84 [.ref tl, .int (zI 1)] M (zRr (fun x M2 => x = tn ∧ M2 = zu (zu M tn (zAr 4 10 (fun _ => none))) tl (zOb 0 [.int (zI mc), .ref tn, .int (zI n)]))) zN := by
  refine zStart hfl (by decide) (own := RJx4a65c) rfl [(0, .ref tl), (1, .int (zI 1))] (Nat.le_of_ble_eq_true rfl) rfl (fun k hkl hinit hk0 F => ?_)
  have n1 : tl ≠ tn := fun h => by rw [h, h2] at h0; cases h0
  refine z_aload_n F 0 dJx4a65c_grow_92f84_0 rfl rfl ?_
  refine z_get F fl_Jx4a65c_9 h0 rfl dJx4a65c_grow_92f84_1 ?_
  refine z_alenE F dJx4a65c_grow_92f84_4 ?_
  refine z_istore_n F [(2, .int (zI 0)), (0, .ref tl), (1, .int (zI 1))] dJx4a65c_grow_92f84_5 rfl (by decide) rfl ?_
  refine z_iload_n F 0 dJx4a65c_grow_92f84_6 rfl rfl ?_
  refine z_if_gt F 20 dJx4a65c_grow_92f84_7 (by decide) ⟨by decide, by decide⟩ (fun c_1 => ?_) (fun c_1 => ?_)
  · skip
    exact absurd c_1 (by omega)
  · skip
    refine z_aload_n F 1 dJx4a65c_grow_92f84_10 rfl rfl ?_
    refine z_get F fl_Jx4a65c_9 h0 rfl dJx4a65c_grow_92f84_11 ?_
    refine z_gets F rfl (zr_2 _ (List.mem_of_getElem? (i := 7) rfl)) dJx4a65c_grow_92f84_14 ?_
    refine z_acmp_eq F 45 dJx4a65c_grow_92f84_17 (by decide) ?_
    refine z_aload_n F 1 dJx4a65c_grow_92f84_45 rfl rfl ?_
    refine z_bipush (z := 10) F dJx4a65c_grow_92f84_46 (by decide) ?_
    refine z_iload_n F 2 dJx4a65c_grow_92f84_48 rfl rfl ?_
    refine z_max F (zr_6 _ (List.mem_of_getElem? (i := 7) rfl)) (zr_6 _ (List.mem_of_getElem? (i := 8) rfl)) (zr_6 _ (List.mem_of_getElem? (i := 9) rfl)) (zr_6 _ (List.mem_of_getElem? (i := 10) rfl)) ⟨by decide, by decide⟩ ⟨by decide, by decide⟩ (by decide) (Nat.le_of_ble_eq_true rfl) (by first | decide | assumption | omega) (by first | decide | assumption | omega) dJx4a65c_grow_92f84_49 ?_
    refine z_ti (y := 10) (by decide) ?_
    refine z_newr4 F tn 10 (by decide) (by decide) h2 m1 (by decide) (by decide) (zr_6 _ (List.mem_of_getElem? (i := 11) rfl)) dJx4a65c_grow_92f84_52 ?_
    have hm_2_0 := (zu_n (M := M) (t := tn) (q := tl) (o := (zAr 4 10 (fun _ => none))) (by first | assumption | omega | (intro h9; omega))).trans h0
    have hm_2_s := zu_s M tn (zAr 4 10 (fun _ => none))
    refine z_dup_x1 F dJx4a65c_grow_92f84_55 rfl rfl ?_
    refine z_put (ty := .array (.object "java/lang/Object")) F [.int (zI mc), .ref tn, .int (zI n)] fl_Jx4a65c_9 tyJx4a65c tyJx4a65c_ok nmJx4a65c rfl (by decide +kernel) rfl rfl hm_2_0 (Nat.le_of_ble_eq_true rfl) rfl dJx4a65c_grow_92f84_56 ?_
    have hm_3_0 := (zu_n (M := (zu M tn (zAr 4 10 (fun _ => none)))) (t := tl) (q := tn) (o := (zOb 0 [.int (zI mc), .ref tn, .int (zI n)])) (by first | assumption | omega | (intro h9; omega))).trans hm_2_s
    have hm_3_s := zu_s (zu M tn (zAr 4 10 (fun _ => none))) tl (zOb 0 [.int (zI mc), .ref tn, .int (zI n)])
    exact z_reta F rfl (Or.inr ⟨_, rfl⟩) (by first | decide | assumption | omega) (by first | decide | assumption | omega) dJx4a65c_grow_92f84_59 ⟨_, rfl, rfl, rfl⟩

set_option maxRecDepth 100000 in
set_option maxHeartbeats 4000000 in
theorem c_grow2 {l : Launch} (hfl : l.stackTraces = false) (G : zG) {tl td tn cap : Nat} {mc n : Int} {f : Nat → Option Nat} {ci : Nat} {C : String} {T : u_T} {NN : Nat} (M : zM) (h0 : M tl = some (zOb 0 [.int (zI mc), .ref td, .int (zI n)])) (h1 : M td = some (zAr 4 cap f)) (h2 : M tn = none) (m1 : tn % 64 ≠ 63) (hc1 : 2 ≤ cap) (hc2 : cap ≤ 22) (hc : vwCl[ci]? = some (C, T, NN)) (hq : (C, "java/lang/Object") ∈ zNC) (hel : ∀ j x, f j = some x → ∃ fs, M x = some (zOb ci fs)) : zCn l G yJx4a65c_grow_92f84 (.code yJx4a65c_grow_92f84 cJx4a65c_grow_92f84 4 (some (.array (.object "java/lang/Object")))) rJx4a65c_grow_92f84 [.ref tl, .int (zI (cap + 1))] M (zRr (fun x M2 => x = tn ∧ M2 = zu (zu M tn (zAr 4 (cap + cap / 2) (va_cpy f (fun _ => none) 0 0 cap))) tl (zOb 0 [.int (zI mc), .ref tn, .int (zI n)]))) zN := by
  refine zStart hfl (by decide) (own := RJx4a65c) rfl [(0, .ref tl), (1, .int (zI (cap + 1)))] (Nat.le_of_ble_eq_true rfl) rfl (fun k hkl hinit hk0 F => ?_)
  have n1 : tl ≠ tn := fun h => by rw [h, h2] at h0; cases h0
  refine z_aload_n F 0 dJx4a65c_grow_92f84_0 rfl rfl ?_
  refine z_get F fl_Jx4a65c_9 h0 rfl dJx4a65c_grow_92f84_1 ?_
  refine z_alenr F h1 dJx4a65c_grow_92f84_4 ?_
  refine z_istore_n F [(2, .int (zI cap)), (0, .ref tl), (1, .int (zI (cap + 1)))] dJx4a65c_grow_92f84_5 rfl (by decide) rfl ?_
  refine z_iload_n F 0 dJx4a65c_grow_92f84_6 rfl rfl ?_
  refine z_if_gt F 20 dJx4a65c_grow_92f84_7 (by decide) (by omega) (fun c_1 => ?_) (fun c_1 => ?_)
  · skip
    refine z_iload_n F 0 dJx4a65c_grow_92f84_20 rfl rfl ?_
    refine z_iload_n F 2 dJx4a65c_grow_92f84_21 rfl rfl ?_
    refine z_iload_n F 0 dJx4a65c_grow_92f84_22 rfl rfl ?_
    refine z_isub F dJx4a65c_grow_92f84_23 ?_
    refine z_iload_n F 0 dJx4a65c_grow_92f84_24 rfl rfl ?_
    refine z_iconst (z := 1) F dJx4a65c_grow_92f84_25 (by decide) ?_
    refine z_ishr F (((cap / 2 : Nat) : Int)) dJx4a65c_grow_92f84_26 (by have h9 := zI_shrI (n := cap) (i := 1) (by omega) (by decide) (by decide); exact h9) ?_
    refine z_callS F [.int (zI cap), .int (zI ((cap + 1) - cap)), .int (zI (((cap / 2 : Nat) : Int)))] [] (c_J8_newLength_cabcc F.2.2.1 G M (a := (cap : Int)) (b := ((cap : Int) + 1 - cap)) (c := ((cap / 2 : Nat) : Int)) (by omega) (by omega) (by omega) (by omega) (by omega) (by omega)) cs_Jx4a65c_73 rfl ⟨by decide, by decide⟩ ⟨by decide, by decide⟩ (Nat.le_of_ble_eq_true rfl) dJx4a65c_grow_92f84_27 z_nx (z_ki (fun x_2 M_2 h_2 => ?_))
    have hx9 := (h_2).1.symm
    have hm9 := (h_2).2.symm
    subst hx9
    subst hm9
    refine z_ti (y := ((cap + cap / 2 : Nat) : Int)) (by split <;> omega) ?_
    refine z_istore_n F [(3, .int (zI (((cap + cap / 2 : Nat) : Int)))), (2, .int (zI cap)), (0, .ref tl), (1, .int (zI (cap + 1)))] dJx4a65c_grow_92f84_30 rfl (by decide) rfl ?_
    refine z_aload_n F 2 dJx4a65c_grow_92f84_31 rfl rfl ?_
    refine z_aload_n F 2 dJx4a65c_grow_92f84_32 rfl rfl ?_
    refine z_get F fl_Jx4a65c_9 h0 rfl dJx4a65c_grow_92f84_33 ?_
    refine z_iload_n F 0 dJx4a65c_grow_92f84_36 rfl rfl ?_
    refine z_callS F [.ref td, .int (zI (((cap + cap / 2 : Nat) : Int)))] [.ref tl] (c_J7_copyOf_1904c F.2.2.1 G (tn := tn) (nl := cap + cap / 2) M h1 h2 m1 (by omega) (by omega) hc hq hel) cs_Jx4a65c_66 rfl ⟨by decide, by decide⟩ ⟨by decide, by decide⟩ (Nat.le_of_ble_eq_true rfl) dJx4a65c_grow_92f84_37 z_nx (z_kr (fun x_3 M_3 h_3 => ?_))
    have hx9 := (h_3).1.symm
    have hm9 := (h_3).2.symm
    subst hx9
    subst hm9
    refine z_dup_x1 F dJx4a65c_grow_92f84_40 rfl rfl ?_
    refine z_put (ty := .array (.object "java/lang/Object")) F [.int (zI mc), .ref tn, .int (zI n)] fl_Jx4a65c_9 tyJx4a65c tyJx4a65c_ok nmJx4a65c rfl (by decide +kernel) rfl rfl ((zu_n n1).trans h0) (Nat.le_of_ble_eq_true rfl) rfl dJx4a65c_grow_92f84_41 ?_
    have hm_4_s := zu_s (zu M tn (zAr 4 (cap + cap / 2) (va_cpy f (fun _ => none) 0 0 cap))) tl (zOb 0 [.int (zI mc), .ref tn, .int (zI n)])
    exact z_reta F rfl (Or.inr ⟨_, rfl⟩) (by first | decide | assumption | omega) (by first | decide | assumption | omega) dJx4a65c_grow_92f84_44 ⟨_, rfl, rfl, rfl⟩
  · skip
    exact absurd c_1 (by omega)

abbrev rJx4a65c_grow_d5877 : Room := { frames := 4, cells := 1, slots := 33, locals := 127 }
set_option maxRecDepth 100000 in
set_option maxHeartbeats 4000000 in
theorem c_growA {l : Launch} (hfl : l.stackTraces = false) (G : zG) {tl tn : Nat} {mc : Int} (M : zM) (h0 : M tl = some (zOb 0 [.int (zI mc), .ref 63, .int (zI 0)])) (h2 : M tn = none) (m1 : tn % 64 ≠ 63) : zCn l G yJx4a65c_grow_d5877 (.code yJx4a65c_grow_d5877 cJx4a65c_grow_d5877 1 (some (.array (.object "java/lang/Object")))) rJx4a65c_grow_d5877 [.ref tl] M (zRr (fun x M2 => x = tn ∧ M2 = zu (zu M tn (zAr 4 10 (fun _ => none))) tl (zOb 0 [.int (zI mc), .ref tn, .int (zI 0)]))) zN := by
  refine zStart hfl (by decide) (own := RJx4a65c) rfl [(0, .ref tl)] (Nat.le_of_ble_eq_true rfl) rfl (fun k hkl hinit hk0 F => ?_)
  refine z_aload_n F 0 dJx4a65c_grow_d5877_0 rfl rfl ?_
  refine z_aload_n F 0 dJx4a65c_grow_d5877_1 rfl rfl ?_
  refine z_get F fl_Jx4a65c_48 h0 rfl dJx4a65c_grow_d5877_2 ?_
  refine z_iconst (z := 1) F dJx4a65c_grow_d5877_5 (by decide) ?_
  refine z_iadd F dJx4a65c_grow_d5877_6 ?_
  refine z_ti (y := 1) (by decide) ?_
  refine z_callV F [.int (zI 1)] [] (c_grow1 F.2.2.1 G M h0 h2 m1) cv_Jx4a65c_69 h0 rfl rfl rfl ⟨by decide, by decide⟩ ⟨by decide, by decide⟩ (Nat.le_of_ble_eq_true rfl) dJx4a65c_grow_d5877_7 z_nx (z_kr (fun x_1 M_1 h_1 => ?_))
  have hx9 := (h_1).1.symm
  have hm9 := (h_1).2.symm
  subst hx9
  subst hm9
  exact z_reta F rfl (Or.inr ⟨_, rfl⟩) (by first | decide | assumption | omega) (by first | decide | assumption | omega) dJx4a65c_grow_d5877_10 ⟨_, rfl, rfl, rfl⟩

set_option maxRecDepth 100000 in
set_option maxHeartbeats 4000000 in
theorem c_growB {l : Launch} (hfl : l.stackTraces = false) (G : zG) {tl td tn cap : Nat} {mc : Int} {f : Nat → Option Nat} {ci : Nat} {C : String} {T : u_T} {NN : Nat} (M : zM) (h0 : M tl = some (zOb 0 [.int (zI mc), .ref td, .int (zI cap)])) (h1 : M td = some (zAr 4 cap f)) (h2 : M tn = none) (m1 : tn % 64 ≠ 63) (hc1 : 2 ≤ cap) (hc2 : cap ≤ 22) (hc : vwCl[ci]? = some (C, T, NN)) (hq : (C, "java/lang/Object") ∈ zNC) (hel : ∀ j x, f j = some x → ∃ fs, M x = some (zOb ci fs)) : zCn l G yJx4a65c_grow_d5877 (.code yJx4a65c_grow_d5877 cJx4a65c_grow_d5877 1 (some (.array (.object "java/lang/Object")))) rJx4a65c_grow_d5877 [.ref tl] M (zRr (fun x M2 => x = tn ∧ M2 = zu (zu M tn (zAr 4 (cap + cap / 2) (va_cpy f (fun _ => none) 0 0 cap))) tl (zOb 0 [.int (zI mc), .ref tn, .int (zI cap)]))) zN := by
  refine zStart hfl (by decide) (own := RJx4a65c) rfl [(0, .ref tl)] (Nat.le_of_ble_eq_true rfl) rfl (fun k hkl hinit hk0 F => ?_)
  refine z_aload_n F 0 dJx4a65c_grow_d5877_0 rfl rfl ?_
  refine z_aload_n F 0 dJx4a65c_grow_d5877_1 rfl rfl ?_
  refine z_get F fl_Jx4a65c_48 h0 rfl dJx4a65c_grow_d5877_2 ?_
  refine z_iconst (z := 1) F dJx4a65c_grow_d5877_5 (by decide) ?_
  refine z_iadd F dJx4a65c_grow_d5877_6 ?_
  refine z_callV F [.int (zI (cap + 1))] [] (c_grow2 F.2.2.1 G M h0 h1 h2 m1 hc1 hc2 hc hq hel) cv_Jx4a65c_69 h0 rfl rfl rfl ⟨by decide, by decide⟩ ⟨by decide, by decide⟩ (Nat.le_of_ble_eq_true rfl) dJx4a65c_grow_d5877_7 z_nx (z_kr (fun x_1 M_1 h_1 => ?_))
  have hx9 := (h_1).1.symm
  have hm9 := (h_1).2.symm
  subst hx9
  subst hm9
  exact z_reta F rfl (Or.inr ⟨_, rfl⟩) (by first | decide | assumption | omega) (by first | decide | assumption | omega) dJx4a65c_grow_d5877_10 ⟨_, rfl, rfl, rfl⟩

abbrev rJx4a65c_add_72be8 : Room := { frames := 5, cells := 1, slots := 33, locals := 147 }
set_option maxRecDepth 100000 in
set_option maxHeartbeats 4000000 in
theorem c_add3A {l : Launch} (hfl : l.stackTraces = false) (G : zG) {tl td : Nat} {mc n : Int} {cap : Nat} {f : Nat → Option Nat} {te : Nat} {es : List Value} {ci : Nat} {C : String} {T : u_T} {NN : Nat} (M : zM) (h0 : M tl = some (zOb 0 [.int (zI mc), .ref td, .int (zI n)])) (h1 : M td = some (zAr 4 cap f)) (hn0 : 0 ≤ n) (hn : n < cap) (hcap : cap < 1000) (hn9 : te ≠ tl) (he : M te = some (zOb ci es)) (hc : vwCl[ci]? = some (C, T, NN)) (hq : (C, "java/lang/Object") ∈ zNC) : zCn l G yJx4a65c_add_72be8 (.code yJx4a65c_add_72be8 cJx4a65c_add_72be8 4 none) rJx4a65c_add_72be8 [.ref tl, .ref te, .ref td, .int (zI n)] M (zRv (fun M2 => M2 = zu (zu M td (zAr 4 cap (va_up f n.toNat (some te)))) tl (zOb 0 [.int (zI mc), .ref td, .int (zI (n + 1))]))) zN := by
  refine zStart hfl (by decide) (own := RJx4a65c) rfl [(0, .ref tl), (1, .ref te), (2, .ref td), (3, .int (zI n))] (Nat.le_of_ble_eq_true rfl) rfl (fun k hkl hinit hk0 F => ?_)
  have n1 : tl ≠ td := fun h => by rw [h, h1] at h0; cases h0
  have n2 : te ≠ td := fun h => by rw [h, h1] at he; cases he
  refine z_iload_n F 3 dJx4a65c_add_72be8_0 rfl rfl ?_
  refine z_aload_n F 2 dJx4a65c_add_72be8_1 rfl rfl ?_
  refine z_alenr F h1 dJx4a65c_add_72be8_2 ?_
  refine z_icmp_ne F 11 dJx4a65c_add_72be8_3 (by decide) (by omega) (by omega) (fun c_1 => ?_) (fun c_1 => ?_)
  · skip
    refine z_aload_n F 2 dJx4a65c_add_72be8_11 rfl rfl ?_
    refine z_iload_n F 3 dJx4a65c_add_72be8_12 rfl rfl ?_
    refine z_aload_n F 1 dJx4a65c_add_72be8_13 rfl rfl ?_
    refine z_aast4 F h1 he hc hq (by omega) (by omega) (by omega) dJx4a65c_add_72be8_14 ?_
    have hm_2_0 := (zu_n (M := M) (t := td) (q := tl) (o := (zAr 4 cap (va_up f (n : Int).toNat (some te)))) (by first | assumption | omega | (intro h9; omega))).trans h0
    have hm_2_1 := (zu_n (M := M) (t := td) (q := te) (o := (zAr 4 cap (va_up f (n : Int).toNat (some te)))) (by first | assumption | omega | (intro h9; omega))).trans he
    have hm_2_s := zu_s M td (zAr 4 cap (va_up f (n : Int).toNat (some te)))
    refine z_aload_n F 0 dJx4a65c_add_72be8_15 rfl rfl ?_
    refine z_iload_n F 3 dJx4a65c_add_72be8_16 rfl rfl ?_
    refine z_iconst (z := 1) F dJx4a65c_add_72be8_17 (by decide) ?_
    refine z_iadd F dJx4a65c_add_72be8_18 ?_
    refine z_put (ty := .int) F [.int (zI mc), .ref td, .int (zI (n + 1))] fl_Jx4a65c_48 tyJx4a65c tyJx4a65c_ok nmJx4a65c rfl (by decide +kernel) rfl rfl hm_2_0 (Nat.le_of_ble_eq_true rfl) rfl dJx4a65c_add_72be8_19 ?_
    have hm_3_0 := (zu_n (M := (zu M td (zAr 4 cap (va_up f (n : Int).toNat (some te))))) (t := tl) (q := te) (o := (zOb 0 [.int (zI mc), .ref td, .int (zI (n + 1))])) (by first | assumption | omega | (intro h9; omega))).trans hm_2_1
    have hm_3_1 := (zu_n (M := (zu M td (zAr 4 cap (va_up f (n : Int).toNat (some te))))) (t := tl) (q := td) (o := (zOb 0 [.int (zI mc), .ref td, .int (zI (n + 1))])) (by first | assumption | omega | (intro h9; omega))).trans hm_2_s
    have hm_3_s := zu_s (zu M td (zAr 4 cap (va_up f (n : Int).toNat (some te)))) tl (zOb 0 [.int (zI mc), .ref td, .int (zI (n + 1))])
    exact z_retv F rfl (by first | decide | assumption | omega) (by first | decide | assumption | omega) dJx4a65c_add_72be8_22 ⟨rfl, rfl⟩
  · skip
    exact absurd c_1 (by omega)

set_option maxRecDepth 100000 in
set_option maxHeartbeats 4000000 in
theorem c_add3B {l : Launch} (hfl : l.stackTraces = false) (G : zG) {tl tn : Nat} {mc : Int} {te : Nat} {es : List Value} {ci : Nat} {C : String} {T : u_T} {NN : Nat} (M : zM) (h0 : M tl = some (zOb 0 [.int (zI mc), .ref 63, .int (zI 0)])) (h2 : M tn = none) (m1 : tn % 64 ≠ 63) (hn9 : te ≠ tl) (he : M te = some (zOb ci es)) (hc : vwCl[ci]? = some (C, T, NN)) (hq : (C, "java/lang/Object") ∈ zNC) : zCn l G yJx4a65c_add_72be8 (.code yJx4a65c_add_72be8 cJx4a65c_add_72be8 4 none) rJx4a65c_add_72be8 [.ref tl, .ref te, .ref 63, .int (zI 0)] M (zRv (fun M2 => M2 = zu (zu M tn (zAr 4 10 (va_up (fun _ => none) 0 (some te)))) tl (zOb 0 [.int (zI mc), .ref tn, .int (zI 1)]))) zN := by
  refine zStart hfl (by decide) (own := RJx4a65c) rfl [(0, .ref tl), (1, .ref te), (2, .ref 63), (3, .int (zI 0))] (Nat.le_of_ble_eq_true rfl) rfl (fun k hkl hinit hk0 F => ?_)
  have n1 : tl ≠ tn := fun h => by rw [h, h2] at h0; cases h0
  have n2 : te ≠ tn := fun h => by rw [h, h2] at he; cases he
  refine z_iload_n F 3 dJx4a65c_add_72be8_0 rfl rfl ?_
  refine z_aload_n F 2 dJx4a65c_add_72be8_1 rfl rfl ?_
  refine z_alenE F dJx4a65c_add_72be8_2 ?_
  refine z_icmp_ne F 11 dJx4a65c_add_72be8_3 (by decide) ⟨by decide, by decide⟩ ⟨by decide, by decide⟩ (fun c_1 => ?_) (fun c_1 => ?_)
  · skip
    exact absurd rfl c_1
  · skip
    refine z_aload_n F 0 dJx4a65c_add_72be8_6 rfl rfl ?_
    refine z_callV F [] [] (c_growA F.2.2.1 G M h0 h2 m1) cv_Jx4a65c_129 h0 rfl rfl rfl ⟨by decide, by decide⟩ ⟨by decide, by decide⟩ (Nat.le_of_ble_eq_true rfl) dJx4a65c_add_72be8_7 z_nx (z_kr (fun x_2 M_2 h_2 => ?_))
    have hx9 := (h_2).1.symm
    have hm9 := (h_2).2.symm
    subst hx9
    subst hm9
    have n3 : te ≠ tl ∨ te = tl := (Classical.em (te = tl)).symm
    have he9 : ∃ es9, zu (zu M tn (zAr 4 10 (fun _ => none))) tl (zOb 0 [.int (zI mc), .ref tn, .int (zI 0)]) te = some (zOb ci es9) := by
      by_cases e9 : te = tl
      · have hci : ci = 0 := by
          rw [e9, h0] at he
          cases he
          rfl
        rw [e9, hci]
        exact ⟨_, zu_s _ _ _⟩
      · exact ⟨es, (zu_n e9).trans ((zu_n n2).trans he)⟩
    obtain ⟨es9, he9⟩ := he9
    refine z_astore_n F [(2, .ref tn), (0, .ref tl), (1, .ref te), (3, .int (zI 0))] dJx4a65c_add_72be8_10 rfl (by decide) rfl ?_
    refine z_aload_n F 0 dJx4a65c_add_72be8_11 rfl rfl ?_
    refine z_iload_n F 3 dJx4a65c_add_72be8_12 rfl rfl ?_
    refine z_aload_n F 2 dJx4a65c_add_72be8_13 rfl rfl ?_
    refine z_aast4 F ((zu_n (Ne.symm n1)).trans (zu_s _ _ _)) he9 hc hq (by omega) (by omega) (by omega) dJx4a65c_add_72be8_14 ?_
    have hm_3_0 := (zu_n (M := (zu (zu M tn (zAr 4 10 (fun _ => none))) tl (zOb 0 [.int (zI mc), .ref tn, .int (zI 0)]))) (t := tn) (q := tl) (o := (zAr 4 10 (va_up ((fun _ => none)) (0 : Int).toNat (some te)))) (by first | assumption | omega | (intro h9; omega))).trans (zu_s _ _ _)
    have hm_3_1 := (zu_n (M := (zu (zu M tn (zAr 4 10 (fun _ => none))) tl (zOb 0 [.int (zI mc), .ref tn, .int (zI 0)]))) (t := tn) (q := te) (o := (zAr 4 10 (va_up ((fun _ => none)) (0 : Int).toNat (some te)))) (by first | assumption | omega | (intro h9; omega))).trans he9
    have hm_3_s := zu_s (zu (zu M tn (zAr 4 10 (fun _ => none))) tl (zOb 0 [.int (zI mc), .ref tn, .int (zI 0)])) tn (zAr 4 10 (va_up ((fun _ => none)) (0 : Int).toNat (some te)))
    refine z_aload_n F 1 dJx4a65c_add_72be8_15 rfl rfl ?_
    refine z_iload_n F 3 dJx4a65c_add_72be8_16 rfl rfl ?_
    refine z_iconst (z := 1) F dJx4a65c_add_72be8_17 (by decide) ?_
    refine z_iadd F dJx4a65c_add_72be8_18 ?_
    refine z_put (ty := .int) F [.int (zI mc), .ref tn, .int (zI (0 + 1))] fl_Jx4a65c_48 tyJx4a65c tyJx4a65c_ok nmJx4a65c rfl (by decide +kernel) rfl rfl hm_3_0 (Nat.le_of_ble_eq_true rfl) rfl dJx4a65c_add_72be8_19 ?_
    have hm_4_0 := (zu_n (M := (zu (zu (zu M tn (zAr 4 10 (fun _ => none))) tl (zOb 0 [.int (zI mc), .ref tn, .int (zI 0)])) tn (zAr 4 10 (va_up ((fun _ => none)) (0 : Int).toNat (some te))))) (t := tl) (q := te) (o := (zOb 0 [.int (zI mc), .ref tn, .int (zI (0 + 1))])) (by first | assumption | omega | (intro h9; omega))).trans hm_3_1
    have hm_4_1 := (zu_n (M := (zu (zu (zu M tn (zAr 4 10 (fun _ => none))) tl (zOb 0 [.int (zI mc), .ref tn, .int (zI 0)])) tn (zAr 4 10 (va_up ((fun _ => none)) (0 : Int).toNat (some te))))) (t := tl) (q := tn) (o := (zOb 0 [.int (zI mc), .ref tn, .int (zI (0 + 1))])) (by first | assumption | omega | (intro h9; omega))).trans hm_3_s
    have hm_4_s := zu_s (zu (zu (zu M tn (zAr 4 10 (fun _ => none))) tl (zOb 0 [.int (zI mc), .ref tn, .int (zI 0)])) tn (zAr 4 10 (va_up ((fun _ => none)) (0 : Int).toNat (some te)))) tl (zOb 0 [.int (zI mc), .ref tn, .int (zI (0 + 1))])
    exact z_retv F rfl (by first | decide | assumption | omega) (by first | decide | assumption | omega) dJx4a65c_add_72be8_22 ⟨rfl, by rw [zu_cm (o := zOb 0 [.int (zI mc), .ref tn, .int (zI 0)]) n1, zu_zu, zu_zu]; rfl⟩

set_option maxRecDepth 100000 in
set_option maxHeartbeats 4000000 in
theorem c_add3C {l : Launch} (hfl : l.stackTraces = false) (G : zG) {tl td tn cap : Nat} {mc : Int} {f : Nat → Option Nat} {te : Nat} {es : List Value} {ci : Nat} {C : String} {T : u_T} {NN : Nat} (M : zM) (h0 : M tl = some (zOb 0 [.int (zI mc), .ref td, .int (zI cap)])) (h1 : M td = some (zAr 4 cap f)) (h2 : M tn = none) (m1 : tn % 64 ≠ 63) (hc1 : 2 ≤ cap) (hc2 : cap ≤ 22) (hn9 : te ≠ tl) (he : M te = some (zOb ci es)) (hc : vwCl[ci]? = some (C, T, NN)) (hq : (C, "java/lang/Object") ∈ zNC) (hel : ∀ j x, f j = some x → ∃ fs, M x = some (zOb ci fs)) : zCn l G yJx4a65c_add_72be8 (.code yJx4a65c_add_72be8 cJx4a65c_add_72be8 4 none) rJx4a65c_add_72be8 [.ref tl, .ref te, .ref td, .int (zI cap)] M (zRv (fun M2 => M2 = zu (zu M tn (zAr 4 (cap + cap / 2) (va_up (va_cpy f (fun _ => none) 0 0 cap) cap (some te)))) tl (zOb 0 [.int (zI mc), .ref tn, .int (zI ((cap : Int) + 1))]))) zN := by
  refine zStart hfl (by decide) (own := RJx4a65c) rfl [(0, .ref tl), (1, .ref te), (2, .ref td), (3, .int (zI cap))] (Nat.le_of_ble_eq_true rfl) rfl (fun k hkl hinit hk0 F => ?_)
  have n1 : tl ≠ tn := fun h => by rw [h, h2] at h0; cases h0
  have n2 : te ≠ tn := fun h => by rw [h, h2] at he; cases he
  refine z_iload_n F 3 dJx4a65c_add_72be8_0 rfl rfl ?_
  refine z_aload_n F 2 dJx4a65c_add_72be8_1 rfl rfl ?_
  refine z_alenr F h1 dJx4a65c_add_72be8_2 ?_
  refine z_icmp_ne F 11 dJx4a65c_add_72be8_3 (by decide) (by omega) (by omega) (fun c_1 => ?_) (fun c_1 => ?_)
  · skip
    exact absurd rfl c_1
  · skip
    refine z_aload_n F 0 dJx4a65c_add_72be8_6 rfl rfl ?_
    refine z_callV F [] [] (c_growB F.2.2.1 G M h0 h1 h2 m1 hc1 hc2 hc hq hel) cv_Jx4a65c_129 h0 rfl rfl rfl ⟨by decide, by decide⟩ ⟨by decide, by decide⟩ (Nat.le_of_ble_eq_true rfl) dJx4a65c_add_72be8_7 z_nx (z_kr (fun x_2 M_2 h_2 => ?_))
    have hx9 := (h_2).1.symm
    have hm9 := (h_2).2.symm
    subst hx9
    subst hm9
    have he9 : ∃ es9, zu (zu M tn (zAr 4 (cap + cap / 2) (va_cpy f (fun _ => none) 0 0 cap))) tl (zOb 0 [.int (zI mc), .ref tn, .int (zI cap)]) te = some (zOb ci es9) := by
      by_cases e9 : te = tl
      · have hci : ci = 0 := by
          rw [e9, h0] at he
          cases he
          rfl
        rw [e9, hci]
        exact ⟨_, zu_s _ _ _⟩
      · exact ⟨es, (zu_n e9).trans ((zu_n n2).trans he)⟩
    obtain ⟨es9, he9⟩ := he9
    refine z_astore_n F [(2, .ref tn), (0, .ref tl), (1, .ref te), (3, .int (zI cap))] dJx4a65c_add_72be8_10 rfl (by decide) rfl ?_
    refine z_aload_n F 0 dJx4a65c_add_72be8_11 rfl rfl ?_
    refine z_iload_n F 3 dJx4a65c_add_72be8_12 rfl rfl ?_
    refine z_aload_n F 2 dJx4a65c_add_72be8_13 rfl rfl ?_
    refine z_aast4 F ((zu_n (Ne.symm n1)).trans (zu_s _ _ _)) he9 hc hq (by omega) (by omega) (by omega) dJx4a65c_add_72be8_14 ?_
    have hm_3_0 := (zu_n (M := (zu (zu M tn (zAr 4 (cap + cap / 2) (va_cpy f (fun _ => none) 0 0 cap))) tl (zOb 0 [.int (zI mc), .ref tn, .int (zI cap)]))) (t := tn) (q := tl) (o := (zAr 4 (cap + cap / 2) (va_up ((va_cpy f (fun _ => none) 0 0 cap)) (cap : Int).toNat (some te)))) (by first | assumption | omega | (intro h9; omega))).trans (zu_s _ _ _)
    have hm_3_1 := (zu_n (M := (zu (zu M tn (zAr 4 (cap + cap / 2) (va_cpy f (fun _ => none) 0 0 cap))) tl (zOb 0 [.int (zI mc), .ref tn, .int (zI cap)]))) (t := tn) (q := te) (o := (zAr 4 (cap + cap / 2) (va_up ((va_cpy f (fun _ => none) 0 0 cap)) (cap : Int).toNat (some te)))) (by first | assumption | omega | (intro h9; omega))).trans he9
    have hm_3_s := zu_s (zu (zu M tn (zAr 4 (cap + cap / 2) (va_cpy f (fun _ => none) 0 0 cap))) tl (zOb 0 [.int (zI mc), .ref tn, .int (zI cap)])) tn (zAr 4 (cap + cap / 2) (va_up ((va_cpy f (fun _ => none) 0 0 cap)) (cap : Int).toNat (some te)))
    refine z_aload_n F 1 dJx4a65c_add_72be8_15 rfl rfl ?_
    refine z_iload_n F 3 dJx4a65c_add_72be8_16 rfl rfl ?_
    refine z_iconst (z := 1) F dJx4a65c_add_72be8_17 (by decide) ?_
    refine z_iadd F dJx4a65c_add_72be8_18 ?_
    refine z_put (ty := .int) F [.int (zI mc), .ref tn, .int (zI (cap + 1))] fl_Jx4a65c_48 tyJx4a65c tyJx4a65c_ok nmJx4a65c rfl (by decide +kernel) rfl rfl hm_3_0 (Nat.le_of_ble_eq_true rfl) rfl dJx4a65c_add_72be8_19 ?_
    have hm_4_0 := (zu_n (M := (zu (zu (zu M tn (zAr 4 (cap + cap / 2) (va_cpy f (fun _ => none) 0 0 cap))) tl (zOb 0 [.int (zI mc), .ref tn, .int (zI cap)])) tn (zAr 4 (cap + cap / 2) (va_up ((va_cpy f (fun _ => none) 0 0 cap)) (cap : Int).toNat (some te))))) (t := tl) (q := te) (o := (zOb 0 [.int (zI mc), .ref tn, .int (zI (cap + 1))])) (by first | assumption | omega | (intro h9; omega))).trans hm_3_1
    have hm_4_1 := (zu_n (M := (zu (zu (zu M tn (zAr 4 (cap + cap / 2) (va_cpy f (fun _ => none) 0 0 cap))) tl (zOb 0 [.int (zI mc), .ref tn, .int (zI cap)])) tn (zAr 4 (cap + cap / 2) (va_up ((va_cpy f (fun _ => none) 0 0 cap)) (cap : Int).toNat (some te))))) (t := tl) (q := tn) (o := (zOb 0 [.int (zI mc), .ref tn, .int (zI (cap + 1))])) (by first | assumption | omega | (intro h9; omega))).trans hm_3_s
    have hm_4_s := zu_s (zu (zu (zu M tn (zAr 4 (cap + cap / 2) (va_cpy f (fun _ => none) 0 0 cap))) tl (zOb 0 [.int (zI mc), .ref tn, .int (zI cap)])) tn (zAr 4 (cap + cap / 2) (va_up ((va_cpy f (fun _ => none) 0 0 cap)) (cap : Int).toNat (some te)))) tl (zOb 0 [.int (zI mc), .ref tn, .int (zI (cap + 1))])
    exact z_retv F rfl (by first | decide | assumption | omega) (by first | decide | assumption | omega) dJx4a65c_add_72be8_22 ⟨rfl, by rw [zu_cm (o := zOb 0 [.int (zI mc), .ref tn, .int (zI cap)]) n1, zu_zu, zu_zu]; rfl⟩

abbrev rJx4a65c_add_9ea2d : Room := { frames := 6, cells := 1, slots := 33, locals := 170 }
set_option maxRecDepth 100000 in
set_option maxHeartbeats 4000000 in
theorem c_addA {l : Launch} (hfl : l.stackTraces = false) (G : zG) {tl td : Nat} {mc n : Int} {cap : Nat} {f : Nat → Option Nat} {te : Nat} {es : List Value} {ci : Nat} {C : String} {T : u_T} {NN : Nat} (M : zM) (h0 : M tl = some (zOb 0 [.int (zI mc), .ref td, .int (zI n)])) (h1 : M td = some (zAr 4 cap f)) (hn0 : 0 ≤ n) (hn : n < cap) (hcap : cap < 1000) (hn9 : te ≠ tl) (he : M te = some (zOb ci es)) (hc : vwCl[ci]? = some (C, T, NN)) (hq : (C, "java/lang/Object") ∈ zNC) : zCn l G yJx4a65c_add_9ea2d (.code yJx4a65c_add_9ea2d cJx4a65c_add_9ea2d 2 (some .boolean)) rJx4a65c_add_9ea2d [.ref tl, .ref te] M (zRi (fun x M2 => x = 1 ∧ M2 = zu (zu M td (zAr 4 cap (va_up f n.toNat (some te)))) tl (zOb 0 [.int (zI (mc + 1)), .ref td, .int (zI (n + 1))]))) zN := by
  refine zStart hfl (by decide) (own := RJx4a65c) rfl [(0, .ref tl), (1, .ref te)] (Nat.le_of_ble_eq_true rfl) rfl (fun k hkl hinit hk0 F => ?_)
  have n1 : tl ≠ td := fun h => by rw [h, h1] at h0; cases h0
  have n2 : te ≠ td := fun h => by rw [h, h1] at he; cases he
  refine z_aload_n F 0 dJx4a65c_add_9ea2d_0 rfl rfl ?_
  refine z_dup F dJx4a65c_add_9ea2d_1 rfl ?_
  refine z_getS (kf := 0) (ref := "java/util/ArrayList") F rfl inlJx4a65c (by decide) (zr_5 _ (List.mem_of_getElem? (i := 17) rfl)) (zr_5 _ (List.mem_of_getElem? (i := 18) rfl)) h0 rfl dJx4a65c_add_9ea2d_2 ?_
  refine z_iconst (z := 1) F dJx4a65c_add_9ea2d_5 (by decide) ?_
  refine z_iadd F dJx4a65c_add_9ea2d_6 ?_
  refine z_putS (kf := 0) (ref := "java/util/ArrayList") (ty := .int) F [.int (zI (mc + 1)), .ref td, .int (zI n)] rfl inlJx4a65c (by decide) (zr_5 _ (List.mem_of_getElem? (i := 17) rfl)) (zr_5 _ (List.mem_of_getElem? (i := 18) rfl)) tyJx4a65c tyJx4a65c_ok nmJx4a65c rfl (by decide +kernel) rfl rfl h0 (Nat.le_of_ble_eq_true rfl) rfl dJx4a65c_add_9ea2d_7 ?_
  have hm_1_0 := (zu_n (M := M) (t := tl) (q := td) (o := (zOb 0 [.int (zI (mc + 1)), .ref td, .int (zI n)])) (by first | assumption | omega | (intro h9; omega))).trans h1
  have hm_1_s := zu_s M tl (zOb 0 [.int (zI (mc + 1)), .ref td, .int (zI n)])
  refine z_aload_n F 0 dJx4a65c_add_9ea2d_10 rfl rfl ?_
  refine z_aload_n F 1 dJx4a65c_add_9ea2d_11 rfl rfl ?_
  refine z_aload_n F 0 dJx4a65c_add_9ea2d_12 rfl rfl ?_
  refine z_get F fl_Jx4a65c_9 hm_1_s rfl dJx4a65c_add_9ea2d_13 ?_
  refine z_aload_n F 0 dJx4a65c_add_9ea2d_16 rfl rfl ?_
  refine z_get F fl_Jx4a65c_48 hm_1_s rfl dJx4a65c_add_9ea2d_17 ?_
  refine z_callV F [.ref te, .ref td, .int (zI n)] [] (c_add3A F.2.2.1 G _ (zu_s _ _ _) ((zu_n (Ne.symm n1)).trans h1) hn0 hn hcap hn9 ((zu_n hn9).trans he) hc hq) cv_Jx4a65c_131 hm_1_s rfl rfl rfl ⟨by decide, by decide⟩ ⟨by decide, by decide⟩ (Nat.le_of_ble_eq_true rfl) dJx4a65c_add_9ea2d_20 z_nx (z_kv (fun M_2 h_2 => ?_))
  have hm9 := (h_2).symm
  subst hm9
  refine z_iconst (z := 1) F dJx4a65c_add_9ea2d_23 (by decide) ?_
  exact z_retz F rfl (by decide) (by first | decide | assumption | omega) (by first | decide | assumption | omega) dJx4a65c_add_9ea2d_24 ⟨_, rfl, rfl, zDup n1⟩

set_option maxRecDepth 100000 in
set_option maxHeartbeats 4000000 in
theorem c_addB {l : Launch} (hfl : l.stackTraces = false) (G : zG) {tl tn : Nat} {mc : Int} {te : Nat} {es : List Value} {ci : Nat} {C : String} {T : u_T} {NN : Nat} (M : zM) (h0 : M tl = some (zOb 0 [.int (zI mc), .ref 63, .int (zI 0)])) (h2 : M tn = none) (m1 : tn % 64 ≠ 63) (hn9 : te ≠ tl) (he : M te = some (zOb ci es)) (hc : vwCl[ci]? = some (C, T, NN)) (hq : (C, "java/lang/Object") ∈ zNC) : zCn l G yJx4a65c_add_9ea2d (.code yJx4a65c_add_9ea2d cJx4a65c_add_9ea2d 2 (some .boolean)) rJx4a65c_add_9ea2d [.ref tl, .ref te] M (zRi (fun x M2 => x = 1 ∧ M2 = zu (zu M tn (zAr 4 10 (va_up (fun _ => none) 0 (some te)))) tl (zOb 0 [.int (zI (mc + 1)), .ref tn, .int (zI 1)]))) zN := by
  refine zStart hfl (by decide) (own := RJx4a65c) rfl [(0, .ref tl), (1, .ref te)] (Nat.le_of_ble_eq_true rfl) rfl (fun k hkl hinit hk0 F => ?_)
  have n1 : tl ≠ tn := fun h => by rw [h, h2] at h0; cases h0
  have n2 : te ≠ tn := fun h => by rw [h, h2] at he; cases he
  refine z_aload_n F 0 dJx4a65c_add_9ea2d_0 rfl rfl ?_
  refine z_dup F dJx4a65c_add_9ea2d_1 rfl ?_
  refine z_getS (kf := 0) (ref := "java/util/ArrayList") F rfl inlJx4a65c (by decide) (zr_5 _ (List.mem_of_getElem? (i := 17) rfl)) (zr_5 _ (List.mem_of_getElem? (i := 18) rfl)) h0 rfl dJx4a65c_add_9ea2d_2 ?_
  refine z_iconst (z := 1) F dJx4a65c_add_9ea2d_5 (by decide) ?_
  refine z_iadd F dJx4a65c_add_9ea2d_6 ?_
  refine z_putS (kf := 0) (ref := "java/util/ArrayList") (ty := .int) F [.int (zI (mc + 1)), .ref 63, .int (zI 0)] rfl inlJx4a65c (by decide) (zr_5 _ (List.mem_of_getElem? (i := 17) rfl)) (zr_5 _ (List.mem_of_getElem? (i := 18) rfl)) tyJx4a65c tyJx4a65c_ok nmJx4a65c rfl (by decide +kernel) rfl rfl h0 (Nat.le_of_ble_eq_true rfl) rfl dJx4a65c_add_9ea2d_7 ?_
  have hm_1_s := zu_s M tl (zOb 0 [.int (zI (mc + 1)), .ref 63, .int (zI 0)])
  refine z_aload_n F 0 dJx4a65c_add_9ea2d_10 rfl rfl ?_
  refine z_aload_n F 1 dJx4a65c_add_9ea2d_11 rfl rfl ?_
  refine z_aload_n F 0 dJx4a65c_add_9ea2d_12 rfl rfl ?_
  refine z_get F fl_Jx4a65c_9 hm_1_s rfl dJx4a65c_add_9ea2d_13 ?_
  refine z_aload_n F 0 dJx4a65c_add_9ea2d_16 rfl rfl ?_
  refine z_get F fl_Jx4a65c_48 hm_1_s rfl dJx4a65c_add_9ea2d_17 ?_
  refine z_callV F [.ref te, .ref 63, .int (zI 0)] [] (c_add3B F.2.2.1 G _ (zu_s _ _ _) ((zu_n (Ne.symm n1)).trans h2) m1 hn9 ((zu_n hn9).trans he) hc hq) cv_Jx4a65c_131 hm_1_s rfl rfl rfl ⟨by decide, by decide⟩ ⟨by decide, by decide⟩ (Nat.le_of_ble_eq_true rfl) dJx4a65c_add_9ea2d_20 z_nx (z_kv (fun M_2 h_2 => ?_))
  have hm9 := (h_2).symm
  subst hm9
  refine z_iconst (z := 1) F dJx4a65c_add_9ea2d_23 (by decide) ?_
  exact z_retz F rfl (by decide) (by first | decide | assumption | omega) (by first | decide | assumption | omega) dJx4a65c_add_9ea2d_24 ⟨_, rfl, rfl, zDup n1⟩

set_option maxRecDepth 100000 in
set_option maxHeartbeats 4000000 in
theorem c_addC {l : Launch} (hfl : l.stackTraces = false) (G : zG) {tl td tn cap : Nat} {mc : Int} {f : Nat → Option Nat} {te : Nat} {es : List Value} {ci : Nat} {C : String} {T : u_T} {NN : Nat} (M : zM) (h0 : M tl = some (zOb 0 [.int (zI mc), .ref td, .int (zI cap)])) (h1 : M td = some (zAr 4 cap f)) (h2 : M tn = none) (m1 : tn % 64 ≠ 63) (hc1 : 2 ≤ cap) (hc2 : cap ≤ 22) (hn9 : te ≠ tl) (he : M te = some (zOb ci es)) (hc : vwCl[ci]? = some (C, T, NN)) (hq : (C, "java/lang/Object") ∈ zNC) (hel : ∀ j x, f j = some x → ∃ fs, M x = some (zOb ci fs)) : zCn l G yJx4a65c_add_9ea2d (.code yJx4a65c_add_9ea2d cJx4a65c_add_9ea2d 2 (some .boolean)) rJx4a65c_add_9ea2d [.ref tl, .ref te] M (zRi (fun x M2 => x = 1 ∧ M2 = zu (zu M tn (zAr 4 (cap + cap / 2) (va_up (va_cpy f (fun _ => none) 0 0 cap) cap (some te)))) tl (zOb 0 [.int (zI (mc + 1)), .ref tn, .int (zI ((cap : Int) + 1))]))) zN := by
  refine zStart hfl (by decide) (own := RJx4a65c) rfl [(0, .ref tl), (1, .ref te)] (Nat.le_of_ble_eq_true rfl) rfl (fun k hkl hinit hk0 F => ?_)
  have n1 : tl ≠ tn := fun h => by rw [h, h2] at h0; cases h0
  have n2 : te ≠ tn := fun h => by rw [h, h2] at he; cases he
  have n3 : tl ≠ td := fun h => by rw [h, h1] at h0; cases h0
  refine z_aload_n F 0 dJx4a65c_add_9ea2d_0 rfl rfl ?_
  refine z_dup F dJx4a65c_add_9ea2d_1 rfl ?_
  refine z_getS (kf := 0) (ref := "java/util/ArrayList") F rfl inlJx4a65c (by decide) (zr_5 _ (List.mem_of_getElem? (i := 17) rfl)) (zr_5 _ (List.mem_of_getElem? (i := 18) rfl)) h0 rfl dJx4a65c_add_9ea2d_2 ?_
  refine z_iconst (z := 1) F dJx4a65c_add_9ea2d_5 (by decide) ?_
  refine z_iadd F dJx4a65c_add_9ea2d_6 ?_
  refine z_putS (kf := 0) (ref := "java/util/ArrayList") (ty := .int) F [.int (zI (mc + 1)), .ref td, .int (zI cap)] rfl inlJx4a65c (by decide) (zr_5 _ (List.mem_of_getElem? (i := 17) rfl)) (zr_5 _ (List.mem_of_getElem? (i := 18) rfl)) tyJx4a65c tyJx4a65c_ok nmJx4a65c rfl (by decide +kernel) rfl rfl h0 (Nat.le_of_ble_eq_true rfl) rfl dJx4a65c_add_9ea2d_7 ?_
  have hm_1_0 := (zu_n (M := M) (t := tl) (q := td) (o := (zOb 0 [.int (zI (mc + 1)), .ref td, .int (zI cap)])) (by first | assumption | omega | (intro h9; omega))).trans h1
  have hm_1_s := zu_s M tl (zOb 0 [.int (zI (mc + 1)), .ref td, .int (zI cap)])
  refine z_aload_n F 0 dJx4a65c_add_9ea2d_10 rfl rfl ?_
  refine z_aload_n F 1 dJx4a65c_add_9ea2d_11 rfl rfl ?_
  refine z_aload_n F 0 dJx4a65c_add_9ea2d_12 rfl rfl ?_
  refine z_get F fl_Jx4a65c_9 hm_1_s rfl dJx4a65c_add_9ea2d_13 ?_
  refine z_aload_n F 0 dJx4a65c_add_9ea2d_16 rfl rfl ?_
  refine z_get F fl_Jx4a65c_48 hm_1_s rfl dJx4a65c_add_9ea2d_17 ?_
  refine z_callV F [.ref te, .ref td, .int (zI cap)] [] (c_add3C F.2.2.1 G _ (zu_s _ _ _) ((zu_n (Ne.symm n3)).trans h1) ((zu_n (Ne.symm n1)).trans h2) m1 hc1 hc2 hn9 ((zu_n hn9).trans he) hc hq (fun j x hx => by
    obtain ⟨fs, h9⟩ := hel j x hx
    by_cases e9 : x = tl
    · have hci : ci = 0 := by
        rw [e9, h0] at h9
        cases h9
        rfl
      rw [e9, hci]
      exact ⟨_, zu_s _ _ _⟩
    · exact ⟨fs, (zu_n e9).trans h9⟩)) cv_Jx4a65c_131 hm_1_s rfl rfl rfl ⟨by decide, by decide⟩ ⟨by decide, by decide⟩ (Nat.le_of_ble_eq_true rfl) dJx4a65c_add_9ea2d_20 z_nx (z_kv (fun M_2 h_2 => ?_))
  have hm9 := (h_2).symm
  subst hm9
  refine z_iconst (z := 1) F dJx4a65c_add_9ea2d_23 (by decide) ?_
  exact z_retz F rfl (by decide) (by first | decide | assumption | omega) (by first | decide | assumption | omega) dJx4a65c_add_9ea2d_24 ⟨_, rfl, rfl, zDup n1⟩

abbrev rJx4a65c_fastRemove_b59b0 : Room := { frames := 1, cells := 0, slots := 0, locals := 60 }
set_option maxRecDepth 100000 in
set_option maxHeartbeats 4000000 in
theorem c_Jx4a65c_fastRemove_b59b0 {l : Launch} (hfl : l.stackTraces = false) (G : zG) {tl td : Nat} {mc n : Int} {cap : Nat} {f : Nat → Option Nat} {i : Int} {ci : Nat} {C : String} {T : u_T} {NN : Nat} (M : zM) (h0 : M tl = some (zOb 0 [.int (zI mc), .ref td, .int (zI n)])) (h1 : M td = some (zAr 4 cap f)) (hi : 0 ≤ i) (hi2 : i < n) (hn : n ≤ cap) (hcap : cap < 1000) (hc : vwCl[ci]? = some (C, T, NN)) (hq : (C, "java/lang/Object") ∈ zNC) (hel : ∀ j x, f j = some x → ∃ fs, M x = some (zOb ci fs)) : zCn l G yJx4a65c_fastRemove_b59b0 (.code yJx4a65c_fastRemove_b59b0 cJx4a65c_fastRemove_b59b0 4 none) rJx4a65c_fastRemove_b59b0 [.ref tl, .ref td, .int (zI i)] M (zRv (fun M2 => M2 = zu (zu M td (zAr 4 cap (va_up (if i < n - 1 then va_cpy f f (i + 1).toNat i.toNat (n - 1 - i).toNat else f) (n - 1).toNat none))) tl (zOb 0 [.int (zI (mc + 1)), .ref td, .int (zI (n - 1))]))) zN := by
  refine zStart hfl (by decide) (own := RJx4a65c) rfl [(0, .ref tl), (1, .ref td), (2, .int (zI i))] (Nat.le_of_ble_eq_true rfl) rfl (fun k hkl hinit hk0 F => ?_)
  have n1 : tl ≠ td := fun h => by rw [h, h1] at h0; cases h0
  have hel9 : ∀ j x, f j = some x → ∃ fs, zu M tl (zOb 0 [.int (zI (mc + 1)), .ref td, .int (zI n)]) x = some (zOb ci fs) := fun j x hx => by
    obtain ⟨fs, h9⟩ := hel j x hx
    by_cases e9 : x = tl
    · have hci : ci = 0 := by
        rw [e9, h0] at h9
        cases h9
        rfl
      rw [e9, hci]
      exact ⟨_, zu_s _ _ _⟩
    · exact ⟨fs, (zu_n e9).trans h9⟩
  refine z_aload_n F 0 dJx4a65c_fastRemove_b59b0_0 rfl rfl ?_
  refine z_dup F dJx4a65c_fastRemove_b59b0_1 rfl ?_
  refine z_getS (kf := 0) (ref := "java/util/ArrayList") F rfl inlJx4a65c (by decide) (zr_5 _ (List.mem_of_getElem? (i := 17) rfl)) (zr_5 _ (List.mem_of_getElem? (i := 18) rfl)) h0 rfl dJx4a65c_fastRemove_b59b0_2 ?_
  refine z_iconst (z := 1) F dJx4a65c_fastRemove_b59b0_5 (by decide) ?_
  refine z_iadd F dJx4a65c_fastRemove_b59b0_6 ?_
  refine z_putS (kf := 0) (ref := "java/util/ArrayList") (ty := .int) F [.int (zI (mc + 1)), .ref td, .int (zI n)] rfl inlJx4a65c (by decide) (zr_5 _ (List.mem_of_getElem? (i := 17) rfl)) (zr_5 _ (List.mem_of_getElem? (i := 18) rfl)) tyJx4a65c tyJx4a65c_ok nmJx4a65c rfl (by decide +kernel) rfl rfl h0 (Nat.le_of_ble_eq_true rfl) rfl dJx4a65c_fastRemove_b59b0_7 ?_
  have hm_1_0 := (zu_n (M := M) (t := tl) (q := td) (o := (zOb 0 [.int (zI (mc + 1)), .ref td, .int (zI n)])) (by first | assumption | omega | (intro h9; omega))).trans h1
  have hm_1_s := zu_s M tl (zOb 0 [.int (zI (mc + 1)), .ref td, .int (zI n)])
  refine z_aload_n F 0 dJx4a65c_fastRemove_b59b0_10 rfl rfl ?_
  refine z_get F fl_Jx4a65c_48 hm_1_s rfl dJx4a65c_fastRemove_b59b0_11 ?_
  refine z_iconst (z := 1) F dJx4a65c_fastRemove_b59b0_14 (by decide) ?_
  refine z_isub F dJx4a65c_fastRemove_b59b0_15 ?_
  refine z_dup F dJx4a65c_fastRemove_b59b0_16 rfl ?_
  refine z_istore_n F [(3, .int (zI (n - 1))), (0, .ref tl), (1, .ref td), (2, .int (zI i))] dJx4a65c_fastRemove_b59b0_17 rfl (by decide) rfl ?_
  refine z_iload_n F 3 dJx4a65c_fastRemove_b59b0_18 rfl rfl ?_
  refine z_icmp_le F 34 dJx4a65c_fastRemove_b59b0_19 (by decide) (by omega) (by omega) (fun c_2 => ?_) (fun c_2 => ?_)
  · skip
    refine z_aload_n F 2 dJx4a65c_fastRemove_b59b0_34 rfl rfl ?_
    refine z_aload_n F 1 dJx4a65c_fastRemove_b59b0_35 rfl rfl ?_
    refine z_iload_n F 0 dJx4a65c_fastRemove_b59b0_36 rfl rfl ?_
    refine z_dup_x1 F dJx4a65c_fastRemove_b59b0_37 rfl rfl ?_
    refine z_put (ty := .int) F [.int (zI (mc + 1)), .ref td, .int (zI (n - 1))] fl_Jx4a65c_48 tyJx4a65c tyJx4a65c_ok nmJx4a65c rfl (by decide +kernel) rfl rfl hm_1_s (Nat.le_of_ble_eq_true rfl) rfl dJx4a65c_fastRemove_b59b0_38 ?_
    have hm_3_0 := (zu_n (M := (zu M tl (zOb 0 [.int (zI (mc + 1)), .ref td, .int (zI n)]))) (t := tl) (q := td) (o := (zOb 0 [.int (zI (mc + 1)), .ref td, .int (zI (n - 1))])) (by first | assumption | omega | (intro h9; omega))).trans hm_1_0
    have hm_3_s := zu_s (zu M tl (zOb 0 [.int (zI (mc + 1)), .ref td, .int (zI n)])) tl (zOb 0 [.int (zI (mc + 1)), .ref td, .int (zI (n - 1))])
    refine z_null F dJx4a65c_fastRemove_b59b0_41 ?_
    refine z_aastN F hm_3_0 (by omega) (by omega) (by omega) dJx4a65c_fastRemove_b59b0_42 ?_
    have hm_4_0 := (zu_n (M := (zu (zu M tl (zOb 0 [.int (zI (mc + 1)), .ref td, .int (zI n)])) tl (zOb 0 [.int (zI (mc + 1)), .ref td, .int (zI (n - 1))]))) (t := td) (q := tl) (o := (zAr 4 cap (va_up f (n - 1 : Int).toNat none))) (by first | assumption | omega | (intro h9; omega))).trans hm_3_s
    have hm_4_s := zu_s (zu (zu M tl (zOb 0 [.int (zI (mc + 1)), .ref td, .int (zI n)])) tl (zOb 0 [.int (zI (mc + 1)), .ref td, .int (zI (n - 1))])) td (zAr 4 cap (va_up f (n - 1 : Int).toNat none))
    exact z_retv F rfl (by first | decide | assumption | omega) (by first | decide | assumption | omega) dJx4a65c_fastRemove_b59b0_43 ⟨rfl, by first | (rw [if_pos (show i < n - 1 by omega)]; exact zRem1 n1) | (rw [if_neg (show ¬ i < n - 1 by omega)]; exact zRem2 n1)⟩
  · skip
    refine z_aload_n F 2 dJx4a65c_fastRemove_b59b0_22 rfl rfl ?_
    refine z_iload_n F 3 dJx4a65c_fastRemove_b59b0_23 rfl rfl ?_
    refine z_iconst (z := 1) F dJx4a65c_fastRemove_b59b0_24 (by decide) ?_
    refine z_iadd F dJx4a65c_fastRemove_b59b0_25 ?_
    refine z_aload_n F 2 dJx4a65c_fastRemove_b59b0_26 rfl rfl ?_
    refine z_iload_n F 3 dJx4a65c_fastRemove_b59b0_27 rfl rfl ?_
    refine z_iload_n F 0 dJx4a65c_fastRemove_b59b0_28 rfl rfl ?_
    refine z_iload_n F 3 dJx4a65c_fastRemove_b59b0_29 rfl rfl ?_
    refine z_isub F dJx4a65c_fastRemove_b59b0_30 ?_
    refine z_copyr F (zr_23 _ (List.mem_of_getElem? (i := 4) rfl)) (zr_7 _ (List.mem_of_getElem? (i := 14) rfl)) (zr_7 _ (List.mem_of_getElem? (i := 15) rfl)) (zr_7 _ (List.mem_of_getElem? (i := 16) rfl)) hm_1_0 hm_1_0 hc hq hel9 (by omega) (by omega) (by omega) (by omega) (by omega) (by omega) (by omega) (by decide) (Nat.le_of_ble_eq_true rfl) dJx4a65c_fastRemove_b59b0_31 ?_
    have hm_5_0 := (zu_n (M := (zu M tl (zOb 0 [.int (zI (mc + 1)), .ref td, .int (zI n)]))) (t := td) (q := tl) (o := (zAr 4 cap (va_cpy f f (i + 1 : Int).toNat (i : Int).toNat ((n - 1) - i : Int).toNat))) (by first | assumption | omega | (intro h9; omega))).trans hm_1_s
    have hm_5_s := zu_s (zu M tl (zOb 0 [.int (zI (mc + 1)), .ref td, .int (zI n)])) td (zAr 4 cap (va_cpy f f (i + 1 : Int).toNat (i : Int).toNat ((n - 1) - i : Int).toNat))
    refine z_aload_n F 2 dJx4a65c_fastRemove_b59b0_34 rfl rfl ?_
    refine z_aload_n F 1 dJx4a65c_fastRemove_b59b0_35 rfl rfl ?_
    refine z_iload_n F 0 dJx4a65c_fastRemove_b59b0_36 rfl rfl ?_
    refine z_dup_x1 F dJx4a65c_fastRemove_b59b0_37 rfl rfl ?_
    refine z_put (ty := .int) F [.int (zI (mc + 1)), .ref td, .int (zI (n - 1))] fl_Jx4a65c_48 tyJx4a65c tyJx4a65c_ok nmJx4a65c rfl (by decide +kernel) rfl rfl hm_5_0 (Nat.le_of_ble_eq_true rfl) rfl dJx4a65c_fastRemove_b59b0_38 ?_
    have hm_6_0 := (zu_n (M := (zu (zu M tl (zOb 0 [.int (zI (mc + 1)), .ref td, .int (zI n)])) td (zAr 4 cap (va_cpy f f (i + 1 : Int).toNat (i : Int).toNat ((n - 1) - i : Int).toNat)))) (t := tl) (q := td) (o := (zOb 0 [.int (zI (mc + 1)), .ref td, .int (zI (n - 1))])) (by first | assumption | omega | (intro h9; omega))).trans hm_5_s
    have hm_6_s := zu_s (zu (zu M tl (zOb 0 [.int (zI (mc + 1)), .ref td, .int (zI n)])) td (zAr 4 cap (va_cpy f f (i + 1 : Int).toNat (i : Int).toNat ((n - 1) - i : Int).toNat))) tl (zOb 0 [.int (zI (mc + 1)), .ref td, .int (zI (n - 1))])
    refine z_null F dJx4a65c_fastRemove_b59b0_41 ?_
    refine z_aastN F hm_6_0 (by omega) (by omega) (by omega) dJx4a65c_fastRemove_b59b0_42 ?_
    have hm_7_0 := (zu_n (M := (zu (zu (zu M tl (zOb 0 [.int (zI (mc + 1)), .ref td, .int (zI n)])) td (zAr 4 cap (va_cpy f f (i + 1 : Int).toNat (i : Int).toNat ((n - 1) - i : Int).toNat))) tl (zOb 0 [.int (zI (mc + 1)), .ref td, .int (zI (n - 1))]))) (t := td) (q := tl) (o := (zAr 4 cap (va_up ((va_cpy f f (i + 1 : Int).toNat (i : Int).toNat ((n - 1) - i : Int).toNat)) (n - 1 : Int).toNat none))) (by first | assumption | omega | (intro h9; omega))).trans hm_6_s
    have hm_7_s := zu_s (zu (zu (zu M tl (zOb 0 [.int (zI (mc + 1)), .ref td, .int (zI n)])) td (zAr 4 cap (va_cpy f f (i + 1 : Int).toNat (i : Int).toNat ((n - 1) - i : Int).toNat))) tl (zOb 0 [.int (zI (mc + 1)), .ref td, .int (zI (n - 1))])) td (zAr 4 cap (va_up ((va_cpy f f (i + 1 : Int).toNat (i : Int).toNat ((n - 1) - i : Int).toNat)) (n - 1 : Int).toNat none))
    exact z_retv F rfl (by first | decide | assumption | omega) (by first | decide | assumption | omega) dJx4a65c_fastRemove_b59b0_43 ⟨rfl, by first | (rw [if_pos (show i < n - 1 by omega)]; exact zRem1 n1) | (rw [if_neg (show ¬ i < n - 1 by omega)]; exact zRem2 n1)⟩

abbrev rJx4a65c_remove_915e3 : Room := { frames := 2, cells := 0, slots := 0, locals := 83 }
set_option maxRecDepth 100000 in
set_option maxHeartbeats 4000000 in
theorem c_Jx4a65c_remove_915e3 {l : Launch} (hfl : l.stackTraces = false) (G : zG) {tl td : Nat} {mc n : Int} {cap : Nat} {f : Nat → Option Nat} {i : Int} {a : Nat} {ci : Nat} {C : String} {T : u_T} {NN : Nat} (M : zM) (h0 : M tl = some (zOb 0 [.int (zI mc), .ref td, .int (zI n)])) (h1 : M td = some (zAr 4 cap f)) (hi : 0 ≤ i) (hi2 : i < n) (hn : n ≤ cap) (hcap : cap < 1000) (hf : f i.toNat = some a) (hc : vwCl[ci]? = some (C, T, NN)) (hq : (C, "java/lang/Object") ∈ zNC) (hel : ∀ j x, f j = some x → ∃ fs, M x = some (zOb ci fs)) : zCn l G yJx4a65c_remove_915e3 (.code yJx4a65c_remove_915e3 cJx4a65c_remove_915e3 4 (some (.object "java/lang/Object"))) rJx4a65c_remove_915e3 [.ref tl, .int (zI i)] M (zRr (fun x M2 => x = a ∧ M2 = zu (zu M td (zAr 4 cap (va_up (if i < n - 1 then va_cpy f f (i + 1).toNat i.toNat (n - 1 - i).toNat else f) (n - 1).toNat none))) tl (zOb 0 [.int (zI (mc + 1)), .ref td, .int (zI (n - 1))]))) zN := by
  refine zStart hfl (by decide) (own := RJx4a65c) rfl [(0, .ref tl), (1, .int (zI i))] (Nat.le_of_ble_eq_true rfl) rfl (fun k hkl hinit hk0 F => ?_)
  have hc9 : cap < 2147483648 := by omega
  refine z_iload_n F 1 dJx4a65c_remove_915e3_0 rfl rfl ?_
  refine z_aload_n F 0 dJx4a65c_remove_915e3_1 rfl rfl ?_
  refine z_get F fl_Jx4a65c_48 h0 rfl dJx4a65c_remove_915e3_2 ?_
  refine z_callS F [.int (zI i), .int (zI n)] [] (c_J15_checkIndex_7cf53 F.2.2.1 G M hi hi2 (by omega)) cs_Jx4a65c_118 rfl ⟨by decide, by decide⟩ ⟨by decide, by decide⟩ (Nat.le_of_ble_eq_true rfl) dJx4a65c_remove_915e3_5 z_nx (z_ki (fun x_1 M_1 h_1 => ?_))
  have hx9 := (h_1).1.symm
  have hm9 := (h_1).2.symm
  subst hx9
  subst hm9
  refine z_pop F dJx4a65c_remove_915e3_8 rfl ?_
  refine z_aload_n F 0 dJx4a65c_remove_915e3_9 rfl rfl ?_
  refine z_get F fl_Jx4a65c_9 h0 rfl dJx4a65c_remove_915e3_10 ?_
  refine z_astore_n F [(2, .ref td), (0, .ref tl), (1, .int (zI i))] dJx4a65c_remove_915e3_13 rfl (by decide) rfl ?_
  refine z_aload_n F 0 dJx4a65c_remove_915e3_14 rfl rfl ?_
  refine z_iload_n F 2 dJx4a65c_remove_915e3_15 rfl rfl ?_
  refine z_aald4 (a := a) F h1 (by omega) (by omega) hc9 hf dJx4a65c_remove_915e3_16 ?_
  refine z_astore_n F [(3, .ref a), (2, .ref td), (0, .ref tl), (1, .int (zI i))] dJx4a65c_remove_915e3_17 rfl (by decide) rfl ?_
  refine z_aload_n F 2 dJx4a65c_remove_915e3_18 rfl rfl ?_
  refine z_aload_n F 1 dJx4a65c_remove_915e3_19 rfl rfl ?_
  refine z_iload_n F 3 dJx4a65c_remove_915e3_20 rfl rfl ?_
  refine z_callV F [.ref td, .int (zI i)] [] (c_Jx4a65c_fastRemove_b59b0 F.2.2.1 G M h0 h1 hi hi2 hn hcap hc hq hel) cv_Jx4a65c_144 h0 rfl rfl rfl ⟨by decide, by decide⟩ ⟨by decide, by decide⟩ (Nat.le_of_ble_eq_true rfl) dJx4a65c_remove_915e3_21 z_nx (z_kv (fun M_2 h_2 => ?_))
  have hm9 := (h_2).symm
  subst hm9
  refine z_aload_n F 0 dJx4a65c_remove_915e3_24 rfl rfl ?_
  exact z_reta F rfl (Or.inl ⟨_, rfl⟩) (by first | decide | assumption | omega) (by first | decide | assumption | omega) dJx4a65c_remove_915e3_25 ⟨_, rfl, rfl, rfl⟩

abbrev rJxa1e45_init_da8c8 : Room := { frames := 1, cells := 0, slots := 0, locals := 20 }
set_option maxRecDepth 100000 in
set_option maxHeartbeats 4000000 in
theorem c_Jxa1e45_init_da8c8 {l : Launch} (hfl : l.stackTraces = false) (G : zG) {tl : Nat} (M : zM)  : zCn l G yJxa1e45_init_da8c8 (.code yJxa1e45_init_da8c8 cJxa1e45_init_da8c8 1 none) rJxa1e45_init_da8c8 [.ref tl] M (zRv (fun M2 => M2 = M)) zN := by
  refine zStart hfl (by decide) (own := RJxa1e45) rfl [(0, .ref tl)] (Nat.le_of_ble_eq_true rfl) rfl (fun k hkl hinit hk0 F => ?_)
  refine z_aload_n F 0 dJxa1e45_init_da8c8_0 rfl rfl ?_
  refine z_objI F (zr_2 _ (List.mem_of_getElem? (i := 18) rfl)) (zr_1 _ (List.mem_of_getElem? (i := 11) rfl)) (zr_1 _ (List.mem_of_getElem? (i := 12) rfl)) (Nat.le_of_ble_eq_true rfl) (Nat.le_of_ble_eq_true rfl) dJxa1e45_init_da8c8_1 ?_
  exact z_retv F rfl (by first | decide | assumption | omega) (by first | decide | assumption | omega) dJxa1e45_init_da8c8_4 ⟨rfl, rfl⟩

abbrev rJxc12de_init_da8c8 : Room := { frames := 2, cells := 0, slots := 0, locals := 40 }
set_option maxRecDepth 100000 in
set_option maxHeartbeats 4000000 in
theorem c_Jxc12de_init_da8c8 {l : Launch} (hfl : l.stackTraces = false) (G : zG) {tl : Nat} {v : Value} {n : Int} (M : zM) (h0 : M tl = some (zOb 0 [.int (zI 0), v, .int (zI n)])) : zCn l G yJxc12de_init_da8c8 (.code yJxc12de_init_da8c8 cJxc12de_init_da8c8 1 none) rJxc12de_init_da8c8 [.ref tl] M (zRv (fun M2 => M2 = M)) zN := by
  refine zStart hfl (by decide) (own := RJxc12de) rfl [(0, .ref tl)] (Nat.le_of_ble_eq_true rfl) rfl (fun k hkl hinit hk0 F => ?_)
  refine z_aload_n F 0 dJxc12de_init_da8c8_0 rfl rfl ?_
  refine z_callI F [] [] (c_Jxa1e45_init_da8c8 F.2.2.1 G M) ci_Jxc12de_1 rfl ⟨by decide, by decide⟩ ⟨by decide, by decide⟩ (Nat.le_of_ble_eq_true rfl) dJxc12de_init_da8c8_1 z_nx (z_kv (fun M_1 h_1 => ?_))
  have hm9 := (h_1).symm
  subst hm9
  refine z_aload_n F 0 dJxc12de_init_da8c8_4 rfl rfl ?_
  refine z_iconst (z := 0) F dJxc12de_init_da8c8_5 (by decide) ?_
  refine z_put (ty := .int) F [.int (zI 0), v, .int (zI n)] fl_Jxc12de_7 tyJx4a65c tyJx4a65c_ok nmJx4a65c rfl (by decide +kernel) rfl rfl h0 (Nat.le_of_ble_eq_true rfl) rfl dJxc12de_init_da8c8_6 ?_
  have hm_2_s := zu_s M tl (zOb 0 [.int (zI 0), v, .int (zI n)])
  exact z_retv F rfl (by first | decide | assumption | omega) (by first | decide | assumption | omega) dJxc12de_init_da8c8_9 ⟨rfl, zu_id h0⟩

abbrev rJx4a65c_init_da8c8 : Room := { frames := 3, cells := 0, slots := 0, locals := 60 }
set_option maxRecDepth 100000 in
set_option maxHeartbeats 4000000 in
theorem c_Jx4a65c_init_da8c8 {l : Launch} (hfl : l.stackTraces = false) (G : zG) {tl : Nat} (M : zM) (h0 : M tl = some (zOb 0 [.int (zI 0), .null, .int (zI 0)])) : zCn l G yJx4a65c_init_da8c8 (.code yJx4a65c_init_da8c8 cJx4a65c_init_da8c8 1 none) rJx4a65c_init_da8c8 [.ref tl] M (zRv (fun M2 => M2 = zu M tl (zOb 0 [.int (zI 0), .ref 63, .int (zI 0)]))) zN := by
  refine zStart hfl (by decide) (own := RJx4a65c) rfl [(0, .ref tl)] (Nat.le_of_ble_eq_true rfl) rfl (fun k hkl hinit hk0 F => ?_)
  refine z_aload_n F 0 dJx4a65c_init_da8c8_0 rfl rfl ?_
  refine z_callI F [] [] (c_Jxc12de_init_da8c8 F.2.2.1 G M h0) ci_Jx4a65c_1 rfl ⟨by decide, by decide⟩ ⟨by decide, by decide⟩ (Nat.le_of_ble_eq_true rfl) dJx4a65c_init_da8c8_1 z_nx (z_kv (fun M_1 h_1 => ?_))
  have hm9 := (h_1).symm
  subst hm9
  refine z_aload_n F 0 dJx4a65c_init_da8c8_4 rfl rfl ?_
  refine z_gets F rfl (zr_2 _ (List.mem_of_getElem? (i := 7) rfl)) dJx4a65c_init_da8c8_5 ?_
  refine z_put (ty := .array (.object "java/lang/Object")) F [.int (zI 0), .ref 63, .int (zI 0)] fl_Jx4a65c_9 tyJx4a65c tyJx4a65c_ok nmJx4a65c rfl (by decide +kernel) rfl rfl h0 (Nat.le_of_ble_eq_true rfl) rfl dJx4a65c_init_da8c8_8 ?_
  have hm_2_s := zu_s M tl (zOb 0 [.int (zI 0), .ref 63, .int (zI 0)])
  exact z_retv F rfl (by first | decide | assumption | omega) (by first | decide | assumption | omega) dJx4a65c_init_da8c8_11 ⟨rfl, rfl⟩
end
section
/-! ===== throws ===== -/
def zNB (cls : String) : List Cond := zND.map Cond.declares ++ [.castable cls cls]
abbrev zNs : List String := ["java/lang/RuntimeException", "java/lang/Exception"]
theorem z_thr {k : zC} {G : zG} {R : Room} {nL : Nat} {M : zM} {cl sl pc : Nat} {lv : List (Nat × Value)} {st : List Value} {cc : ByteArray} {ret : Option FieldType} {Rc : Option Value → zM → Prop} {Xc : String → zM → Prop} (F : zF k G cc nL RX6 wsL_law ret []) {cls text : String} {ik is ic : Nat} (hcls : Bundle.fit cls = true) (hk : Cond.classLink RX6 ik cls ∈ wsL_law) (hini : Cond.initialized cls ∈ wsL_law) (hstr : (is, text) ∈ zStr) (hat : ∀ w ∈ (vx_atS RX6 ic cls zNs).filter goodWord, w ∈ wsL_law) (hat2 : ∀ w ∈ (vx_atS RX6 ic cls zNs).filter (fun w => !goodWord w), w ∈ zNB cls) (hcc : (cls, cls) ∈ zNC) (hgood : ∀ w ∈ Cond.classLink RX6 ik cls :: Cond.initialized cls :: vx_atS RX6 ic cls zNs, vx_ot w = true)
    (d0 : decode cc pc = .ok (.new ik, 3)) (d3 : decode cc (pc + 3) = .ok (.dup, 1)) (d4 : decode cc (pc + 4) = .ok (.ldc is, 2)) (d6 : decode cc (pc + 6) = .ok (.invokespecial ic, 3)) (d9 : decode cc (pc + 9) = .ok (.athrow, 1))
    (hRf : 5 < R.frames) (hRl : (st.map fun v => v.category).sum + 82 ≤ R.locals) (hc : cl + 1 ≤ R.cells) (hs9 : sl + 6 ≤ R.slots) (hx9 : Xc cls M) : zJ k G R nL (zMQ k G R Rc Xc) M cl sl pc lv st := by
  obtain ⟨⟨p, l, e, s, m⟩, ⟨args, below, meth, c⟩, L0, M0⟩ := k
  obtain ⟨⟨hx, hb, hml, hown, hts⟩, hLow, hfl, hlk, hrt, htb⟩ := F
  intro L H locs ls hR hA hv hs hS hl
  obtain ⟨a, ha⟩ := hLow.2.2.2.2.2.1 _ hstr
  refine vx_throwS (names := zNs) (sa := a) hx hb hfl hown hcls (by decide) (hts _ hk) (hts _ hini) ha (vx_hat (B := zNB cls) (fun w h => hts _ (hat w h)) hat2 (fun w h => ?_)) hgood hLow.2.1 hLow.2.2.1 hS (hl.1.trans hml.symm) d0 d3 d4 d6 d9 (fun x h => by rw [htb] at h; cases h) (by show 2 + 3 < _; exact hRf) (by rw [zmap_cat]; exact hRl) hc hs9 hlk (fun t hal h1 h2 => ⟨⟨M, L, hx9, ?_, hA⟩, ?_⟩) hS.2.2 hc hs9
  · rcases List.mem_append.mp h with h | h
    · obtain ⟨y, hy, rfl⟩ := List.mem_map.mp h
      exact va_Nw.use rfl (hLow.2.2.2.2.2.2.2.2.2.2.2.2.2 y hy)
    · rw [List.mem_singleton.mp h]
      exact va_Nw.use rfl (hLow.2.2.2.2.2.2.2.2.2.2.1 _ hcc)
  · obtain ⟨e1, hz, hi, ws, hP, hD, hw⟩ := hR
    exact ⟨e1, hz, hi, ws, hP.kept (fun k9 q hk9 => h2 q.1 (vx_lt hP hk9)), hD, hw⟩
  · exact ⟨Nat.le_trans hS.1 h1, fun q g1 g2 => (h2 q (Nat.lt_of_lt_of_le g1 hS.1)).trans (hS.2.1 q g1 g2)⟩
theorem zat_IAE : ∀ w ∈ (vx_atS RX6 43 "java/lang/IllegalArgumentException" zNs).filter goodWord, w ∈ wsL_law := fun w h => List.mem_append_left _ (List.mem_append_left _ (List.mem_append_left _ (List.mem_append_right _ h)))
theorem zab_IAE : ∀ w ∈ (vx_atS RX6 43 "java/lang/IllegalArgumentException" zNs).filter (fun w => !goodWord w), w ∈ zNB "java/lang/IllegalArgumentException" := by decide +kernel
theorem zcc_IAE : ("java/lang/IllegalArgumentException", "java/lang/IllegalArgumentException") ∈ zNC := by decide +kernel
theorem zfi_IAE : Bundle.fit "java/lang/IllegalArgumentException" = true := by decide +kernel
theorem zgd_IAE : ∀ w ∈ Cond.classLink RX6 39 "java/lang/IllegalArgumentException" :: Cond.initialized "java/lang/IllegalArgumentException" :: vx_atS RX6 43 "java/lang/IllegalArgumentException" zNs, vx_ot w = true := by decide +kernel
theorem zk_IAE : Cond.classLink RX6 39 "java/lang/IllegalArgumentException" ∈ wsL_law := (zr_4 _ (List.mem_of_getElem? (i := 12) rfl))
theorem zi_IAE : Cond.initialized "java/lang/IllegalArgumentException" ∈ wsL_law := (zr_4 _ (List.mem_of_getElem? (i := 13) rfl))
theorem zat_ISE : ∀ w ∈ (vx_atS RX6 60 "java/lang/IllegalStateException" zNs).filter goodWord, w ∈ wsL_law := fun w h => List.mem_append_left _ (List.mem_append_left _ (List.mem_append_right _ h))
theorem zab_ISE : ∀ w ∈ (vx_atS RX6 60 "java/lang/IllegalStateException" zNs).filter (fun w => !goodWord w), w ∈ zNB "java/lang/IllegalStateException" := by decide +kernel
theorem zcc_ISE : ("java/lang/IllegalStateException", "java/lang/IllegalStateException") ∈ zNC := by decide +kernel
theorem zfi_ISE : Bundle.fit "java/lang/IllegalStateException" = true := by decide +kernel
theorem zgd_ISE : ∀ w ∈ Cond.classLink RX6 56 "java/lang/IllegalStateException" :: Cond.initialized "java/lang/IllegalStateException" :: vx_atS RX6 60 "java/lang/IllegalStateException" zNs, vx_ot w = true := by decide +kernel
theorem zk_ISE : Cond.classLink RX6 56 "java/lang/IllegalStateException" ∈ wsL_law := (zr_4 _ (List.mem_of_getElem? (i := 14) rfl))
theorem zi_ISE : Cond.initialized "java/lang/IllegalStateException" ∈ wsL_law := (zr_4 _ (List.mem_of_getElem? (i := 15) rfl))
theorem zat_IOO : ∀ w ∈ (vx_atS RX6 184 "java/lang/IndexOutOfBoundsException" zNs).filter goodWord, w ∈ wsL_law := fun w h => List.mem_append_left _ (List.mem_append_right _ h)
theorem zab_IOO : ∀ w ∈ (vx_atS RX6 184 "java/lang/IndexOutOfBoundsException" zNs).filter (fun w => !goodWord w), w ∈ zNB "java/lang/IndexOutOfBoundsException" := by decide +kernel
theorem zcc_IOO : ("java/lang/IndexOutOfBoundsException", "java/lang/IndexOutOfBoundsException") ∈ zNC := by decide +kernel
theorem zfi_IOO : Bundle.fit "java/lang/IndexOutOfBoundsException" = true := by decide +kernel
theorem zgd_IOO : ∀ w ∈ Cond.classLink RX6 180 "java/lang/IndexOutOfBoundsException" :: Cond.initialized "java/lang/IndexOutOfBoundsException" :: vx_atS RX6 184 "java/lang/IndexOutOfBoundsException" zNs, vx_ot w = true := by decide +kernel
theorem zk_IOO : Cond.classLink RX6 180 "java/lang/IndexOutOfBoundsException" ∈ wsL_law := (zr_11 _ (List.mem_of_getElem? (i := 3) rfl))
theorem zi_IOO : Cond.initialized "java/lang/IndexOutOfBoundsException" ∈ wsL_law := (zr_11 _ (List.mem_of_getElem? (i := 4) rfl))
theorem zat_NSE : ∀ w ∈ (vx_atS RX6 166 "java/util/NoSuchElementException" zNs).filter goodWord, w ∈ wsL_law := fun w h => List.mem_append_right _ h
theorem zab_NSE : ∀ w ∈ (vx_atS RX6 166 "java/util/NoSuchElementException" zNs).filter (fun w => !goodWord w), w ∈ zNB "java/util/NoSuchElementException" := by decide +kernel
theorem zcc_NSE : ("java/util/NoSuchElementException", "java/util/NoSuchElementException") ∈ zNC := by decide +kernel
theorem zfi_NSE : Bundle.fit "java/util/NoSuchElementException" = true := by decide +kernel
theorem zgd_NSE : ∀ w ∈ Cond.classLink RX6 162 "java/util/NoSuchElementException" :: Cond.initialized "java/util/NoSuchElementException" :: vx_atS RX6 166 "java/util/NoSuchElementException" zNs, vx_ot w = true := by decide +kernel
theorem zk_NSE : Cond.classLink RX6 162 "java/util/NoSuchElementException" ∈ wsL_law := (zr_13 _ (List.mem_of_getElem? (i := 14) rfl))
theorem zi_NSE : Cond.initialized "java/util/NoSuchElementException" ∈ wsL_law := (zr_13 _ (List.mem_of_getElem? (i := 15) rfl))
end
